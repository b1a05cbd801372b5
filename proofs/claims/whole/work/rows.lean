section
-- ===== PART A: goes FIRST, ahead of the names: the tables' words, and 'selects' of the private methods out of them =====
/-- a private method of a class that the tables say can be made, by its rows of tables_1 -/
def lw_okq (q : MethodName × Nat) : Prop := (q.1.cls ≠ "java/lang/invoke/MethodHandle" ∧ q.1.cls ≠ "java/lang/invoke/VarHandle") ∧ Cond.instantiable q.1.cls q.2 ∈ tables_1 ∧ Cond.privateMethod q.1 ∈ tables_1 ∧ Cond.instanceMethod q.1 ∈ tables_1
theorem lw_p0 : lw_okq (⟨"BoundDraws$Hits", "sumUp", "(IIIII)V"⟩, 3) := ⟨⟨by decide +kernel, by decide +kernel⟩, List.mem_of_getElem? (i := 29) (by decide +kernel), List.mem_of_getElem? (i := 246) (by decide +kernel), List.mem_of_getElem? (i := 247) (by decide +kernel)⟩
theorem lw_p1 : lw_okq (⟨"BoundDraws$Hits", "sumOfAtLeast", "(IIII)V"⟩, 3) := ⟨⟨by decide +kernel, by decide +kernel⟩, List.mem_of_getElem? (i := 29) (by decide +kernel), List.mem_of_getElem? (i := 250) (by decide +kernel), List.mem_of_getElem? (i := 251) (by decide +kernel)⟩
theorem lw_p2 : lw_okq (⟨"BoundDraws$Units", "takeGroups", "(LBoundDraws$Rows;)V"⟩, 3) := ⟨⟨by decide +kernel, by decide +kernel⟩, List.mem_of_getElem? (i := 79) (by decide +kernel), List.mem_of_getElem? (i := 327) (by decide +kernel), List.mem_of_getElem? (i := 328) (by decide +kernel)⟩
theorem lw_p3 : lw_okq (⟨"BoundDraws$Units", "add", "(II)V"⟩, 3) := ⟨⟨by decide +kernel, by decide +kernel⟩, List.mem_of_getElem? (i := 79) (by decide +kernel), List.mem_of_getElem? (i := 339) (by decide +kernel), List.mem_of_getElem? (i := 340) (by decide +kernel)⟩
theorem lw_p4 : lw_okq (⟨"BoundDraws$Units", "takeRows", "(LBoundDraws$Rows;)V"⟩, 3) := ⟨⟨by decide +kernel, by decide +kernel⟩, List.mem_of_getElem? (i := 79) (by decide +kernel), List.mem_of_getElem? (i := 343) (by decide +kernel), List.mem_of_getElem? (i := 344) (by decide +kernel)⟩
theorem lw_p5 : lw_okq (⟨"BoundDraws$Turns", "measure", "(LBoundDraws$Units;)V"⟩, 4) := ⟨⟨by decide +kernel, by decide +kernel⟩, List.mem_of_getElem? (i := 95) (by decide +kernel), List.mem_of_getElem? (i := 356) (by decide +kernel), List.mem_of_getElem? (i := 357) (by decide +kernel)⟩
theorem lw_p6 : lw_okq (⟨"BoundDraws$Turns", "reach", "()I"⟩, 4) := ⟨⟨by decide +kernel, by decide +kernel⟩, List.mem_of_getElem? (i := 95) (by decide +kernel), List.mem_of_getElem? (i := 369) (by decide +kernel), List.mem_of_getElem? (i := 370) (by decide +kernel)⟩
theorem lw_p7 : lw_okq (⟨"BoundDraws$Turns", "takeSign", "(II)V"⟩, 4) := ⟨⟨by decide +kernel, by decide +kernel⟩, List.mem_of_getElem? (i := 95) (by decide +kernel), List.mem_of_getElem? (i := 377) (by decide +kernel), List.mem_of_getElem? (i := 378) (by decide +kernel)⟩
theorem lw_p8 : lw_okq (⟨"BoundDraws$Turns", "waysUpTo", "(I)J"⟩, 4) := ⟨⟨by decide +kernel, by decide +kernel⟩, List.mem_of_getElem? (i := 95) (by decide +kernel), List.mem_of_getElem? (i := 389) (by decide +kernel), List.mem_of_getElem? (i := 390) (by decide +kernel)⟩
theorem lw_p9 : lw_okq (⟨"BoundDraws$Turns", "allWays", "()J"⟩, 4) := ⟨⟨by decide +kernel, by decide +kernel⟩, List.mem_of_getElem? (i := 95) (by decide +kernel), List.mem_of_getElem? (i := 393) (by decide +kernel), List.mem_of_getElem? (i := 394) (by decide +kernel)⟩
theorem lw_p10 : lw_okq (⟨"BoundDraws$Rows", "reachedAlone", "([I[II)I"⟩, 4) := ⟨⟨by decide +kernel, by decide +kernel⟩, List.mem_of_getElem? (i := 59) (by decide +kernel), List.mem_of_getElem? (i := 410) (by decide +kernel), List.mem_of_getElem? (i := 411) (by decide +kernel)⟩
theorem lw_p11 : lw_okq (⟨"BoundDraws", "takeOddsOf", "(II)V"⟩, 8) := ⟨⟨by decide +kernel, by decide +kernel⟩, List.mem_of_getElem? (i := 21) (by decide +kernel), List.mem_of_getElem? (i := 422) (by decide +kernel), List.mem_of_getElem? (i := 423) (by decide +kernel)⟩
theorem lw_p12 : lw_okq (⟨"BoundDraws$Means", "insertMean", "()V"⟩, 4) := ⟨⟨by decide +kernel, by decide +kernel⟩, List.mem_of_getElem? (i := 114) (by decide +kernel), List.mem_of_getElem? (i := 467) (by decide +kernel), List.mem_of_getElem? (i := 468) (by decide +kernel)⟩
theorem lw_p13 : lw_okq (⟨"BoundDraws$Compares", "placeOf", "(I)I"⟩, 3) := ⟨⟨by decide +kernel, by decide +kernel⟩, List.mem_of_getElem? (i := 146) (by decide +kernel), List.mem_of_getElem? (i := 518) (by decide +kernel), List.mem_of_getElem? (i := 519) (by decide +kernel)⟩
theorem lw_p14 : lw_okq (⟨"BoundDraws$Compares", "standsAhead", "(II)Z"⟩, 3) := ⟨⟨by decide +kernel, by decide +kernel⟩, List.mem_of_getElem? (i := 146) (by decide +kernel), List.mem_of_getElem? (i := 522) (by decide +kernel), List.mem_of_getElem? (i := 523) (by decide +kernel)⟩
theorem lw_p15 : lw_okq (⟨"BoundDraws$Compares", "raiseByGreatest", "(ILBoundDraws$Ratio;)V"⟩, 3) := ⟨⟨by decide +kernel, by decide +kernel⟩, List.mem_of_getElem? (i := 146) (by decide +kernel), List.mem_of_getElem? (i := 526) (by decide +kernel), List.mem_of_getElem? (i := 527) (by decide +kernel)⟩
def lw_privs_1 : List (MethodName × Nat) := [(⟨"BoundDraws$Hits", "sumUp", "(IIIII)V"⟩, 3), (⟨"BoundDraws$Hits", "sumOfAtLeast", "(IIII)V"⟩, 3), (⟨"BoundDraws$Units", "takeGroups", "(LBoundDraws$Rows;)V"⟩, 3), (⟨"BoundDraws$Units", "add", "(II)V"⟩, 3), (⟨"BoundDraws$Units", "takeRows", "(LBoundDraws$Rows;)V"⟩, 3), (⟨"BoundDraws$Turns", "measure", "(LBoundDraws$Units;)V"⟩, 4), (⟨"BoundDraws$Turns", "reach", "()I"⟩, 4), (⟨"BoundDraws$Turns", "takeSign", "(II)V"⟩, 4), (⟨"BoundDraws$Turns", "waysUpTo", "(I)J"⟩, 4), (⟨"BoundDraws$Turns", "allWays", "()J"⟩, 4), (⟨"BoundDraws$Rows", "reachedAlone", "([I[II)I"⟩, 4), (⟨"BoundDraws", "takeOddsOf", "(II)V"⟩, 8), (⟨"BoundDraws$Means", "insertMean", "()V"⟩, 4), (⟨"BoundDraws$Compares", "placeOf", "(I)I"⟩, 3), (⟨"BoundDraws$Compares", "standsAhead", "(II)Z"⟩, 3), (⟨"BoundDraws$Compares", "raiseByGreatest", "(ILBoundDraws$Ratio;)V"⟩, 3)]
theorem lw_r1 : ∀ q ∈ lw_privs_1, lw_okq q := List.forall_mem_cons.mpr ⟨lw_p0, List.forall_mem_cons.mpr ⟨lw_p1, List.forall_mem_cons.mpr ⟨lw_p2, List.forall_mem_cons.mpr ⟨lw_p3, List.forall_mem_cons.mpr ⟨lw_p4, List.forall_mem_cons.mpr ⟨lw_p5, List.forall_mem_cons.mpr ⟨lw_p6, List.forall_mem_cons.mpr ⟨lw_p7, List.forall_mem_cons.mpr ⟨lw_p8, List.forall_mem_cons.mpr ⟨lw_p9, List.forall_mem_cons.mpr ⟨lw_p10, List.forall_mem_cons.mpr ⟨lw_p11, List.forall_mem_cons.mpr ⟨lw_p12, List.forall_mem_cons.mpr ⟨lw_p13, List.forall_mem_cons.mpr ⟨lw_p14, List.forall_mem_cons.mpr ⟨lw_p15, fun _ h => absurd h List.not_mem_nil⟩⟩⟩⟩⟩⟩⟩⟩⟩⟩⟩⟩⟩⟩⟩⟩
theorem lw_p16 : lw_okq (⟨"BoundDraws$Compares", "raiseByLeast", "(ILBoundDraws$Ratio;)V"⟩, 3) := ⟨⟨by decide +kernel, by decide +kernel⟩, List.mem_of_getElem? (i := 146) (by decide +kernel), List.mem_of_getElem? (i := 531) (by decide +kernel), List.mem_of_getElem? (i := 532) (by decide +kernel)⟩
theorem lw_p17 : lw_okq (⟨"java/lang/Throwable", "fillInStackTrace", "(I)Ljava/lang/Throwable;"⟩, 6) := ⟨⟨by decide +kernel, by decide +kernel⟩, List.mem_of_getElem? (i := 664) (by decide +kernel), List.mem_of_getElem? (i := 662) (by decide +kernel), List.mem_of_getElem? (i := 663) (by decide +kernel)⟩
theorem lw_p18 : lw_okq (⟨"BoundDrawsModel", "sumUp", "(IIIII)V"⟩, 26) := ⟨⟨by decide +kernel, by decide +kernel⟩, List.mem_of_getElem? (i := 767) (by decide +kernel), List.mem_of_getElem? (i := 870) (by decide +kernel), List.mem_of_getElem? (i := 871) (by decide +kernel)⟩
theorem lw_p19 : lw_okq (⟨"BoundDrawsModel", "beside", "(IIIIIII)I"⟩, 26) := ⟨⟨by decide +kernel, by decide +kernel⟩, List.mem_of_getElem? (i := 767) (by decide +kernel), List.mem_of_getElem? (i := 895) (by decide +kernel), List.mem_of_getElem? (i := 896) (by decide +kernel)⟩
theorem lw_p20 : lw_okq (⟨"BoundDrawsModel", "unite", "(Z)V"⟩, 26) := ⟨⟨by decide +kernel, by decide +kernel⟩, List.mem_of_getElem? (i := 767) (by decide +kernel), List.mem_of_getElem? (i := 927) (by decide +kernel), List.mem_of_getElem? (i := 928) (by decide +kernel)⟩
theorem lw_p21 : lw_okq (⟨"BoundDrawsModel", "count", "(IZ)I"⟩, 26) := ⟨⟨by decide +kernel, by decide +kernel⟩, List.mem_of_getElem? (i := 767) (by decide +kernel), List.mem_of_getElem? (i := 937) (by decide +kernel), List.mem_of_getElem? (i := 938) (by decide +kernel)⟩
theorem lw_p22 : lw_okq (⟨"BoundDrawsModel", "placeOf", "(I)I"⟩, 26) := ⟨⟨by decide +kernel, by decide +kernel⟩, List.mem_of_getElem? (i := 767) (by decide +kernel), List.mem_of_getElem? (i := 980) (by decide +kernel), List.mem_of_getElem? (i := 981) (by decide +kernel)⟩
theorem lw_p23 : lw_okq (⟨"BoundDrawsModel", "isRich", "()Z"⟩, 26) := ⟨⟨by decide +kernel, by decide +kernel⟩, List.mem_of_getElem? (i := 767) (by decide +kernel), List.mem_of_getElem? (i := 996) (by decide +kernel), List.mem_of_getElem? (i := 997) (by decide +kernel)⟩
def lw_privs_2 : List (MethodName × Nat) := [(⟨"BoundDraws$Compares", "raiseByLeast", "(ILBoundDraws$Ratio;)V"⟩, 3), (⟨"java/lang/Throwable", "fillInStackTrace", "(I)Ljava/lang/Throwable;"⟩, 6), (⟨"BoundDrawsModel", "sumUp", "(IIIII)V"⟩, 26), (⟨"BoundDrawsModel", "beside", "(IIIIIII)I"⟩, 26), (⟨"BoundDrawsModel", "unite", "(Z)V"⟩, 26), (⟨"BoundDrawsModel", "count", "(IZ)I"⟩, 26), (⟨"BoundDrawsModel", "placeOf", "(I)I"⟩, 26), (⟨"BoundDrawsModel", "isRich", "()Z"⟩, 26)]
theorem lw_r2 : ∀ q ∈ lw_privs_2, lw_okq q := List.forall_mem_cons.mpr ⟨lw_p16, List.forall_mem_cons.mpr ⟨lw_p17, List.forall_mem_cons.mpr ⟨lw_p18, List.forall_mem_cons.mpr ⟨lw_p19, List.forall_mem_cons.mpr ⟨lw_p20, List.forall_mem_cons.mpr ⟨lw_p21, List.forall_mem_cons.mpr ⟨lw_p22, List.forall_mem_cons.mpr ⟨lw_p23, fun _ h => absurd h List.not_mem_nil⟩⟩⟩⟩⟩⟩⟩⟩
def lw_privs : List (MethodName × Nat) := lw_privs_1 ++ (lw_privs_2)
def lw_tbl : List Cond := k2_sels lw_privs ++ tables_1
theorem lw_privs_ok : ∀ q ∈ lw_privs, lw_okq q := by
  show ∀ q ∈ lw_privs_1 ++ (lw_privs_2), lw_okq q
  exact List.forall_mem_append.mpr ⟨lw_r1, lw_r2⟩
end
section
/-! ===== BEGIN words of one list among another's, by their places ===== -/
theorem goodIn_r {big : List Cond} (ws : List Cond) (ps : List Nat) (hp : ws = ps.filterMap (fun i => big[i]?)) (h : ws.all goodWord = true) : GoodIn big ws := by
  intro w hw
  have h1 := List.all_eq_true.mp h w hw
  rw [hp] at hw
  obtain ⟨i, -, hi⟩ := List.mem_filterMap.mp hw
  have hm : w ∈ big := by first | exact List.mem_of_getElem? hi | exact List.getElem?_mem hi
  exact ⟨hm, good_of_word h1⟩
theorem goodIn_app {big a b : List Cond} (ha : GoodIn big a) (hb : GoodIn big b) : GoodIn big (a ++ b) := fun w h => (List.mem_append.mp h).elim (ha w) (hb w)
theorem goodIn_ca {big a b : List Cond} {c : Cond} (ha : GoodIn big (c :: a)) (hb : GoodIn big b) : GoodIn big (c :: (a ++ b)) := fun w h => (List.mem_cons.mp h).elim (fun e => ha w (List.mem_cons.mpr (Or.inl e))) (fun h => (List.mem_append.mp h).elim (fun h => ha w (List.mem_cons.mpr (Or.inr h))) (hb w))
theorem goodIn_sub {big ws : List Cond} (hm : ∀ w ∈ ws, w ∈ big) (h : ws.all goodWord = true) : GoodIn big ws := fun w hw => ⟨hm w hw, good_of_word (List.all_eq_true.mp h w hw)⟩
/-! ===== END ===== -/

/-! ===== BEGIN exceptions that leave a method, and their catching by the caller (launches without stack traces) ===== -/
section VXA
/-! The laws vx_back, vx_callV, vx_callS, vx_callSW, vx_throw0, vx_throwS follow proofs of the library, with one case more: JvmDerived/Free/Laws.lean (Back.of_free), Shelf42/LK1.lean (callV, callS), Shelf/KitTraced.lean (throwNew0V, throwNewS). -/
/-- where a method has thrown q: the class by its name, the cell, what was written, the world -/
def vx_T (XC : String → State → State → Prop) (st : State) (q : Addr) (t : State) (mc ms : Nat) (free : Addr → Prop) : Prop :=
  ∃ (E : String) (ce : Cell) (L : List Loc), XC E st t ∧ t.heap[q]? = some ce ∧ ce.vm = .none ∧ st.vm.findClass E = some ce.cls ∧ st.WarmedH t.vm ∧ st.sameButNew ({ t with vm := st.vm } : State) L mc ms ∧ ∀ z ∈ L, free z.base
def vx_Q (Qc : Array Value → State → Outcome → State → Prop) (XC : String → State → State → Prop) (mc ms : Nat) (free : Addr → Prop) : Array Value → State → Outcome → State → Prop := fun a st o t =>
  (Qc a st o t ∧ ∃ L, FrameEnd st o t L mc ms ∧ ∀ q ∈ L, free q.base) ∨ ∃ q, o = .threw q ∧ vx_T XC st q t mc ms free
/-- a callee that returns or throws -/
def vx_Met (l : Launch) (y : MethodName) (ws : List Cond) (rm : Room) (Pc : Array Value → State → Prop) (Qc : Array Value → State → Outcome → State → Prop) (XC : String → State → State → Prop) (mc ms : Nat) (free : Addr → Prop) : Prop :=
  MetFree l y (headSpec ws rm) Pc (fun _ _ _ _ _ => True) (vx_Q Qc XC mc ms free)
def vx_Post (XC : String → State → State → Prop) (mc ms : Nat) (free : Addr → Prop) : Pt → Array Value → Addr → Pt → Prop := fun A a q B =>
  ∃ (g : JFrame) (mk : MethodId) (t : State) (L : List Loc) (E : String) (ce : Cell), B.U.heap = t.heap ∧ B.U.vm = t.vm ∧ XC E (A.U.calling g mk a) t ∧ t.heap[q]? = some ce ∧ ce.vm = .none ∧ A.U.vm.findClass E = some ce.cls ∧ B.locs = A.locs ++ L ∧ (∀ z ∈ L, free z.base) ∧ B.cells = A.cells + mc ∧ B.slots = A.slots + ms
def vx_Back (l : Launch) (R : Room) (p : Program) (e : Env) (below : List Frame) (s : State) (sargs : Array Value) (y : MethodName) (len W9 : Nat)
    (Pre : Pt → Array Value → Prop) (Post : Pt → Array Value → Option Value → Pt → Prop) (PostX : Pt → Array Value → Addr → Pt → Prop) : Prop :=
  ∀ (m : MethodId) (meth : Method) (c : Code) (A : Pt) (g : JFrame) (ig : Instr) (mk : MethodId) (a : Array Value),
    Stand p l e R s m sargs below meth c A.U A.locs A.cells A.slots → g.method = m → g.locals.size = c.maxLocals → decode c.code g.pc = .ok (ig, len) →
    2 * g.monitorRoom + (g.stack.map fun v => v.category).sum ≤ W9 → A.U.methodNamed? y = some mk → Pre A a →
    (∃ (v : Option Value) (B : Pt), Stand p l e R s m sargs below meth c B.U B.locs B.cells B.slots ∧ Post A a v B ∧
      Steps p.tables e below (doInvoke e (A.U.setTop g) [] mk a).1 (B.U.setTop { g with pc := g.pc + len, stack := v.toList ++ g.stack })) ∨
    (∃ (q : Addr) (B : Pt), Stand p l e R s m sargs below meth c B.U B.locs B.cells B.slots ∧ PostX A a q B ∧
      Steps p.tables e below (doInvoke e (A.U.setTop g) [] mk a).1 ((B.U.setTop g).pushFrame (.throwing q)))
section Payer
variable {l : Launch} {R : Room} {p : Program} {e : Env} {below : List Frame} {s : State} {sargs : Array Value} {y : MethodName} {len W9 : Nat}
theorem vx_back {ws : List Cond} {rm : Room} {Pc : Array Value → State → Prop} {Qc : Array Value → State → Outcome → State → Prop} {XC : String → State → State → Prop} {mc ms : Nat} {free : Addr → Prop} {bytes : ByteArray} {maxL : Nat} {ret : Option FieldType}
    (hM : vx_Met l y ws rm Pc Qc XC mc ms free) (hblind : FrameBlind Pc) (hrc : rm.cells = mc) (hrs : rm.slots = ms)
    (hframes : rm.frames + 1 ≤ R.frames) (hlocals : W9 + (maxL + 11) + rm.locals ≤ R.locals)
    (hws : ∀ w ∈ ws, ∀ a' U, s.WarmedH U.vm → w.before a' U = true) (hcode : Cond.code y bytes maxL ret ∈ ws) (hinit : ∀ a' U, s.WarmedH U.vm → (Cond.initialized y.cls).before a' U = true) :
    vx_Back l R p e below s sargs y len W9 (PreOf R mc ms Pc) (PostOf Qc mc ms free) (vx_Post XC mc ms free) := by
  intro m meth c A g ig mk a X hg hsize hdg hW hn hp
  have h1 : (headSpec ws rm).pre.before a A.U = true := atoms_intro fun w hw => hws w hw _ _ X.warmed
  have h2 : (Cond.code y bytes maxL ret).before a A.U = true := hws _ hcode _ _ X.warmed
  have h3 : (Cond.initialized y.cls).before a A.U = true := hinit _ _ X.warmed
  have h4 : A.cells + (headSpec ws rm).room.cells ≤ R.cells := by rw [show (headSpec ws rm).room.cells = mc from hrc]; exact hp.1
  have h5 : A.slots + (headSpec ws rm).room.slots ≤ R.slots := by rw [show (headSpec ws rm).room.slots = ms from hrs]; exact hp.2.1
  have hPc : Pc a (A.U.calling g mk a) := hblind _ _ _ _ hp.2.2
  obtain ⟨U, Ls, c0, s0⟩ := A
  dsimp only [Pt.U, Pt.locs, Pt.cells, Pt.slots] at h1 h2 h3 h4 h5 X hn hPc ⊢
  obtain ⟨methY, cY, hmY, hcY, -, hlY, -, -, -, -⟩ := Cond.code_spec hn h2
  obtain ⟨kY, hkY, -⟩ := className_of_methodNamed hn
  have hinitY : kY.init = .initialized := Cond.initialized_spec (findClass_of_methodNamed hn) hkY h3
  have h : At U g.method c below := by rw [hg]; exact X.here
  have hlocals9 : W9 + (maxL + 11) + (headSpec ws rm).room.locals ≤ R.locals := hlocals
  have happ : (headSpec ws rm).appliesLoose y e.platform (U.calling g mk a) = true :=
    Spec.appliesLoose_calling (g := g) h hdg hn hkY hinitY
      (X.room_calling (g := g) (R' := (headSpec ws rm).room) hsize hmY hcY hframes (by rw [hlY]; omega) h4 h5) h1
  obtain ⟨mid, hmid⟩ := h.above
  have hfr : (U.setTop g).frames = (.java g :: mid) ++ below := by rw [State.frames_setTop' g h.top, hmid]; rfl
  obtain ⟨o, s₂, hsteps, -, hend, hq⟩ := Steps.callFree hM p X.admits X.cas X.clock (acts := []) hfr happ hPc trivial
  have hq' : vx_Q Qc XC mc ms free a (U.calling g mk a) o s₂ := hq
  rw [State.frames_setTop' g h.top] at hend
  obtain ⟨g₀, hg0⟩ := Option.isSome_iff_exists.mp h.top
  obtain ⟨r, hr⟩ := State.topJava?_eq_some.mp hg0
  have hr' : (({ U with heap := s₂.heap, slotsUsed := s₂.slotsUsed } : State).setVm s₂.vm).frames = .java g₀ :: r := hr
  rcases hq' with ⟨hqc, L, hfe, hL⟩ | ⟨q, rfl, E, ce, L, hx, hce, hcv, hcl, hW₂, hsm, hL⟩
  · obtain ⟨⟨v, rfl⟩, hW₂, e2, q2, q3, q4, q5, q6⟩ := id hfe
    have e3 : s₂ = ({ (U.calling g mk a).setFrames s₂.frames with heap := s₂.heap, slotsUsed := s₂.slotsUsed } : State).setVm s₂.vm := by
      have : s₂ = ({ s₂ with vm := (U.calling g mk a).vm } : State).setVm s₂.vm := rfl
      rw [e2] at this
      exact this
    obtain ⟨c₂, i₂, len₂, hc₂, hd₂, hf₂⟩ := hend
    have hW' : U.WarmedH s₂.vm := hW₂
    have hcc : c₂ = c := by
      have h1 : s₂.code? g.method = U.code? g.method := by
        rw [State.code?_eq, State.code?_eq, hW'.alike.method?]
      exact Option.some.inj (hc₂.symm.trans (h1.trans h.code))
    subst hcc
    have hlen : len₂ = len := by rw [hdg] at hd₂; cases hd₂; rfl
    subst hlen
    have hs₂ : s₂ = (({ U with heap := s₂.heap, slotsUsed := s₂.slotsUsed } : State).setVm s₂.vm).setTop { g with pc := g.pc + len₂, stack := v.toList ++ g.stack } := by
      refine e3.trans ?_
      rw [hf₂, State.calling_eq h.top, State.setFrames_setFrames, State.setTop_of_frames _ hr', hr]
      rfl
    have hsame : U.sameButNew ({ U with heap := s₂.heap, slotsUsed := s₂.slotsUsed } : State) L mc ms := by
      refine ⟨?_, q2, q3, q4, q5, q6⟩
      obtain ⟨t, ht, -⟩ := State.frames_cons hr
      show ({ U with heap := s₂.heap, slotsUsed := s₂.slotsUsed } : State) = { U.setFrames U.frames with heap := s₂.heap, slotsUsed := s₂.slotsUsed }
      rw [State.setFrames_self ht]
    subst hg
    refine Or.inl ⟨v, ⟨(({ U with heap := s₂.heap, slotsUsed := s₂.slotsUsed } : State).setVm s₂.vm), Ls ++ L, c0 + mc, s0 + ms⟩,
      ⟨X.admits, X.cas, X.clock, X.frames, X.room, X.hears, X.method, X.code, (X.here.setHeapUsed s₂.heap s₂.slotsUsed).setVm hW'.alike, X.tail, State.WarmedH.trans X.warmed hW', X.limits, X.bytes, X.same.trans (hsame.setVm s.vm)⟩,
      ⟨g, mk, s₂, L, rfl, rfl, hqc, rfl, hL, rfl, rfl⟩, ?_⟩
    show Steps p.tables e below _ ((({ U with heap := s₂.heap, slotsUsed := s₂.slotsUsed } : State).setVm s₂.vm).setTop { g with pc := g.pc + len₂, stack := v.toList ++ g.stack })
    rw [← hs₂]
    exact hsteps
  · obtain ⟨e2, q2, q3, q4, q5, q6⟩ := id hsm
    have e3 : s₂ = ({ (U.calling g mk a).setFrames s₂.frames with heap := s₂.heap, slotsUsed := s₂.slotsUsed } : State).setVm s₂.vm := by
      have : s₂ = ({ s₂ with vm := (U.calling g mk a).vm } : State).setVm s₂.vm := rfl
      rw [e2] at this
      exact this
    have hf₂ : s₂.frames = .throwing q :: .java g :: U.frames.tail := hend
    have hW' : U.WarmedH s₂.vm := hW₂
    have hs₂ : s₂ = ((({ U with heap := s₂.heap, slotsUsed := s₂.slotsUsed } : State).setVm s₂.vm).setTop g).pushFrame (.throwing q) := by
      refine e3.trans ?_
      rw [hf₂, State.calling_eq h.top, State.setFrames_setFrames, State.pushFrame, State.frames_setTop _ hr', State.setTop_of_frames _ hr', State.setFrames_setFrames, hr]
      rfl
    have hsame : U.sameButNew ({ U with heap := s₂.heap, slotsUsed := s₂.slotsUsed } : State) L mc ms := by
      refine ⟨?_, q2, q3, q4, q5, q6⟩
      obtain ⟨t, ht, -⟩ := State.frames_cons hr
      show ({ U with heap := s₂.heap, slotsUsed := s₂.slotsUsed } : State) = { U.setFrames U.frames with heap := s₂.heap, slotsUsed := s₂.slotsUsed }
      rw [State.setFrames_self ht]
    subst hg
    refine Or.inr ⟨q, ⟨(({ U with heap := s₂.heap, slotsUsed := s₂.slotsUsed } : State).setVm s₂.vm), Ls ++ L, c0 + mc, s0 + ms⟩,
      ⟨X.admits, X.cas, X.clock, X.frames, X.room, X.hears, X.method, X.code, (X.here.setHeapUsed s₂.heap s₂.slotsUsed).setVm hW'.alike, X.tail, State.WarmedH.trans X.warmed hW', X.limits, X.bytes, X.same.trans (hsame.setVm s.vm)⟩,
      ⟨g, mk, s₂, L, E, ce, rfl, rfl, hx, hce, hcv, hcl, rfl, hL, rfl, rfl⟩, ?_⟩
    show Steps p.tables e below _ (((({ U with heap := s₂.heap, slotsUsed := s₂.slotsUsed } : State).setVm s₂.vm).setTop g).pushFrame (.throwing q))
    rw [← hs₂]
    exact hsteps
end Payer
section Calls
variable {p : Program} {l : Launch} {e : Env} {R : Room} {s : State} {m : MethodId} {args : Array Value} {below : List Frame} {meth : Method} {c : Code} {T : State} {locs : List Loc} {cells slots : Nat}
theorem vx_callV (X : Stand p l e R s m args below meth c T locs cells slots) (hexec : p.tables.exec = Jvm.exec) {own C : String} {index : Nat} {y : MethodName} {bytes : ByteArray} {maxL : Nat} {ret : Option FieldType}
    (hown : s.vm.findClass own = some m.cls) (hlink : (Cond.methodLink own index y).before args s = true) (hinst : (Cond.instanceMethod y).before args s = true) (hsel : (Cond.selects C y y).before args s = true)
    (hcode : (Cond.code y bytes maxL ret).before args s = true) (hy : y.cls ≠ "java/lang/invoke/MethodHandle" ∧ y.cls ≠ "java/lang/invoke/VarHandle")
    {W9 : Nat} {Pre : Pt → Array Value → Prop} {Post : Pt → Array Value → Option Value → Pt → Prop} {PostX : Pt → Array Value → Addr → Pt → Prop} (hK : vx_Back l R p e below s args y 3 W9 Pre Post PostX)
    {b : Addr} {cellB : Cell} (hcell : T.heap[b]? = some cellB) (hobj : cellB.vm.isStatics = false) (hcls : s.vm.findClass C = some cellB.cls)
    {g : JFrame} (hg : g.method = m) (hsize : g.locals.size = c.maxLocals) {argsL rest : List Value} (hlen : ∀ sig, parseMethodDescriptor y.desc = some sig → argsL.length = sig.parameters.length)
    (hstack : g.stack = argsL.reverse ++ .ref b :: rest) (hW : 2 * g.monitorRoom + (rest.map fun v => v.category).sum ≤ W9) (hdg : decode c.code g.pc = .ok (.invokevirtual index, 3))
    (hpre : ∀ vm₁, s.WarmedH vm₁ → Pre ⟨T.setVm vm₁, locs, cells, slots⟩ (Value.ref b :: argsL).toArray) :
    (∃ (v : Option Value) (vm₁ : Vm) (B : Pt), s.WarmedH vm₁ ∧ Stand p l e R s m args below meth c B.U B.locs B.cells B.slots ∧ Post ⟨T.setVm vm₁, locs, cells, slots⟩ (Value.ref b :: argsL).toArray v B ∧
      ∀ target, Steps p.tables e below (B.U.setTop { g with pc := g.pc + 3, stack := v.toList ++ rest }) target → Steps p.tables e below (T.setTop g) target) ∨
    (∃ (q : Addr) (vm₁ : Vm) (B : Pt), s.WarmedH vm₁ ∧ Stand p l e R s m args below meth c B.U B.locs B.cells B.slots ∧ PostX ⟨T.setVm vm₁, locs, cells, slots⟩ (Value.ref b :: argsL).toArray q B ∧
      Steps p.tables e below (T.setTop g) ((B.U.setTop { g with stack := rest }).pushFrame (.throwing q))) := by
  obtain ⟨mk, methM, hnamed, hmethM, hstM, habM⟩ := Cond.instanceMethod_spec hinst
  obtain ⟨methM', cM, hmethM', -, -, -, -, -, -, hsigM⟩ := Cond.code_spec hnamed hcode
  cases hmethM.symm.trans hmethM'
  obtain ⟨c2, r2, m2, q1, q2, q3, q4, kP, hkP, hkPi⟩ := Cond.selects_spec hsel
  cases hcls.symm.trans q1
  cases (State.methodFound?_of_named hnamed hy).symm.trans q2
  cases hnamed.symm.trans q3
  have hselP : selectMethod e.platform s.vm cellB.cls mk = .method mk := by rw [Launch.admits_selectMethod X.admits]; exact q4
  obtain ⟨vm₁, X₁, hstep₁⟩ := X.invokevirtual hexec hown hlink hnamed hmethM hstM hkP hkPi hy (a := b) (cell := cellB) hcell
    (fun z h => by rw [h] at hobj; cases hobj) hselP hmethM habM hkP hkPi (g := g) hg (argsL := argsL) (rest := rest) (hlen _ hsigM) hstack hdg
  rcases hK m meth c ⟨T.setVm vm₁, locs, cells, slots⟩ { g with stack := rest } (.invokevirtual index) mk (Value.ref b :: argsL).toArray X₁ hg hsize hdg hW (X₁.named hnamed) (hpre vm₁ X₁.warmed) with ⟨v, B, X', hpost, hsteps⟩ | ⟨q, B, X', hpost, hsteps⟩
  · exact Or.inl ⟨v, vm₁, B, X₁.warmed, X', hpost, fun target h => hstep₁ _ fun acts => by rw [doInvoke_state]; exact hsteps.trans h⟩
  · exact Or.inr ⟨q, vm₁, B, X₁.warmed, X', hpost, hstep₁ _ fun acts => by rw [doInvoke_state]; exact hsteps⟩
theorem vx_callS (X : Stand p l e R s m args below meth c T locs cells slots) (hexec : p.tables.exec = Jvm.exec) {own : String} {index : Nat} {y : MethodName} {bytes : ByteArray} {maxL : Nat} {ret : Option FieldType}
    (hown : s.vm.findClass own = some m.cls) (hlink : (Cond.methodLink own index y).before args s = true) (hstat : (Cond.static y).before args s = true) (hinit : (Cond.initialized y.cls).before args s = true)
    (hcode : (Cond.code y bytes maxL ret).before args s = true) (hy : y.cls ≠ "java/lang/invoke/MethodHandle" ∧ y.cls ≠ "java/lang/invoke/VarHandle")
    {W9 : Nat} {Pre : Pt → Array Value → Prop} {Post : Pt → Array Value → Option Value → Pt → Prop} {PostX : Pt → Array Value → Addr → Pt → Prop} (hK : vx_Back l R p e below s args y 3 W9 Pre Post PostX)
    {g : JFrame} (hg : g.method = m) (hsize : g.locals.size = c.maxLocals) {argsL rest : List Value} (hlen : ∀ sig, parseMethodDescriptor y.desc = some sig → argsL.length = sig.parameters.length)
    (hstack : g.stack = argsL.reverse ++ rest) (hW : 2 * g.monitorRoom + (rest.map fun v => v.category).sum ≤ W9) (hdg : decode c.code g.pc = .ok (.invokestatic index, 3))
    (hpre : ∀ vm₁, s.WarmedH vm₁ → Pre ⟨T.setVm vm₁, locs, cells, slots⟩ argsL.toArray) :
    (∃ (v : Option Value) (vm₁ : Vm) (B : Pt), s.WarmedH vm₁ ∧ Stand p l e R s m args below meth c B.U B.locs B.cells B.slots ∧ Post ⟨T.setVm vm₁, locs, cells, slots⟩ argsL.toArray v B ∧
      ∀ target, Steps p.tables e below (B.U.setTop { g with pc := g.pc + 3, stack := v.toList ++ rest }) target → Steps p.tables e below (T.setTop g) target) ∨
    (∃ (q : Addr) (vm₁ : Vm) (B : Pt), s.WarmedH vm₁ ∧ Stand p l e R s m args below meth c B.U B.locs B.cells B.slots ∧ PostX ⟨T.setVm vm₁, locs, cells, slots⟩ argsL.toArray q B ∧
      Steps p.tables e below (T.setTop g) ((B.U.setTop { g with stack := rest }).pushFrame (.throwing q))) := by
  obtain ⟨mk, hnamed⟩ := Cond.code_named hcode
  obtain ⟨methM, cM, hmethM, -, -, -, -, -, -, hsigM⟩ := Cond.code_spec hnamed hcode
  have hstatic : methM.isStatic = true := Cond.static_spec hnamed hmethM hstat
  obtain ⟨kP, hkP, -⟩ := className_of_methodNamed hnamed
  have hinitP : kP.init = .initialized := Cond.initialized_spec (findClass_of_methodNamed hnamed) hkP hinit
  obtain ⟨vm₁, X₁, hstep₁⟩ := X.invokestatic hexec hown hlink hnamed hmethM hstatic hkP hinitP hy (g := g) hg (argsL := argsL) (rest := rest) (hlen _ hsigM) hstack hdg
  rcases hK m meth c ⟨T.setVm vm₁, locs, cells, slots⟩ { g with stack := rest } (.invokestatic index) mk argsL.toArray X₁ hg hsize hdg hW (X₁.named hnamed) (hpre vm₁ X₁.warmed) with ⟨v, B, X', hpost, hsteps⟩ | ⟨q, B, X', hpost, hsteps⟩
  · exact Or.inl ⟨v, vm₁, B, X₁.warmed, X', hpost, fun target h => hstep₁ _ fun acts => by rw [doInvoke_state]; exact hsteps.trans h⟩
  · exact Or.inr ⟨q, vm₁, B, X₁.warmed, X', hpost, hstep₁ _ fun acts => by rw [doInvoke_state]; exact hsteps⟩
end Calls
theorem vx_cls {s : State} {T : State} {vm₁ : Vm} {E : String} {k : ClassId} (hW : s.WarmedH vm₁) (h : (T.setVm vm₁).vm.findClass E = some k) : s.vm.findClass E = some k := by
  have h1 : vm₁.findClass E = some k := h
  rw [hW.alike.findClass] at h1
  exact h1
/-- the method's frame g, with q thrown over it -/
def vx_W (p : Program) (l : Launch) (e : Env) (R : Room) (s : State) (m : MethodId) (args : Array Value) (below : List Frame) (meth : Method) (c : Code) (H : Heap) (locs : List Loc) (cells slots : Nat) (Q : State → Prop) (g : JFrame) (q : Addr) : Prop :=
  ∀ T : State, T.heap = H → Stand p l e R s m args below meth c T locs cells slots → ∃ t, Steps p.tables e below ((T.setTop g).pushFrame (.throwing q)) t ∧ Q t
def vx_Run (p : Program) (l : Launch) (e : Env) (R : Room) (s : State) (m : MethodId) (args : Array Value) (below : List Frame) (meth : Method) (c : Code) (H : Heap) (locs : List Loc) (cells slots mc ms : Nat) (g : JFrame) (rest : List Value) (Qa : State → Outcome → State → Prop) (XC : String → State → State → Prop) (free : Addr → Prop) : Prop :=
  ∀ T : State, T.heap = H → Stand p l e R s m args below meth c T locs cells slots →
    (∃ (v : Option Value) (st₀ t T' : State) (L : List Loc), st₀.heap = H ∧ Stand p l e R s m args below meth c T' (locs ++ L) (cells + mc) (slots + ms) ∧ (∀ q ∈ L, free q.base) ∧ T'.heap = t.heap ∧ T'.vm = t.vm ∧ Qa st₀ (.returned v) t ∧
      Goes p e below T g T' { g with pc := g.pc + 3, stack := v.toList ++ rest }) ∨
    (∃ (q : Addr) (st₀ t T' : State) (L : List Loc) (E : String) (ce : Cell), st₀.heap = H ∧ Stand p l e R s m args below meth c T' (locs ++ L) (cells + mc) (slots + ms) ∧ (∀ z ∈ L, free z.base) ∧ T'.heap = t.heap ∧ T'.vm = t.vm ∧ XC E st₀ t ∧ t.heap[q]? = some ce ∧ ce.vm = .none ∧ s.vm.findClass E = some ce.cls ∧
      Steps p.tables e below (T.setTop g) ((T'.setTop { g with stack := rest }).pushFrame (.throwing q)))
def vx_X {S : Type} (px : S → Prop) (B : String → S → State → Prop) (A : Nat → Prop) : String → State → State → Prop := fun E st t => ∃ u : S, px u ∧ B E u t ∧ va_F A st t
section Runs
variable {p : Program} {l : Launch} {e : Env} {R : Room} {s : State} {m : MethodId} {args : Array Value} {below : List Frame} {meth : Method} {c : Code} {H : Heap} {locs : List Loc} {cells slots : Nat}
variable {y : MethodName} {bytes cc : ByteArray} {maxL nL mc ms n index : Nat} {ret : Option FieldType} {ws : List Cond} {rm : Room} {Pc : Array Value → State → Prop} {Qc : Array Value → State → Outcome → State → Prop} {XC : String → State → State → Prop} {free : Addr → Prop} {Ts : List Cond} {own C : String} {b : Addr} {As rest : List Value} {g : JFrame}
theorem vx_callBack (cb : CallB R s args own index y bytes maxL ret ws rm mc ms n) (hM : vx_Met l y ws rm Pc Qc XC mc ms free) (hbl : FrameBlind Pc) : vx_Back l R p e below s args y 3 8 (PreOf R mc ms Pc) (PostOf Qc mc ms free) (vx_Post XC mc ms free) := by
  obtain ⟨hrc, hrs, hfr, hlo, hws, hcw, -, hini, -⟩ := cb
  exact vx_back (bytes := bytes) (maxL := maxL) (ret := ret) hM hbl hrc hrs hfr hlo hws hcw (fun a' U hW => word_at hW (Or.inl (by first | rfl | simp [Cond.onTables, Cond.keeps, Cond.steady])) hini)
theorem vx_runV (S : CallFix p m c cc nL s args Ts own) (hM : vx_Met l y ws rm Pc Qc XC mc ms free) (cw : CallW R s args own C index y bytes maxL ret ws rm mc ms n) (hp : PreV s H C b Pc As)
    (hg : g.method = m) (hn : As.length = n) (hsize : g.locals.size = nL) (hstack : g.stack = As.reverse ++ .ref b :: rest) (hW : 2 * g.monitorRoom + (rest.map fun v => v.category).sum ≤ 8) (hdg : decode cc g.pc = .ok (.invokevirtual index, 3)) (hf : cells + mc ≤ R.cells ∧ slots + ms ≤ R.slots) :
    vx_Run p l e R s m args below meth c H locs cells slots mc ms g rest (Qc (Value.ref b :: As).toArray) XC free := by
  have hK : vx_Back l R p e below s args y 3 8 (PreOf R mc ms Pc) (PostOf Qc mc ms free) (vx_Post XC mc ms free) := vx_callBack cw.1 hM hp.1
  obtain ⟨⟨-, -, -, -, -, -, hcode, -, hy, hlen, hl⟩, hin, hse⟩ := cw
  obtain ⟨hx, hb, hml, ho, -⟩ := S
  obtain ⟨-, ⟨cellB, hcB, hoB, hclB⟩, hPc⟩ := hp
  intro T hT X
  rcases vx_callV X hx (C := C) (bytes := bytes) (maxL := maxL) (ret := ret) ho hl hin hse hcode hy hK (by rw [hT]; exact hcB) hoB hclB hg (hsize.trans hml.symm) (argsL := As) (rest := rest) (fun sig h => hn.trans (hlen sig h)) hstack hW (by rw [hb]; exact hdg)
    (fun vm₁ hW₁ => ⟨hf.1, hf.2, hPc (T.setVm vm₁) hT hW₁⟩) with ⟨v, vm₁, ⟨U', l2, c2, s2⟩, hW₁, X', ⟨g', mk, t, L, e1, e2, hq, h1, hL, h2, h3⟩, st⟩ | ⟨q, vm₁, ⟨U', l2, c2, s2⟩, hW₁, X', ⟨g', mk, t, L, E, ce, e1, e2, hq, hce, hcv, hcl, h1, hL, h2, h3⟩, st⟩
  · dsimp only [Pt.U, Pt.locs, Pt.cells, Pt.slots] at X' e1 e2 h1 h2 h3 st
    subst h1; subst h2; subst h3
    exact Or.inl ⟨v, (T.setVm vm₁).calling g' mk (Value.ref b :: As).toArray, t, U', L, hT, X', hL, e1, e2, hq, st⟩
  · dsimp only [Pt.U, Pt.locs, Pt.cells, Pt.slots] at X' e1 e2 h1 h2 h3 st hcl
    subst h1; subst h2; subst h3
    exact Or.inr ⟨q, (T.setVm vm₁).calling g' mk (Value.ref b :: As).toArray, t, U', L, E, ce, hT, X', hL, e1, e2, hq, hce, hcv, vx_cls hW₁ hcl, st⟩
theorem vx_runS (S : CallFix p m c cc nL s args Ts own) (hM : vx_Met l y ws rm Pc Qc XC mc ms free) (cw : CallB R s args own index y bytes maxL ret ws rm mc ms n ∧ (Cond.static y).before args s = true) (hp : PreS s H Pc As)
    (hg : g.method = m) (hn : As.length = n) (hsize : g.locals.size = nL) (hstack : g.stack = As.reverse ++ rest) (hW : 2 * g.monitorRoom + (rest.map fun v => v.category).sum ≤ 8) (hdg : decode cc g.pc = .ok (.invokestatic index, 3)) (hf : cells + mc ≤ R.cells ∧ slots + ms ≤ R.slots) :
    vx_Run p l e R s m args below meth c H locs cells slots mc ms g rest (Qc As.toArray) XC free := by
  have hK : vx_Back l R p e below s args y 3 8 (PreOf R mc ms Pc) (PostOf Qc mc ms free) (vx_Post XC mc ms free) := vx_callBack cw.1 hM hp.1
  obtain ⟨⟨-, -, -, -, -, -, hcode, hini, hy, hlen, hl⟩, hstt⟩ := cw
  obtain ⟨hx, hb, hml, ho, -⟩ := S
  intro T hT X
  rcases vx_callS X hx (bytes := bytes) (maxL := maxL) (ret := ret) ho hl hstt hini hcode hy hK hg (hsize.trans hml.symm) (argsL := As) (rest := rest) (fun sig h => hn.trans (hlen sig h)) hstack hW (by rw [hb]; exact hdg)
    (fun vm₁ hW₁ => ⟨hf.1, hf.2, hp.2 (T.setVm vm₁) hT hW₁⟩) with ⟨v, vm₁, ⟨U', l2, c2, s2⟩, hW₁, X', ⟨g', mk, t, L, e1, e2, hq, h1, hL, h2, h3⟩, st⟩ | ⟨q, vm₁, ⟨U', l2, c2, s2⟩, hW₁, X', ⟨g', mk, t, L, E, ce, e1, e2, hq, hce, hcv, hcl, h1, hL, h2, h3⟩, st⟩
  · dsimp only [Pt.U, Pt.locs, Pt.cells, Pt.slots] at X' e1 e2 h1 h2 h3 st
    subst h1; subst h2; subst h3
    exact Or.inl ⟨v, (T.setVm vm₁).calling g' mk As.toArray, t, U', L, hT, X', hL, e1, e2, hq, st⟩
  · dsimp only [Pt.U, Pt.locs, Pt.cells, Pt.slots] at X' e1 e2 h1 h2 h3 st hcl
    subst h1; subst h2; subst h3
    exact Or.inr ⟨q, (T.setVm vm₁).calling g' mk As.toArray, t, U', L, E, ce, hT, X', hL, e1, e2, hq, hce, hcv, vx_cls hW₁ hcl, st⟩
end Runs
section Rows
variable {p : Program} {l : Launch} {e : Env} {R : Room} {s : State} {m : MethodId} {args : Array Value} {below : List Frame} {meth : Method} {c : Code} {H : Heap} {locs : List Loc} {cells slots : Nat} {Q : State → Prop}
variable {mc ms : Nat} {free : Addr → Prop} {A0 A1 : Nat → Prop} {H0 : Heap} {a : Array Value} {pc : Nat} {ls : Array Slot} {st0 rest : List Value}
theorem vx_keep {st₀ t T' : State} {L : List Loc} (h0 : st₀.heap = H) (e1 : T'.heap = t.heap) (hS : va_S A0 H0 H locs) (hA : ∀ q, q < H.size → A1 q → A0 q) (hf : ∀ q, free q → A0 q) (hL : ∀ q ∈ L, free q.base) (hF : va_F A1 st₀ t) :
    H.size ≤ T'.heap.size ∧ (∀ q : Nat, q < H.size → ¬ A1 q → T'.heap[q]? = H[q]?) ∧ va_S A0 H0 T'.heap (locs ++ L) := by
  obtain ⟨hz, hk⟩ := hF
  rw [h0] at hz hk
  exact ⟨by rw [e1]; exact hz, fun q h1 h2 => by rw [e1]; exact hk q h1 h2,
    ⟨Nat.le_trans hS.1 (by rw [e1]; exact hz), fun q h1 h2 => by rw [e1, hk q (Nat.lt_of_lt_of_le h1 hS.1) (fun z => h2 (hA q (Nat.lt_of_lt_of_le h1 hS.1) z))]; exact hS.2.1 q h1 h2, fun q hq => by
      rcases List.mem_append.mp hq with h | h
      · exact hS.2.2 q h
      · exact hf _ (hL q h)⟩⟩
theorem vx_calli {S SX : Type} {post : Int32 → S → Prop} {px : SX → Prop} {B : S → State → Prop} {BX : String → SX → State → Prop} {AX : Nat → Prop} (hr : vx_Run p l e R s m args below meth c H locs cells slots mc ms (F0 m pc ls st0) rest (va_Qi post B A1 a) (vx_X px BX AX) free) (hS : va_S A0 H0 H locs) (hA : ∀ q, q < H.size → A1 q → A0 q) (hf : ∀ q, free q → A0 q) (hAX : ∀ q, q < H.size → AX q → A0 q)
    (kx : ∀ (E : String) (ce : Cell) (q9 : Addr) (u : SX) (t : State) (H1 : Heap) (locs1 : List Loc), t.heap = H1 → s.vm.Alike t.vm → px u → BX E u t → H.size ≤ H1.size → (∀ q : Nat, q < H.size → ¬ AX q → H1[q]? = H[q]?) → va_S A0 H0 H1 locs1 → H1[q9]? = some ce → ce.vm = .none → s.vm.findClass E = some ce.cls → vx_W p l e R s m args below meth c H1 locs1 (cells + mc) (slots + ms) Q (F0 m pc ls rest) q9)
    (kk : ∀ (r : Int32) (u : S) (t : State) (H1 : Heap) (locs1 : List Loc), t.heap = H1 → s.vm.Alike t.vm → post r u → B u t → H.size ≤ H1.size → (∀ q : Nat, q < H.size → ¬ A1 q → H1[q]? = H[q]?) → va_S A0 H0 H1 locs1 → W p l e R s m args below meth c H1 locs1 (cells + mc) (slots + ms) Q (F0 m (pc + 3) ls (.int r :: rest))) : W p l e R s m args below meth c H locs cells slots Q (F0 m pc ls st0) := by
  intro T hT X
  rcases hr T hT X with ⟨v, st₀, t, T', L, h0, X', hL, e1, e2, ⟨⟨r, u, hv, hp, hb⟩, hF⟩, st⟩ | ⟨q, st₀, t, T', L, E, ce, h0, X', hL, e1, e2, ⟨u, hp, hb, hF⟩, hce, hcv, hcl, st⟩
  · cases hv
    obtain ⟨k1, k2, k3⟩ := vx_keep h0 e1 hS hA hf hL hF
    obtain ⟨t2, a1, b1⟩ := kk r u t T'.heap (locs ++ L) e1.symm (by rw [← e2]; exact X'.warmed.alike) hp hb k1 k2 k3 T' rfl X'
    exact ⟨t2, st t2 a1, b1⟩
  · obtain ⟨k1, k2, k3⟩ := vx_keep h0 e1 hS hAX hf hL hF
    obtain ⟨t2, a1, b1⟩ := kx E ce q u t T'.heap (locs ++ L) e1.symm (by rw [← e2]; exact X'.warmed.alike) hp hb k1 k2 k3 (by rw [e1]; exact hce) hcv hcl T' rfl X'
    exact ⟨t2, st.trans a1, b1⟩
theorem vx_calll {S SX : Type} {post : Int64 → S → Prop} {px : SX → Prop} {B : S → State → Prop} {BX : String → SX → State → Prop} {AX : Nat → Prop} (hr : vx_Run p l e R s m args below meth c H locs cells slots mc ms (F0 m pc ls st0) rest (va_Ql post B A1 a) (vx_X px BX AX) free) (hS : va_S A0 H0 H locs) (hA : ∀ q, q < H.size → A1 q → A0 q) (hf : ∀ q, free q → A0 q) (hAX : ∀ q, q < H.size → AX q → A0 q)
    (kx : ∀ (E : String) (ce : Cell) (q9 : Addr) (u : SX) (t : State) (H1 : Heap) (locs1 : List Loc), t.heap = H1 → s.vm.Alike t.vm → px u → BX E u t → H.size ≤ H1.size → (∀ q : Nat, q < H.size → ¬ AX q → H1[q]? = H[q]?) → va_S A0 H0 H1 locs1 → H1[q9]? = some ce → ce.vm = .none → s.vm.findClass E = some ce.cls → vx_W p l e R s m args below meth c H1 locs1 (cells + mc) (slots + ms) Q (F0 m pc ls rest) q9)
    (kk : ∀ (r : Int64) (u : S) (t : State) (H1 : Heap) (locs1 : List Loc), t.heap = H1 → s.vm.Alike t.vm → post r u → B u t → H.size ≤ H1.size → (∀ q : Nat, q < H.size → ¬ A1 q → H1[q]? = H[q]?) → va_S A0 H0 H1 locs1 → W p l e R s m args below meth c H1 locs1 (cells + mc) (slots + ms) Q (F0 m (pc + 3) ls (.long r :: rest))) : W p l e R s m args below meth c H locs cells slots Q (F0 m pc ls st0) := by
  intro T hT X
  rcases hr T hT X with ⟨v, st₀, t, T', L, h0, X', hL, e1, e2, ⟨⟨r, u, hv, hp, hb⟩, hF⟩, st⟩ | ⟨q, st₀, t, T', L, E, ce, h0, X', hL, e1, e2, ⟨u, hp, hb, hF⟩, hce, hcv, hcl, st⟩
  · cases hv
    obtain ⟨k1, k2, k3⟩ := vx_keep h0 e1 hS hA hf hL hF
    obtain ⟨t2, a1, b1⟩ := kk r u t T'.heap (locs ++ L) e1.symm (by rw [← e2]; exact X'.warmed.alike) hp hb k1 k2 k3 T' rfl X'
    exact ⟨t2, st t2 a1, b1⟩
  · obtain ⟨k1, k2, k3⟩ := vx_keep h0 e1 hS hAX hf hL hF
    obtain ⟨t2, a1, b1⟩ := kx E ce q u t T'.heap (locs ++ L) e1.symm (by rw [← e2]; exact X'.warmed.alike) hp hb k1 k2 k3 (by rw [e1]; exact hce) hcv hcl T' rfl X'
    exact ⟨t2, st.trans a1, b1⟩
theorem vx_callf {S SX : Type} {post : UInt32 → S → Prop} {px : SX → Prop} {B : S → State → Prop} {BX : String → SX → State → Prop} {AX : Nat → Prop} (hr : vx_Run p l e R s m args below meth c H locs cells slots mc ms (F0 m pc ls st0) rest (va_Qf post B A1 a) (vx_X px BX AX) free) (hS : va_S A0 H0 H locs) (hA : ∀ q, q < H.size → A1 q → A0 q) (hf : ∀ q, free q → A0 q) (hAX : ∀ q, q < H.size → AX q → A0 q)
    (kx : ∀ (E : String) (ce : Cell) (q9 : Addr) (u : SX) (t : State) (H1 : Heap) (locs1 : List Loc), t.heap = H1 → s.vm.Alike t.vm → px u → BX E u t → H.size ≤ H1.size → (∀ q : Nat, q < H.size → ¬ AX q → H1[q]? = H[q]?) → va_S A0 H0 H1 locs1 → H1[q9]? = some ce → ce.vm = .none → s.vm.findClass E = some ce.cls → vx_W p l e R s m args below meth c H1 locs1 (cells + mc) (slots + ms) Q (F0 m pc ls rest) q9)
    (kk : ∀ (r : UInt32) (u : S) (t : State) (H1 : Heap) (locs1 : List Loc), t.heap = H1 → s.vm.Alike t.vm → post r u → B u t → H.size ≤ H1.size → (∀ q : Nat, q < H.size → ¬ A1 q → H1[q]? = H[q]?) → va_S A0 H0 H1 locs1 → W p l e R s m args below meth c H1 locs1 (cells + mc) (slots + ms) Q (F0 m (pc + 3) ls (.float r :: rest))) : W p l e R s m args below meth c H locs cells slots Q (F0 m pc ls st0) := by
  intro T hT X
  rcases hr T hT X with ⟨v, st₀, t, T', L, h0, X', hL, e1, e2, ⟨⟨r, u, hv, hp, hb⟩, hF⟩, st⟩ | ⟨q, st₀, t, T', L, E, ce, h0, X', hL, e1, e2, ⟨u, hp, hb, hF⟩, hce, hcv, hcl, st⟩
  · cases hv
    obtain ⟨k1, k2, k3⟩ := vx_keep h0 e1 hS hA hf hL hF
    obtain ⟨t2, a1, b1⟩ := kk r u t T'.heap (locs ++ L) e1.symm (by rw [← e2]; exact X'.warmed.alike) hp hb k1 k2 k3 T' rfl X'
    exact ⟨t2, st t2 a1, b1⟩
  · obtain ⟨k1, k2, k3⟩ := vx_keep h0 e1 hS hAX hf hL hF
    obtain ⟨t2, a1, b1⟩ := kx E ce q u t T'.heap (locs ++ L) e1.symm (by rw [← e2]; exact X'.warmed.alike) hp hb k1 k2 k3 (by rw [e1]; exact hce) hcv hcl T' rfl X'
    exact ⟨t2, st.trans a1, b1⟩
theorem vx_calld {S SX : Type} {post : UInt64 → S → Prop} {px : SX → Prop} {B : S → State → Prop} {BX : String → SX → State → Prop} {AX : Nat → Prop} (hr : vx_Run p l e R s m args below meth c H locs cells slots mc ms (F0 m pc ls st0) rest (va_Qd post B A1 a) (vx_X px BX AX) free) (hS : va_S A0 H0 H locs) (hA : ∀ q, q < H.size → A1 q → A0 q) (hf : ∀ q, free q → A0 q) (hAX : ∀ q, q < H.size → AX q → A0 q)
    (kx : ∀ (E : String) (ce : Cell) (q9 : Addr) (u : SX) (t : State) (H1 : Heap) (locs1 : List Loc), t.heap = H1 → s.vm.Alike t.vm → px u → BX E u t → H.size ≤ H1.size → (∀ q : Nat, q < H.size → ¬ AX q → H1[q]? = H[q]?) → va_S A0 H0 H1 locs1 → H1[q9]? = some ce → ce.vm = .none → s.vm.findClass E = some ce.cls → vx_W p l e R s m args below meth c H1 locs1 (cells + mc) (slots + ms) Q (F0 m pc ls rest) q9)
    (kk : ∀ (r : UInt64) (u : S) (t : State) (H1 : Heap) (locs1 : List Loc), t.heap = H1 → s.vm.Alike t.vm → post r u → B u t → H.size ≤ H1.size → (∀ q : Nat, q < H.size → ¬ A1 q → H1[q]? = H[q]?) → va_S A0 H0 H1 locs1 → W p l e R s m args below meth c H1 locs1 (cells + mc) (slots + ms) Q (F0 m (pc + 3) ls (.double r :: rest))) : W p l e R s m args below meth c H locs cells slots Q (F0 m pc ls st0) := by
  intro T hT X
  rcases hr T hT X with ⟨v, st₀, t, T', L, h0, X', hL, e1, e2, ⟨⟨r, u, hv, hp, hb⟩, hF⟩, st⟩ | ⟨q, st₀, t, T', L, E, ce, h0, X', hL, e1, e2, ⟨u, hp, hb, hF⟩, hce, hcv, hcl, st⟩
  · cases hv
    obtain ⟨k1, k2, k3⟩ := vx_keep h0 e1 hS hA hf hL hF
    obtain ⟨t2, a1, b1⟩ := kk r u t T'.heap (locs ++ L) e1.symm (by rw [← e2]; exact X'.warmed.alike) hp hb k1 k2 k3 T' rfl X'
    exact ⟨t2, st t2 a1, b1⟩
  · obtain ⟨k1, k2, k3⟩ := vx_keep h0 e1 hS hAX hf hL hF
    obtain ⟨t2, a1, b1⟩ := kx E ce q u t T'.heap (locs ++ L) e1.symm (by rw [← e2]; exact X'.warmed.alike) hp hb k1 k2 k3 (by rw [e1]; exact hce) hcv hcl T' rfl X'
    exact ⟨t2, st.trans a1, b1⟩
theorem vx_callv {S SX : Type} {post : S → Prop} {px : SX → Prop} {B : S → State → Prop} {BX : String → SX → State → Prop} {AX : Nat → Prop} (hr : vx_Run p l e R s m args below meth c H locs cells slots mc ms (F0 m pc ls st0) rest (va_Qv post B A1 a) (vx_X px BX AX) free) (hS : va_S A0 H0 H locs) (hA : ∀ q, q < H.size → A1 q → A0 q) (hf : ∀ q, free q → A0 q) (hAX : ∀ q, q < H.size → AX q → A0 q)
    (kx : ∀ (E : String) (ce : Cell) (q9 : Addr) (u : SX) (t : State) (H1 : Heap) (locs1 : List Loc), t.heap = H1 → s.vm.Alike t.vm → px u → BX E u t → H.size ≤ H1.size → (∀ q : Nat, q < H.size → ¬ AX q → H1[q]? = H[q]?) → va_S A0 H0 H1 locs1 → H1[q9]? = some ce → ce.vm = .none → s.vm.findClass E = some ce.cls → vx_W p l e R s m args below meth c H1 locs1 (cells + mc) (slots + ms) Q (F0 m pc ls rest) q9)
    (kk : ∀ (u : S) (t : State) (H1 : Heap) (locs1 : List Loc), t.heap = H1 → s.vm.Alike t.vm → post u → B u t → H.size ≤ H1.size → (∀ q : Nat, q < H.size → ¬ A1 q → H1[q]? = H[q]?) → va_S A0 H0 H1 locs1 → W p l e R s m args below meth c H1 locs1 (cells + mc) (slots + ms) Q (F0 m (pc + 3) ls (rest))) : W p l e R s m args below meth c H locs cells slots Q (F0 m pc ls st0) := by
  intro T hT X
  rcases hr T hT X with ⟨v, st₀, t, T', L, h0, X', hL, e1, e2, ⟨⟨u, hv, hp, hb⟩, hF⟩, st⟩ | ⟨q, st₀, t, T', L, E, ce, h0, X', hL, e1, e2, ⟨u, hp, hb, hF⟩, hce, hcv, hcl, st⟩
  · cases hv
    obtain ⟨k1, k2, k3⟩ := vx_keep h0 e1 hS hA hf hL hF
    obtain ⟨t2, a1, b1⟩ := kk u t T'.heap (locs ++ L) e1.symm (by rw [← e2]; exact X'.warmed.alike) hp hb k1 k2 k3 T' rfl X'
    exact ⟨t2, st t2 a1, b1⟩
  · obtain ⟨k1, k2, k3⟩ := vx_keep h0 e1 hS hAX hf hL hF
    obtain ⟨t2, a1, b1⟩ := kx E ce q u t T'.heap (locs ++ L) e1.symm (by rw [← e2]; exact X'.warmed.alike) hp hb k1 k2 k3 (by rw [e1]; exact hce) hcv hcl T' rfl X'
    exact ⟨t2, st.trans a1, b1⟩
/-- caught by the row x of this method's table; the rows ahead don't take it -/
theorem vx_catch {own name : String} {E : String} {ce : Cell} {q : Addr} (hown : s.vm.findClass own = some m.cls) (pre : List ExceptionTableEntry) (x : ExceptionTableEntry) (suf : List ExceptionTableEntry) (hsplit : c.exceptionTable.toList = pre ++ x :: suf)
    (hpass : ∀ z ∈ pre, covers z pc = false ∨ (z.catchType ≠ 0 ∧ ∃ nm : String, (Cond.classLink own z.catchType nm).before args s = true ∧ va_Nc E nm s)) (hx : covers x pc = true) (h0 : x.catchType ≠ 0)
    (hlink : (Cond.classLink own x.catchType name).before args s = true) (hcast : (Cond.castable E name).before args s = true) (hcell : H[q]? = some ce) (hv : ce.vm = .none) (hcl : s.vm.findClass E = some ce.cls)
    (kk : W p l e R s m args below meth c H locs cells slots Q (F0 m x.handlerPc ls [.ref q])) : vx_W p l e R s m args below meth c H locs cells slots Q (F0 m pc ls rest) q := by
  intro T hT X
  have hpl : e.platform.magicAccessors = ({} : Platform).magicAccessors := by rw [X.admits.platform]
  obtain ⟨c3, c4, hc3, hc4, hasg⟩ := Cond.castable_spec hcast
  cases Option.some.inj (hc3.symm.trans hcl)
  obtain ⟨c5, hc5, hcl5⟩ := Cond.classLink_spec hown hlink e.platform hpl
  cases Option.some.inj (hc4.symm.trans hc5)
  obtain ⟨vm', X', st⟩ := Stand.thenCaughtThrough X q (g := F0 m pc ls rest) rfl (Steps.refl _) (by rw [hT]; exact hcell) (by rw [hv]; rfl) (by obtain ⟨k9, h9, -⟩ := Vm.findClass_spec hcl; exact ⟨k9, h9⟩) pre x suf hsplit
    (fun z hz => by
      rcases hpass z hz with h | ⟨hz0, nm, hl1, hn1⟩
      · exact Or.inl h
      · obtain ⟨c6, hc6, hcl6⟩ := Cond.classLink_spec hown hl1 e.platform hpl
        obtain ⟨a8, b8, h1, h2, h3⟩ := hn1
        cases Option.some.inj (h1.symm.trans hcl)
        cases Option.some.inj (h2.symm.trans hc6)
        exact Or.inr ⟨hz0, _, hcl6, h3⟩) hx (Or.inr ⟨h0, c4, hcl5, hasg⟩)
  obtain ⟨t, a1, b1⟩ := kk (T.setVm vm') hT X'
  exact ⟨t, st.trans a1, b1⟩
end Rows
section Ends
variable {p : Program} {l : Launch} {e : Env} {R : Room} {s : State} {m : MethodId} {args : Array Value} {below : List Frame} {meth : Method} {c : Code} {H : Heap} {locs : List Loc} {cells slots : Nat} {Q : State → Prop}
variable {mc ms : Nat} {free : Addr → Prop} {A0 A1 : Nat → Prop} {H0 : Heap} {a : Array Value} {ls : Array Slot} {st0 rest : List Value}
variable {Qc : Array Value → State → Outcome → State → Prop} {XC : String → State → State → Prop}
/-- what a body that may throw owes at its end -/
def vx_MQ (below : List Frame) (Qc : Array Value → State → Outcome → State → Prop) (XC : String → State → State → Prop) (a : Array Value) (s : State) (mc ms : Nat) (free : Addr → Prop) : State → Prop := fun t =>
  ∃ o, t.status = .running ∧ Ended t below o ∧ vx_Q Qc XC mc ms free a s o t
theorem vx_ret {g : JFrame} {mc ms : Nat} (k : W p l e R s m args below meth c H locs cells slots (MQ below Qc args s mc ms free) g) : W p l e R s m args below meth c H locs cells slots (vx_MQ below Qc XC args s mc ms free) g := by
  intro T hT X
  obtain ⟨t, a1, o, b1, b2, b3, b4⟩ := k T hT X
  exact ⟨t, a1, o, b1, b2, Or.inl ⟨b3, b4⟩⟩
/-- not caught here: it goes on to the caller -/
theorem vx_widen {g : JFrame} {q : Addr} {k n : Nat} (h1 : cells ≤ k) (h2 : slots ≤ n) (kk : vx_W p l e R s m args below meth c H locs k n Q g q) : vx_W p l e R s m args below meth c H locs cells slots Q g q := fun T hT X => kk T hT (stand_widen X h1 h2)
theorem vx_out {pc : Nat} {E : String} {ce : Cell} {q : Addr} {mc ms : Nat} (hout : ∀ x ∈ c.exceptionTable.toList, covers x pc = false) (hlocks : meth.locks = false) (hcell : H[q]? = some ce) (hv : ce.vm = .none) (hcl : s.vm.findClass E = some ce.cls)
    (hx : ∀ t : State, t.heap = H → s.vm.Alike t.vm → XC E s t) (hf : ∀ z ∈ locs, free z.base) (hc : cells ≤ mc) (hs : slots ≤ ms) :
    vx_W p l e R s m args below meth c H locs cells slots (vx_MQ below Qc XC args s mc ms free) (F0 m pc ls rest) q := by
  intro T hT X
  obtain ⟨st1, hrun, hend, hW, hsm⟩ := X.leaveThrown q (g := F0 m pc ls rest) rfl rfl rfl hout hlocks
  have hcell9 : (T.setFrames (.throwing q :: below)).heap[q]? = some ce := by
    show T.heap[q]? = some ce
    rw [hT]; exact hcell
  exact ⟨_, st1, .threw q, hrun, hend, Or.inr ⟨q, rfl, E, ce, locs, hx _ hT hW.alike, hcell9, hv, hcl, hW, hsm.mono hc hs, hf⟩⟩
theorem vx_frame {U : State} {k n : Nat} (h : s.sameButNew ({ U with vm := s.vm } : State) locs k n) : s.heap.size ≤ U.heap.size ∧ ∀ q : Nat, q < s.heap.size → (∀ z ∈ locs, z.base ≠ q) → U.heap[q]? = s.heap[q]? := by
  obtain ⟨-, h2, -, -, -, h6⟩ := h
  refine ⟨h2, fun q hq hz => ?_⟩
  obtain ⟨c9, e1, e2, e3, e4⟩ := h6 q _ (Array.getElem?_eq_getElem hq)
  have hs : c9.slots = (s.heap[q]).slots := Array.ext_getElem? fun i => e4 i fun hm => hz _ hm rfl
  have h9 : c9 = s.heap[q] := by
    rw [hs] at e2
    exact e2
  have e5 : U.heap[q]? = some c9 := e1
  rw [e5, h9, Array.getElem?_eq_getElem hq]
/-- the words of a throw but the four that speak of the heap -/
def vx_no (w : Cond) : Bool := decide (w ≠ .isRef (.static Bundle.tN "UNASSIGNED_STACK" Bundle.steD)) && decide (w ≠ .isRef (.static Bundle.tN "SUPPRESSED_SENTINEL" Bundle.listD)) && decide (w ≠ .laysStatic Bundle.tN "UNASSIGNED_STACK" Bundle.steD) && decide (w ≠ .laysStatic Bundle.tN "SUPPRESSED_SENTINEL" Bundle.listD)
def vx_at0 (own : String) (ic : Nat) (X : String) (names : List String) : List Cond := (Bundle.ownAtoms0 own ic X names).filter vx_no
def vx_atS (own : String) (ic : Nat) (X : String) (names : List String) : List Cond := (Bundle.ownAtoms own ic X names).filter vx_no
/-- a word that the tables alone decide, or a good one -/
def vx_ot (w : Cond) : Bool := w.onTables || goodWord w
theorem vx_ot_at {args a' : Array Value} {s U : State} {w : Cond} (hW : s.WarmedH U.vm) (hvm : s.vm = U.vm) (hg : vx_ot w = true) (h : w.before args s = true) : w.before a' U = true := by
  simp only [vx_ot, Bool.or_eq_true] at hg
  rcases hg with hg | hg
  · exact va_tabs hg hvm h
  · exact word_at hW (good_of_word hg) h
/-- a list's words: the good ones out of the method's own list, the others by premises of their own -/
theorem vx_hat {args : Array Value} {s : State} {L B : List Cond} (h1 : ∀ w ∈ L.filter goodWord, w.before args s = true) (h2 : ∀ w ∈ L.filter (fun w => !goodWord w), w ∈ B) (h3 : ∀ w ∈ B, w.before args s = true) : ∀ w ∈ L, w.before args s = true := by
  intro w hw
  by_cases g : goodWord w = true
  · exact h1 w (List.mem_filter.mpr ⟨hw, g⟩)
  · refine h3 w (h2 w (List.mem_filter.mpr ⟨hw, ?_⟩))
    show (!goodWord w) = true
    cases hgw : goodWord w
    · rfl
    · exact absurd hgw g
theorem vx_c {args : Array Value} {s : State} {w : Cond} {B : List Cond} (h : w.before args s = true) (t : ∀ w ∈ B, w.before args s = true) : ∀ w' ∈ w :: B, w'.before args s = true := fun w' h' => (List.mem_cons.mp h').elim (fun e => by rw [e]; exact h) (t w')
theorem vx_n {args : Array Value} {s : State} : ∀ w ∈ ([] : List Cond), w.before args s = true := fun _ h => nomatch h
theorem vx_own {args : Array Value} {s : State} {L : List Cond} (h1 : ∀ w ∈ L.filter vx_no, w.before args s = true)
    (hU : (Cond.isRef (.static Bundle.tN "UNASSIGNED_STACK" Bundle.steD)).before args s = true) (hN : (Cond.isRef (.static Bundle.tN "SUPPRESSED_SENTINEL" Bundle.listD)).before args s = true)
    (lU : (Cond.laysStatic Bundle.tN "UNASSIGNED_STACK" Bundle.steD).before args s = true) (lN : (Cond.laysStatic Bundle.tN "SUPPRESSED_SENTINEL" Bundle.listD).before args s = true) : ∀ w ∈ L, w.before args s = true := by
  intro w hw
  by_cases e1 : w = .isRef (.static Bundle.tN "UNASSIGNED_STACK" Bundle.steD)
  · rw [e1]; exact hU
  · by_cases e2 : w = .isRef (.static Bundle.tN "SUPPRESSED_SENTINEL" Bundle.listD)
    · rw [e2]; exact hN
    · by_cases e3 : w = .laysStatic Bundle.tN "UNASSIGNED_STACK" Bundle.steD
      · rw [e3]; exact lU
      · by_cases e4 : w = .laysStatic Bundle.tN "SUPPRESSED_SENTINEL" Bundle.listD
        · rw [e4]; exact lN
        · exact h1 w (List.mem_filter.mpr ⟨hw, by unfold vx_no; rw [decide_eq_true e1, decide_eq_true e2, decide_eq_true e3, decide_eq_true e4]; rfl⟩)
/-- where a static field lies, its class's statics cell in H -/
def vx_L (C n d : String) (A : Nat → Prop) (U : State) (H : Heap) : Prop := ∃ (c : ClassId) (k : Class) (i : Nat) (f : Field) (a : Nat) (cell : Cell), U.vm.findClass C = some c ∧ U.fieldFound? C n d = some (c, k, i, f) ∧ f.isStatic = true ∧ k.statics = some a ∧ H[a]? = some cell ∧ cell.vm.isStatics = true ∧ cell.cls = c ∧ f.slot < cell.slots.size ∧ k.staticTypes[f.slot]? = some f.type ∧ ¬ A a
theorem vx_L.moved {C n d : String} {A : Nat → Prop} {u U : State} {H : Heap} (hvm : u.vm.Alike U.vm) (h : vx_L C n d A u H) : vx_L C n d A U H := by
  obtain ⟨c, k, i, f, a, cell, h1, h2, h3, h4, h5, h6, h7, h8, h9, h10⟩ := h
  obtain ⟨k', hi', he⟩ := State.fieldFound?_setVm hvm h2
  exact ⟨c, k', i, f, a, cell, by rw [hvm.findClass]; exact h1, hi', h3, by rw [he]; exact h4, h5, h6, h7, h8, by rw [he]; exact h9, h10⟩
theorem vx_L.kept {C n d : String} {A : Nat → Prop} {U : State} {H H1 : Heap} (h : vx_L C n d A U H) (hq : ∀ a : Nat, a < H.size → ¬ A a → H1[a]? = H[a]?) : vx_L C n d A U H1 := by
  obtain ⟨c, k, i, f, a, cell, h1, h2, h3, h4, h5, h6, h7, h8, h9, h10⟩ := h
  exact ⟨c, k, i, f, a, cell, h1, h2, h3, h4, by rw [hq a (Array.getElem?_eq_some_iff.mp h5).1 h10]; exact h5, h6, h7, h8, h9, h10⟩
theorem vx_L.narrow {C n d : String} {A B : Nat → Prop} {U : State} {H : Heap} (h : vx_L C n d A U H) (hAB : ∀ q, B q → A q) : vx_L C n d B U H := by
  obtain ⟨c, k, i, f, a, cell, h1, h2, h3, h4, h5, h6, h7, h8, h9, h10⟩ := h
  exact ⟨c, k, i, f, a, cell, h1, h2, h3, h4, h5, h6, h7, h8, h9, fun z => h10 (hAB _ z)⟩
theorem vx_L.word {C n d : String} {A : Nat → Prop} {s : State} {args : Array Value} (h : vx_L C n d A s s.heap) : (Cond.laysStatic C n d).before args s = true := by
  obtain ⟨c, k, i, f, a, cell, h1, h2, h3, h4, h5, h6, h7, h8, h9, -⟩ := h
  show (Cond.laysStatic C n d).holds args s none s [] = true
  exact Cond.laysStatic_of h1 h2 h3 h4 h5 h6 h7 h8 h9
/-- .. and what it holds: null or some reference -/
def vx_Zq (C n d : String) (A : Nat → Prop) (U : State) (H : Heap) : Prop := va_Zq C n d A U H ∧ vx_L C n d A U H
theorem vx_Zq.moved {C n d : String} {A : Nat → Prop} {u U : State} {H : Heap} (hvm : u.vm.Alike U.vm) (h : vx_Zq C n d A u H) : vx_Zq C n d A U H := ⟨va_Zq.moved hvm h.1, vx_L.moved hvm h.2⟩
theorem vx_Zq.kept {C n d : String} {A : Nat → Prop} {U : State} {H H1 : Heap} (h : vx_Zq C n d A U H) (hq : ∀ a : Nat, a < H.size → ¬ A a → H1[a]? = H[a]?) : vx_Zq C n d A U H1 := ⟨va_Zq.kept h.1 hq, vx_L.kept h.2 hq⟩
theorem vx_Zq.narrow {C n d : String} {A B : Nat → Prop} {U : State} {H : Heap} (h : vx_Zq C n d A U H) (hAB : ∀ q, B q → A q) : vx_Zq C n d B U H := ⟨va_Zq.narrow h.1 hAB, vx_L.narrow h.2 hAB⟩
theorem vx_Zqof {args : Array Value} {s : State} {C n d : String} {A : Nat → Prop} (hl : (Cond.laysStatic C n d).before args s = true) (hini : (Cond.initialized C).before args s = true) (h : (Cond.isRef (.static C n d)).before args s = true) (hA : ∀ a : Nat, a < s.heap.size → ¬ A a) : vx_Zq C n d A s s.heap := by
  refine ⟨va_Zqof hl hini h hA, ?_⟩
  obtain ⟨c, k, i, f, a, cell, h1, h2, h3, h4, h5, h6, h7, h8, h9⟩ := Cond.laysStatic_spec hl
  exact ⟨c, k, i, f, a, cell, h1, h2, h3, h4, h5, h6, h7, h8, h9, hA a (Array.getElem?_eq_some_iff.mp h5).1⟩
theorem vx_isRef {C n d : String} {v : Value} {A : Nat → Prop} {s : State} {args : Array Value} (h : va_Z C n d v A s s.heap) (hv : v.isRef = true) : (Cond.isRef (.static C n d)).before args s = true := by
  obtain ⟨cf, kf, fi, f, a, cell, h1, h2, h3, h4, h5, h6, h7, -⟩ := h
  have he : (Term.static C n d).eval args s none [] s = some v := by
    simp [Term.eval, State.fieldNamed?, h1, h2, h4, h5, h6, h7]
  simp only [Cond.before, Cond.holds, Cond.value, he]
  cases v <;> simp_all [Value.isRef]
theorem vx_isRefq {C n d : String} {A : Nat → Prop} {s : State} {args : Array Value} (h : va_Zq C n d A s s.heap) : (Cond.isRef (.static C n d)).before args s = true := by
  rcases h with h | ⟨t, h⟩
  · exact vx_isRef h rfl
  · exact vx_isRef h rfl
/-- the same frame, seen from here: as if the method were called anew in this heap -/
theorem vx_rebase {T : State} (X : Stand p l e R s m args below meth c T locs cells slots) {R' : Room} (hf : R'.frames ≤ R.frames) (hl : R'.locals ≤ R.locals) (hc : cells + R'.cells ≤ R.cells) (hs : slots + R'.slots ≤ R.slots) :
    Stand p l e R' ((T.setVm s.vm).setFrames (.invoking m args :: below)) m args below meth c T [] 0 0 := by
  have htop : (T.setVm s.vm).topJava?.isSome := X.here.top
  have hF : ((T.setVm s.vm).setFrames (.invoking m args :: below)).frames = .invoking m args :: below := State.frames_setFrames _ (State.cur_lt_of_top htop)
  obtain ⟨g₀, hg0⟩ := Option.isSome_iff_exists.mp htop
  obtain ⟨r, hr⟩ := State.topJava?_eq_some.mp hg0
  have hl9 : e.platform.stackLimits (T.setVm s.vm).me = e.platform.stackLimits s.me := X.limits
  have hb9 : (T.setVm s.vm).me.stackBytes = s.me.stackBytes := X.bytes
  refine ⟨X.admits, X.cas, X.clock, hF, ?_, X.hears, X.method, X.code, X.here, X.tail, X.warmed, ?_, ?_, ?_⟩
  · have h := X.room
    have hU : ((T.setVm s.vm).setFrames (.invoking m args :: below)).localsInUse = s.localsInUse := by
      rw [State.localsInUse_invoking hF (meth := meth) (c := c) X.method X.code, State.localsInUse_invoking X.frames X.method X.code]
    simp only [State.hasRoom, Bool.and_eq_true, decide_eq_true_eq] at h ⊢
    obtain ⟨⟨⟨⟨h1, h2, h3, h4, h5, h6⟩, h7⟩, h8⟩, h9⟩ := h
    rw [X.frames, List.length_cons] at h2 h3
    have q1 := X.heapSize
    have q2 := X.used
    simp only [hF, hU, List.length_cons, State.stackLimits_setFrames, State.stackBytes_setFrames, hl9, hb9]
    refine ⟨⟨⟨⟨by omega, by omega, by omega, by omega, by omega, h6⟩, ?_⟩, ?_⟩, X.book⟩
    · show T.heap.size + R'.cells ≤ e.platform.maxCells
      omega
    · show T.slotsUsed + R'.slots ≤ e.platform.maxSlots
      omega
  · rw [State.stackLimits_setFrames]; rfl
  · rw [State.stackBytes_setFrames]; rfl
  · refine ⟨?_, Nat.le_refl _, Nat.le_refl _, ?_, ?_, fun a c9 h9 => ⟨c9, h9, rfl, rfl, fun _ _ => rfl⟩⟩
    · obtain ⟨t, ht, -⟩ := State.frames_cons hr
      show T.setVm s.vm = { ((T.setVm s.vm).setFrames (.invoking m args :: below)).setFrames (T.setVm s.vm).frames with heap := T.heap, slotsUsed := T.slotsUsed }
      rw [State.setFrames_setFrames, State.setFrames_self ht]
      rfl
    · show T.slotsUsed = T.slotsUsed + ((T.heap.toList.drop T.heap.size).map (·.slots.size)).sum
      rw [List.drop_eq_nil_of_le (Nat.le_of_eq Array.length_toList)]
      rfl
    · show ((T.heap.toList.drop T.heap.size).map (·.slots.size)).sum ≤ 0
      rw [List.drop_eq_nil_of_le (Nat.le_of_eq Array.length_toList)]
      exact Nat.le_refl _
/-- 'throw new E()': new; dup; invokespecial; athrow -/
theorem vx_throw0 {cc : ByteArray} {pc : Nat} (hexec : p.tables.exec = Jvm.exec) (hb : c.code = cc) (hl : l.stackTraces = false) {own cls : String} {names : List String} {ik ic mc ms : Nat} {A : Nat → Prop}
    (hown : s.vm.findClass own = some m.cls) (hcls : Bundle.fit cls = true) (hnames : ∀ n ∈ names, Bundle.fit n = true)
    (hk : (Cond.classLink own ik cls).before args s = true) (hini : (Cond.initialized cls).before args s = true) (hat : ∀ w ∈ vx_at0 own ic cls names, w.before args s = true)
    (hgood : ∀ w ∈ Cond.classLink own ik cls :: Cond.initialized cls :: vx_at0 own ic cls names, vx_ot w = true)
    (hU : vx_Zq Bundle.tN "UNASSIGNED_STACK" Bundle.steD A s s.heap) (hN : vx_Zq Bundle.tN "SUPPRESSED_SENTINEL" Bundle.listD A s s.heap) (hS : va_S A s.heap H locs) (hsize : ls.size = c.maxLocals)
    (d0 : decode cc pc = .ok (.new ik, 3)) (d3 : decode cc (pc + 3) = .ok (.dup, 1)) (d4 : decode cc (pc + 4) = .ok (.invokespecial ic, 3)) (d7 : decode cc (pc + 7) = .ok (.athrow, 1))
    (hout : ∀ x ∈ c.exceptionTable.toList, covers x (pc + 7) = false)
    (hRframes : names.length + 3 < R.frames) (hRlocals : (rest.map fun v => v.category).sum + (13 * (names.length + 1) + 42) ≤ R.locals) (hRcells : cells + 1 ≤ R.cells) (hRslots : slots + 6 ≤ R.slots) (hlocks : meth.locks = false)
    (hx : ∀ t : State, s.vm.Alike t.vm → H.size ≤ t.heap.size → (∀ q : Nat, q < H.size → t.heap[q]? = H[q]?) → XC cls s t)
    (hf : ∀ z ∈ locs, free z.base) (hc : cells + 1 ≤ mc) (hs : slots + 6 ≤ ms) :
    W p l e R s m args below meth c H locs cells slots (vx_MQ below Qc XC args s mc ms free) (F0 m pc ls rest) := by
  intro T hT X
  have htr : e.platform.stackTraces = false := (show e.platform.stackTraces = l.stackTraces by rw [X.admits.platform]).trans hl
  have Y := vx_rebase X (R' := { frames := R.frames, locals := R.locals, cells := 1, slots := 6 }) (Nat.le_refl _) (Nat.le_refl _) hRcells hRslots
  obtain ⟨s', hA⟩ : ∃ z, z = (T.setVm s.vm).setFrames (.invoking m args :: below) := ⟨_, rfl⟩
  rw [← hA] at Y
  have hvm : s'.vm = s.vm := by rw [hA]; rfl
  have hhp : s'.heap = H := by rw [hA]; exact hT
  have hW0 : s.WarmedH s'.vm := by rw [hvm]; exact State.WarmedH.refl s
  have hat' : ∀ w ∈ vx_at0 own ic cls names, w.before args s' = true := fun w hw => vx_ot_at hW0 hvm.symm (hgood w (List.mem_cons_of_mem _ (List.mem_cons_of_mem _ hw))) (hat w hw)
  have hk' : (Cond.classLink own ik cls).before args s' = true := vx_ot_at hW0 hvm.symm (hgood _ List.mem_cons_self) hk
  have hini' : (Cond.initialized cls).before args s' = true := vx_ot_at hW0 hvm.symm (hgood _ (List.mem_cons_of_mem _ List.mem_cons_self)) hini
  have hU' : vx_Zq Bundle.tN "UNASSIGNED_STACK" Bundle.steD A s' s'.heap := by rw [hhp]; exact vx_Zq.moved hW0.alike (hU.kept hS.2.1)
  have hN' : vx_Zq Bundle.tN "SUPPRESSED_SENTINEL" Bundle.listD A s' s'.heap := by rw [hhp]; exact vx_Zq.moved hW0.alike (hN.kept hS.2.1)
  have h : ∀ w ∈ Bundle.ownAtoms0 own ic cls names, w.before args s' = true := vx_own hat' (vx_isRefq hU'.1) (vx_isRefq hN'.1) hU'.2.word hN'.2.word
  have hown' : s'.vm.findClass own = some m.cls := by rw [hvm]; exact hown
  have hins : (Cond.instantiable cls 6).before args s' = true := h _ (by simp [Bundle.ownAtoms0])
  obtain ⟨vm₁, cX, kX, hfX, hkX, -, -, X₁, st1⟩ := Y.newCold hexec (own := own) (C := cls) (index := ik) (n := 6) hown' hk' hins hini'
    (g := F0 m pc ls rest) rfl (by rw [hb]; exact d0) (Nat.le_refl _) (Nat.le_refl _)
  generalize hT1 : (T.setVm vm₁).pushCell { cls := cX, slots := kX.instanceTypes.map defaultValue, vm := .none } = T1 at X₁ st1
  have hcat : (Value.ref T.heap.size).category = 1 := rfl
  have hcellA : T1.heap[T.heap.size]? = some (freshCell cX kX) := by rw [← hT1]; exact State.heap_pushCell_size _ _
  have d3' : decode c.code (pc + 3) = .ok (.dup, 1) := by rw [hb]; exact d3
  obtain ⟨U, hsteps, hrun, hend, hW, hsame, ce, hce, hO⟩ := X₁.ctorThrow0 hexec htr (own := own) (cls := cls) (names := names) (ic := ic) hown' hcls hnames h (fun x hx => nomatch hx) hfX hkX hcellA (by rw [hhp, hT]; exact Nat.le_refl _)
    (g := { method := m, pc := pc + 4, locals := ls, stack := .ref T.heap.size :: .ref T.heap.size :: rest, locked := none }) rfl hsize rfl rfl (rest := rest) rfl
    (by rw [hb]; exact d4) (by rw [hb]; exact d7) hout hRframes (by simp only [List.map_cons, List.sum_cons, hcat]; omega) hlocks
  obtain ⟨f1, f2⟩ := vx_frame hsame
  rw [hhp] at f1 f2
  have hWs : s.WarmedH U.vm := State.WarmedH.trans hW0 hW
  have hcl : s.vm.findClass cls = some ce.cls := by
    have h9 := hO.cls
    rw [hvm] at h9
    exact h9
  have hall : s.sameButNew ({ U with vm := s.vm } : State) locs mc ms := by
    subst hA
    obtain ⟨e1, e2⟩ := hsame
    rw [State.setFrames_setFrames] at e1
    have h2 : (T.setVm s.vm).sameButNew ({ U with vm := s.vm } : State) [] (0 + 1) (0 + 6) := ⟨e1, e2⟩
    have h3 := X.same.trans h2
    rw [List.append_nil] at h3
    exact h3.mono hc hs
  refine ⟨U, ?_, .threw T.heap.size, hrun, hend, Or.inr ⟨T.heap.size, rfl, cls, ce, locs, hx U hWs.alike f1 (fun q hq => f2 q hq (fun z hz => nomatch hz)), hce, hO.vm, hcl, hWs, hall, hf⟩⟩
  refine st1 _ ?_
  show Steps p.tables e below (T1.setTop { method := m, pc := pc + 3, locals := ls, stack := .ref T.heap.size :: rest, locked := none }) _
  jvm_step X₁.here [X₁.here.top, hexec, d3', Value.category]
  exact hsteps
/-- 'throw new E("text")': new; dup; ldc; invokespecial; athrow -/
theorem vx_throwS {cc : ByteArray} {pc : Nat} (hexec : p.tables.exec = Jvm.exec) (hb : c.code = cc) (hl : l.stackTraces = false) {own cls text : String} {names : List String} {ik is ic mc ms sa : Nat} {A : Nat → Prop}
    (hown : s.vm.findClass own = some m.cls) (hcls : Bundle.fit cls = true) (hnames : ∀ n ∈ names, Bundle.fit n = true)
    (hk : (Cond.classLink own ik cls).before args s = true) (hini : (Cond.initialized cls).before args s = true) (hstr : vk_R own is text sa s) (hat : ∀ w ∈ vx_atS own ic cls names, w.before args s = true)
    (hgood : ∀ w ∈ Cond.classLink own ik cls :: Cond.initialized cls :: vx_atS own ic cls names, vx_ot w = true)
    (hU : vx_Zq Bundle.tN "UNASSIGNED_STACK" Bundle.steD A s s.heap) (hN : vx_Zq Bundle.tN "SUPPRESSED_SENTINEL" Bundle.listD A s s.heap) (hS : va_S A s.heap H locs) (hsize : ls.size = c.maxLocals)
    (d0 : decode cc pc = .ok (.new ik, 3)) (d3 : decode cc (pc + 3) = .ok (.dup, 1)) (d4 : decode cc (pc + 4) = .ok (.ldc is, 2)) (d6 : decode cc (pc + 6) = .ok (.invokespecial ic, 3)) (d9 : decode cc (pc + 9) = .ok (.athrow, 1))
    (hout : ∀ x ∈ c.exceptionTable.toList, covers x (pc + 9) = false)
    (hRframes : names.length + 3 < R.frames) (hRlocals : (rest.map fun v => v.category).sum + (13 * (names.length + 1) + 43) ≤ R.locals) (hRcells : cells + 1 ≤ R.cells) (hRslots : slots + 6 ≤ R.slots) (hlocks : meth.locks = false)
    (hx : ∀ t : State, s.vm.Alike t.vm → H.size ≤ t.heap.size → (∀ q : Nat, q < H.size → t.heap[q]? = H[q]?) → XC cls s t)
    (hf : ∀ z ∈ locs, free z.base) (hc : cells + 1 ≤ mc) (hs : slots + 6 ≤ ms) :
    W p l e R s m args below meth c H locs cells slots (vx_MQ below Qc XC args s mc ms free) (F0 m pc ls rest) := by
  intro T hT X
  have htr : e.platform.stackTraces = false := (show e.platform.stackTraces = l.stackTraces by rw [X.admits.platform]).trans hl
  have Y := vx_rebase X (R' := { frames := R.frames, locals := R.locals, cells := 1, slots := 6 }) (Nat.le_refl _) (Nat.le_refl _) hRcells hRslots
  obtain ⟨s', hA⟩ : ∃ z, z = (T.setVm s.vm).setFrames (.invoking m args :: below) := ⟨_, rfl⟩
  rw [← hA] at Y
  have hvm : s'.vm = s.vm := by rw [hA]; rfl
  have hhp : s'.heap = H := by rw [hA]; exact hT
  have hW0 : s.WarmedH s'.vm := by rw [hvm]; exact State.WarmedH.refl s
  have hat' : ∀ w ∈ vx_atS own ic cls names, w.before args s' = true := fun w hw => vx_ot_at hW0 hvm.symm (hgood w (List.mem_cons_of_mem _ (List.mem_cons_of_mem _ hw))) (hat w hw)
  have hk' : (Cond.classLink own ik cls).before args s' = true := vx_ot_at hW0 hvm.symm (hgood _ List.mem_cons_self) hk
  have hini' : (Cond.initialized cls).before args s' = true := vx_ot_at hW0 hvm.symm (hgood _ (List.mem_cons_of_mem _ List.mem_cons_self)) hini
  have hU' : vx_Zq Bundle.tN "UNASSIGNED_STACK" Bundle.steD A s' s'.heap := by rw [hhp]; exact vx_Zq.moved hW0.alike (hU.kept hS.2.1)
  have hN' : vx_Zq Bundle.tN "SUPPRESSED_SENTINEL" Bundle.listD A s' s'.heap := by rw [hhp]; exact vx_Zq.moved hW0.alike (hN.kept hS.2.1)
  have h : ∀ w ∈ Bundle.ownAtoms own ic cls names, w.before args s' = true := vx_own hat' (vx_isRefq hU'.1) (vx_isRefq hN'.1) hU'.2.word hN'.2.word
  have hown' : s'.vm.findClass own = some m.cls := by rw [hvm]; exact hown
  have hins : (Cond.instantiable cls 6).before args s' = true := h _ (by simp [Bundle.ownAtoms])
  obtain ⟨vm₁, cX, kX, hfX, hkX, -, -, X₁, st1⟩ := Y.newCold hexec (own := own) (C := cls) (index := ik) (n := 6) hown' hk' hins hini'
    (g := F0 m pc ls rest) rfl (by rw [hb]; exact d0) (Nat.le_refl _) (Nat.le_refl _)
  generalize hT1 : (T.setVm vm₁).pushCell { cls := cX, slots := kX.instanceTypes.map defaultValue, vm := .none } = T1 at X₁ st1
  have hcat : (Value.ref T.heap.size).category = 1 := rfl
  have hcellA : T1.heap[T.heap.size]? = some (freshCell cX kX) := by rw [← hT1]; exact State.heap_pushCell_size _ _
  have d3' : decode c.code (pc + 3) = .ok (.dup, 1) := by rw [hb]; exact d3
  have d4' : decode c.code (pc + 4) = .ok (.ldc is, 2) := by rw [hb]; exact d4
  have hstr' : vk_R own is text sa s' := vk_R.warm hW0 hstr
  obtain ⟨U, hsteps, hrun, hend, hW, hsame, ce, hce, hO⟩ := X₁.ctorThrowS hexec htr (own := own) (cls := cls) (names := names) (ic := ic) hown' hcls hnames h (fun x hx => nomatch hx) hfX hkX hcellA (by rw [hhp, hT]; exact Nat.le_refl _) (msg := .ref sa) rfl
    (g := { method := m, pc := pc + 6, locals := ls, stack := .ref sa :: .ref T.heap.size :: .ref T.heap.size :: rest, locked := none }) rfl hsize rfl rfl (rest := rest) rfl
    (by rw [hb]; exact d6) (by rw [hb]; exact d9) hout hRframes (by simp only [List.map_cons, List.sum_cons, hcat]; omega) hlocks
  obtain ⟨f1, f2⟩ := vx_frame hsame
  rw [hhp] at f1 f2
  have hWs : s.WarmedH U.vm := State.WarmedH.trans hW0 hW
  have hcl : s.vm.findClass cls = some ce.cls := by
    have h9 := hO.cls
    rw [hvm] at h9
    exact h9
  have hall : s.sameButNew ({ U with vm := s.vm } : State) locs mc ms := by
    subst hA
    obtain ⟨e1, e2⟩ := hsame
    rw [State.setFrames_setFrames] at e1
    have h2 : (T.setVm s.vm).sameButNew ({ U with vm := s.vm } : State) [] (0 + 1) (0 + 6) := ⟨e1, e2⟩
    have h3 := X.same.trans h2
    rw [List.append_nil] at h3
    exact h3.mono hc hs
  refine ⟨U, ?_, .threw T.heap.size, hrun, hend, Or.inr ⟨T.heap.size, rfl, cls, ce, locs, hx U hWs.alike f1 (fun q hq => f2 q hq (fun z hz => nomatch hz)), hce, hO.vm, hcl, hWs, hall, hf⟩⟩
  refine st1 _ ?_
  show Steps p.tables e below (T1.setTop { method := m, pc := pc + 3, locals := ls, stack := .ref T.heap.size :: rest, locked := none }) _
  jvm_step X₁.here [X₁.here.top, hexec, d3', Value.category]
  exact X₁.ldcString hexec (own := own) (text := text) (index := is) (a := sa) hown' hstr'.1 hstr'.2
    (g := { method := m, pc := pc + 4, locals := ls, stack := .ref T.heap.size :: .ref T.heap.size :: rest, locked := none }) rfl d4' _ hsteps
/-- 'throw new E("text")', the text by a wide index -/
theorem vx_throwSW {cc : ByteArray} {pc : Nat} (hexec : p.tables.exec = Jvm.exec) (hb : c.code = cc) (hl : l.stackTraces = false) {own cls text : String} {names : List String} {ik is ic mc ms sa : Nat} {A : Nat → Prop}
    (hown : s.vm.findClass own = some m.cls) (hcls : Bundle.fit cls = true) (hnames : ∀ n ∈ names, Bundle.fit n = true)
    (hk : (Cond.classLink own ik cls).before args s = true) (hini : (Cond.initialized cls).before args s = true) (hstr : vk_R own is text sa s) (hat : ∀ w ∈ vx_atS own ic cls names, w.before args s = true)
    (hgood : ∀ w ∈ Cond.classLink own ik cls :: Cond.initialized cls :: vx_atS own ic cls names, vx_ot w = true)
    (hU : vx_Zq Bundle.tN "UNASSIGNED_STACK" Bundle.steD A s s.heap) (hN : vx_Zq Bundle.tN "SUPPRESSED_SENTINEL" Bundle.listD A s s.heap) (hS : va_S A s.heap H locs) (hsize : ls.size = c.maxLocals)
    (d0 : decode cc pc = .ok (.new ik, 3)) (d3 : decode cc (pc + 3) = .ok (.dup, 1)) (d4 : decode cc (pc + 4) = .ok (.ldc_w is, 3)) (d7 : decode cc (pc + 7) = .ok (.invokespecial ic, 3)) (d10 : decode cc (pc + 10) = .ok (.athrow, 1))
    (hout : ∀ x ∈ c.exceptionTable.toList, covers x (pc + 10) = false)
    (hRframes : names.length + 3 < R.frames) (hRlocals : (rest.map fun v => v.category).sum + (13 * (names.length + 1) + 43) ≤ R.locals) (hRcells : cells + 1 ≤ R.cells) (hRslots : slots + 6 ≤ R.slots) (hlocks : meth.locks = false)
    (hx : ∀ t : State, s.vm.Alike t.vm → H.size ≤ t.heap.size → (∀ q : Nat, q < H.size → t.heap[q]? = H[q]?) → XC cls s t)
    (hf : ∀ z ∈ locs, free z.base) (hc : cells + 1 ≤ mc) (hs : slots + 6 ≤ ms) :
    W p l e R s m args below meth c H locs cells slots (vx_MQ below Qc XC args s mc ms free) (F0 m pc ls rest) := by
  intro T hT X
  have htr : e.platform.stackTraces = false := (show e.platform.stackTraces = l.stackTraces by rw [X.admits.platform]).trans hl
  have Y := vx_rebase X (R' := { frames := R.frames, locals := R.locals, cells := 1, slots := 6 }) (Nat.le_refl _) (Nat.le_refl _) hRcells hRslots
  obtain ⟨s', hA⟩ : ∃ z, z = (T.setVm s.vm).setFrames (.invoking m args :: below) := ⟨_, rfl⟩
  rw [← hA] at Y
  have hvm : s'.vm = s.vm := by rw [hA]; rfl
  have hhp : s'.heap = H := by rw [hA]; exact hT
  have hW0 : s.WarmedH s'.vm := by rw [hvm]; exact State.WarmedH.refl s
  have hat' : ∀ w ∈ vx_atS own ic cls names, w.before args s' = true := fun w hw => vx_ot_at hW0 hvm.symm (hgood w (List.mem_cons_of_mem _ (List.mem_cons_of_mem _ hw))) (hat w hw)
  have hk' : (Cond.classLink own ik cls).before args s' = true := vx_ot_at hW0 hvm.symm (hgood _ List.mem_cons_self) hk
  have hini' : (Cond.initialized cls).before args s' = true := vx_ot_at hW0 hvm.symm (hgood _ (List.mem_cons_of_mem _ List.mem_cons_self)) hini
  have hU' : vx_Zq Bundle.tN "UNASSIGNED_STACK" Bundle.steD A s' s'.heap := by rw [hhp]; exact vx_Zq.moved hW0.alike (hU.kept hS.2.1)
  have hN' : vx_Zq Bundle.tN "SUPPRESSED_SENTINEL" Bundle.listD A s' s'.heap := by rw [hhp]; exact vx_Zq.moved hW0.alike (hN.kept hS.2.1)
  have h : ∀ w ∈ Bundle.ownAtoms own ic cls names, w.before args s' = true := vx_own hat' (vx_isRefq hU'.1) (vx_isRefq hN'.1) hU'.2.word hN'.2.word
  have hown' : s'.vm.findClass own = some m.cls := by rw [hvm]; exact hown
  have hins : (Cond.instantiable cls 6).before args s' = true := h _ (by simp [Bundle.ownAtoms])
  obtain ⟨vm₁, cX, kX, hfX, hkX, -, -, X₁, st1⟩ := Y.newCold hexec (own := own) (C := cls) (index := ik) (n := 6) hown' hk' hins hini'
    (g := F0 m pc ls rest) rfl (by rw [hb]; exact d0) (Nat.le_refl _) (Nat.le_refl _)
  generalize hT1 : (T.setVm vm₁).pushCell { cls := cX, slots := kX.instanceTypes.map defaultValue, vm := .none } = T1 at X₁ st1
  have hcat : (Value.ref T.heap.size).category = 1 := rfl
  have hcellA : T1.heap[T.heap.size]? = some (freshCell cX kX) := by rw [← hT1]; exact State.heap_pushCell_size _ _
  have d3' : decode c.code (pc + 3) = .ok (.dup, 1) := by rw [hb]; exact d3
  have d4' : decode c.code (pc + 4) = .ok (.ldc_w is, 3) := by rw [hb]; exact d4
  have hstr' : vk_R own is text sa s' := vk_R.warm hW0 hstr
  obtain ⟨U, hsteps, hrun, hend, hW, hsame, ce, hce, hO⟩ := X₁.ctorThrowS hexec htr (own := own) (cls := cls) (names := names) (ic := ic) hown' hcls hnames h (fun x hx => nomatch hx) hfX hkX hcellA (by rw [hhp, hT]; exact Nat.le_refl _) (msg := .ref sa) rfl
    (g := { method := m, pc := pc + 7, locals := ls, stack := .ref sa :: .ref T.heap.size :: .ref T.heap.size :: rest, locked := none }) rfl hsize rfl rfl (rest := rest) rfl
    (by rw [hb]; exact d7) (by rw [hb]; exact d10) hout hRframes (by simp only [List.map_cons, List.sum_cons, hcat]; omega) hlocks
  obtain ⟨f1, f2⟩ := vx_frame hsame
  rw [hhp] at f1 f2
  have hWs : s.WarmedH U.vm := State.WarmedH.trans hW0 hW
  have hcl : s.vm.findClass cls = some ce.cls := by
    have h9 := hO.cls
    rw [hvm] at h9
    exact h9
  have hall : s.sameButNew ({ U with vm := s.vm } : State) locs mc ms := by
    subst hA
    obtain ⟨e1, e2⟩ := hsame
    rw [State.setFrames_setFrames] at e1
    have h2 : (T.setVm s.vm).sameButNew ({ U with vm := s.vm } : State) [] (0 + 1) (0 + 6) := ⟨e1, e2⟩
    have h3 := X.same.trans h2
    rw [List.append_nil] at h3
    exact h3.mono hc hs
  refine ⟨U, ?_, .threw T.heap.size, hrun, hend, Or.inr ⟨T.heap.size, rfl, cls, ce, locs, hx U hWs.alike f1 (fun q hq => f2 q hq (fun z hz => nomatch hz)), hce, hO.vm, hcl, hWs, hall, hf⟩⟩
  refine st1 _ ?_
  show Steps p.tables e below (T1.setTop { method := m, pc := pc + 3, locals := ls, stack := .ref T.heap.size :: rest, locked := none }) _
  jvm_step X₁.here [X₁.here.top, hexec, d3', Value.category]
  exact X₁.ldcStringW hexec (own := own) (text := text) (index := is) (a := sa) hown' hstr'.1 hstr'.2
    (g := { method := m, pc := pc + 4, locals := ls, stack := .ref T.heap.size :: .ref T.heap.size :: rest, locked := none }) rfl d4' _ hsteps
end Ends
section Bodies
variable {l : Launch}
theorem vx_ofW {y : MethodName} {ws ws' : List Cond} {rm : Room} {Pc : Array Value → State → Prop} {Qc : Array Value → State → Outcome → State → Prop} {XC : String → State → State → Prop} {mc ms : Nat} {free : Addr → Prop} {cc : ByteArray} {maxL : Nat} {ret : Option FieldType}
    (hy : plainName y.cls = true) (hw : ws = Cond.code y cc maxL ret :: ws')
    (body : ∀ p e s m args below meth c s₁, BodyLoose p l y (headSpec ws rm) cc maxL ret e s m args below meth c s₁ → c.maxLocals = maxL → (∀ x ∈ c.exceptionTable.toList, False) → Pc args s →
      W p l e (headSpec ws rm).room s m args below meth c s.heap [] 0 0 (vx_MQ below Qc XC args s mc ms free) (entryFrame m args maxL)) : vx_Met l y ws rm Pc Qc XC mc ms free := by
  refine MetFree.of_bodyS (code := cc) (maxLocals := maxL) (ret := ret) hy ?_ ?_
  · intro args s m h hn
    obtain ⟨meth, c, h1, h2, h3, h4, h5, h6, -, -⟩ := Cond.code_spec hn (atoms_spec (ws := ws) h _ (by rw [hw]; exact List.mem_cons_self))
    exact ⟨meth, c, h1, h2, h3, h4, h5, h6⟩
  · intro p e s m args below meth c s₁ B hml hP _
    have hh0 : s₁.heap = s.heap := by rw [B.state]; rfl
    have ht : ∀ x ∈ c.exceptionTable.toList, False := by
      obtain ⟨meth9, c9, h1, h2, -, -, -, -, h7, -⟩ := Cond.code_spec B.named (atoms_spec (ws := ws) B.pre _ (by rw [hw]; exact List.mem_cons_self))
      cases Option.some.inj (h1.symm.trans B.method)
      cases Option.some.inj (h2.symm.trans (Stand.of_body B).code)
      intro x hx
      rw [Array.isEmpty_iff.mp h7] at hx
      cases hx
    obtain ⟨t, a1, o, b1, b2, b3⟩ := body p e s m args below meth c s₁ B hml ht hP s₁ hh0 (Stand.of_body B)
    exact ⟨t, o, a1, b1, b2, b3⟩
/-- the table of a body with handlers -/
theorem vx_table {p : Program} {x y : MethodName} {S : Spec} {cc bytes : ByteArray} {maxL maxL' : Nat} {ret ret' : Option FieldType} {e : Env} {s s₁ : State} {m : MethodId} {args : Array Value} {below : List Frame} {meth : Method} {c : Code} {hh : List (Nat × Nat × Nat × Nat)}
    (B : BodyLoose p l y S cc maxL ret e s m args below meth c s₁) (h : (Cond.codeWith y bytes maxL' ret' hh).before args s = true) : c.exceptionTable.toList = tableOf hh := by
  obtain ⟨m9, meth9, c9, hn9, h1, h2, -, -, h6, -⟩ := Cond.codeWith_spec h
  cases Option.some.inj (hn9.symm.trans B.named)
  cases Option.some.inj (h1.symm.trans B.method)
  cases Option.some.inj (h2.symm.trans (Stand.of_body B).code)
  rw [← h6, table_eq]
end Bodies
end VXA
/-! ===== END ===== -/
/-! ===== BEGIN a static call of a method with an exception table ===== -/
section VXS
variable {p : Program} {l : Launch} {e : Env} {R : Room} {s : State} {m : MethodId} {args : Array Value} {below : List Frame} {meth : Method} {c : Code} {T : State} {H : Heap} {locs : List Loc} {cells slots : Nat}
abbrev vx_CSW (R : Room) (s : State) (args : Array Value) (own : String) (index : Nat) (y : MethodName) (bytes : ByteArray) (maxL : Nat) (ret : Option FieldType) (hh : List (Nat × Nat × Nat × Nat)) (ws : List Cond) (rm : Room) (mc ms n : Nat) : Prop :=
  (rm.cells = mc ∧ rm.slots = ms ∧ rm.frames + 1 ≤ R.frames ∧ 8 + (maxL + 11) + rm.locals ≤ R.locals ∧ (∀ w ∈ ws, ∀ (a' : Array Value) (U : State), s.WarmedH U.vm → w.before a' U = true) ∧ Cond.codeWith y bytes maxL ret hh ∈ ws) ∧
  (Cond.codeWith y bytes maxL ret hh).before args s = true ∧ (Cond.initialized y.cls).before args s = true ∧ (y.cls ≠ "java/lang/invoke/MethodHandle" ∧ y.cls ≠ "java/lang/invoke/VarHandle") ∧
  (∀ sig, parseMethodDescriptor y.desc = some sig → n = sig.parameters.length) ∧ (Cond.methodLink own index y).before args s = true ∧ (Cond.static y).before args s = true
theorem vx_cwSW {own : String} {index maxL mc ms : Nat} {y : MethodName} {bytes : ByteArray} {ret : Option FieldType} {hh : List (Nat × Nat × Nat × Nat)} {Ts ws ws' : List Cond} {rm : Room} (n : Nat) (ht : ∀ w ∈ Ts, w.before args s = true) (hT : GoodIn Ts (va_wsS own index y ws)) (hw : ws = Cond.codeWith y bytes maxL ret hh :: ws') (hrc : rm.cells = mc) (hrs : rm.slots = ms)
    (hd : y.cls ≠ "java/lang/invoke/MethodHandle" ∧ y.cls ≠ "java/lang/invoke/VarHandle" ∧ (parseMethodDescriptor y.desc).map (fun d => d.parameters.length) = some n) (hR : rm.frames + 1 ≤ R.frames ∧ 8 + (maxL + 11) + rm.locals ≤ R.locals) :
    vx_CSW R s args own index y bytes maxL ret hh ws rm mc ms n := by
  have ok : ∀ w ∈ va_wsS own index y ws, w.before args s = true := fun w h => ht w (hT w h).1
  have hG : GoodIn Ts ws := fun w h => hT w (by unfold va_wsS; exact List.mem_append_right _ h)
  have hc : Cond.codeWith y bytes maxL ret hh ∈ ws := by rw [hw]; exact List.mem_cons_self
  refine ⟨⟨hrc, hrs, hR.1, hR.2, pay_in ht hG, hc⟩, ht _ (hG _ hc).1, ok _ (by simp [va_wsS]), ⟨hd.1, hd.2.1⟩, fun sig h => ?_, ok _ (by simp [va_wsS]), ok _ (by simp [va_wsS])⟩
  have h2 := hd.2.2
  rw [h] at h2
  exact (Option.some.inj h2).symm
theorem vx_callSW (X : Stand p l e R s m args below meth c T locs cells slots) (hexec : p.tables.exec = Jvm.exec) {own : String} {index : Nat} {y : MethodName} {bytes : ByteArray} {maxL : Nat} {ret : Option FieldType} {hh : List (Nat × Nat × Nat × Nat)}
    (hown : s.vm.findClass own = some m.cls) (hlink : (Cond.methodLink own index y).before args s = true) (hstat : (Cond.static y).before args s = true) (hinit : (Cond.initialized y.cls).before args s = true)
    (hcode : (Cond.codeWith y bytes maxL ret hh).before args s = true) (hy : y.cls ≠ "java/lang/invoke/MethodHandle" ∧ y.cls ≠ "java/lang/invoke/VarHandle")
    {W9 : Nat} {Pre : Pt → Array Value → Prop} {Post : Pt → Array Value → Option Value → Pt → Prop} (hK : Back l R p e below s args y 3 W9 Pre Post)
    {g : JFrame} (hg : g.method = m) (hsize : g.locals.size = c.maxLocals) {argsL rest : List Value} (hlen : ∀ sig, parseMethodDescriptor y.desc = some sig → argsL.length = sig.parameters.length)
    (hstack : g.stack = argsL.reverse ++ rest) (hW : 2 * g.monitorRoom + (rest.map fun v => v.category).sum ≤ W9) (hdg : decode c.code g.pc = .ok (.invokestatic index, 3))
    (hpre : ∀ vm₁, s.WarmedH vm₁ → Pre ⟨T.setVm vm₁, locs, cells, slots⟩ argsL.toArray) :
    ∃ (v : Option Value) (vm₁ : Vm) (B : Pt), s.WarmedH vm₁ ∧ Stand p l e R s m args below meth c B.U B.locs B.cells B.slots ∧ Post ⟨T.setVm vm₁, locs, cells, slots⟩ argsL.toArray v B ∧
      ∀ target, Steps p.tables e below (B.U.setTop { g with pc := g.pc + 3, stack := v.toList ++ rest }) target → Steps p.tables e below (T.setTop g) target := by
  obtain ⟨mk, methM, cM, hnamed, hmethM, -, -, -, -, -, -, hsigM⟩ := Cond.codeWith_spec hcode
  have hstatic : methM.isStatic = true := Cond.static_spec hnamed hmethM hstat
  obtain ⟨kP, hkP, -⟩ := className_of_methodNamed hnamed
  have hinitP : kP.init = .initialized := Cond.initialized_spec (findClass_of_methodNamed hnamed) hkP hinit
  obtain ⟨vm₁, X₁, hstep₁⟩ := X.invokestatic hexec hown hlink hnamed hmethM hstatic hkP hinitP hy (g := g) hg (argsL := argsL) (rest := rest) (hlen _ hsigM) hstack hdg
  obtain ⟨v, B, X', hpost, hsteps⟩ := hK m meth c ⟨T.setVm vm₁, locs, cells, slots⟩ { g with stack := rest } (.invokestatic index) mk argsL.toArray X₁ hg hsize hdg hW (X₁.named hnamed) (hpre vm₁ X₁.warmed)
  exact ⟨v, vm₁, B, X₁.warmed, X', hpost, fun target h => hstep₁ _ fun acts => by rw [doInvoke_state]; exact hsteps.trans h⟩
theorem vx_runSW {y : MethodName} {bytes cc : ByteArray} {maxL nL mc ms n index : Nat} {ret : Option FieldType} {hh : List (Nat × Nat × Nat × Nat)} {ws : List Cond} {rm : Room} {Pc : Array Value → State → Prop} {Qc : Array Value → State → Outcome → State → Prop} {free : Addr → Prop} {Ts : List Cond} {own : String} {As rest : List Value} {g : JFrame}
    (S : CallFix p m c cc nL s args Ts own) (hM : Met l y ws rm Pc Qc mc ms free) (cw : vx_CSW R s args own index y bytes maxL ret hh ws rm mc ms n) (hp : PreS s H Pc As)
    (hg : g.method = m) (hn : As.length = n) (hsize : g.locals.size = nL) (hstack : g.stack = As.reverse ++ rest) (hW : 2 * g.monitorRoom + (rest.map fun v => v.category).sum ≤ 8) (hdg : decode cc g.pc = .ok (.invokestatic index, 3)) (hf : cells + mc ≤ R.cells ∧ slots + ms ≤ R.slots) :
    va_Run p l e R s m args below meth c H locs cells slots mc ms g rest (Qc As.toArray) (free) := by
  obtain ⟨⟨hrc, hrs, hfr, hlo, hws, hcw⟩, hcode, hini, hy, hlen, hl, hstt⟩ := cw
  have hK : Back l R p e below s args y 3 8 (PreOf R mc ms Pc) (PostOf Qc mc ms free) := va_backW (hh := hh) (bytes := bytes) (maxL := maxL) (ret := ret) hM hp.1 hrc hrs hfr hlo hws hcw (fun a' U hW => word_at hW (Or.inl (by first | rfl | simp [Cond.onTables, Cond.keeps, Cond.steady])) hini)
  obtain ⟨hx, hb, hml, ho, -⟩ := S
  intro T hT X
  obtain ⟨v, vm₁, ⟨U', l2, c2, s2⟩, hW₁, X', ⟨g', mk, t, L, e1, e2, hq, h1, hL, h2, h3⟩, st⟩ := vx_callSW X hx (hh := hh) (bytes := bytes) (maxL := maxL) (ret := ret) ho hl hstt hini hcode hy hK hg (hsize.trans hml.symm) (argsL := As) (rest := rest) (fun sig h => hn.trans (hlen sig h)) hstack hW (by rw [hb]; exact hdg)
    (fun vm₁ hW₁ => ⟨hf.1, hf.2, hp.2 (T.setVm vm₁) hT hW₁⟩)
  dsimp only [Pt.U, Pt.locs, Pt.cells, Pt.slots] at X' e1 e2 h1 h2 h3 st
  subst h1; subst h2; subst h3
  exact ⟨v, (T.setVm vm₁).calling g' mk As.toArray, t, U', L, hT, X', hL, e1, e2, hq, st⟩
/-- not caught here, past rows that name other classes: it goes on to the caller -/
theorem vx_outP {p : Program} {l : Launch} {e : Env} {R : Room} {s : State} {m : MethodId} {args : Array Value} {below : List Frame} {meth : Method} {c : Code} {H : Heap} {locs : List Loc} {cells slots : Nat} {free : Addr → Prop} {ls : Array Slot} {rest : List Value} {Qc : Array Value → State → Outcome → State → Prop} {XC : String → State → State → Prop}
    {pc : Nat} {own E : String} {ce : Cell} {q : Addr} {mc ms : Nat} (hown : s.vm.findClass own = some m.cls) (hlocks : meth.locks = false)
    (hpass : ∀ z ∈ c.exceptionTable.toList, covers z pc = false ∨ (z.catchType ≠ 0 ∧ ∃ nm : String, (Cond.classLink own z.catchType nm).before args s = true ∧ va_Nc E nm s)) (hcell : H[q]? = some ce) (hv : ce.vm = .none) (hcl : s.vm.findClass E = some ce.cls)
    (hx : ∀ t : State, t.heap = H → s.vm.Alike t.vm → XC E s t) (hf : ∀ z ∈ locs, free z.base) (hc : cells ≤ mc) (hs : slots ≤ ms) :
    vx_W p l e R s m args below meth c H locs cells slots (vx_MQ below Qc XC args s mc ms free) (F0 m pc ls rest) q := by
  intro T hT X
  have hpl : e.platform.magicAccessors = ({} : Platform).magicAccessors := by rw [X.admits.platform]
  obtain ⟨vm', hW', X', st⟩ := Stand.outThrough X hlocks q (g := F0 m pc ls rest) rfl rfl rfl (cell := ce) (by rw [hT]; exact hcell) (by rw [hv]; rfl)
    (by obtain ⟨k9, h9, -⟩ := Vm.findClass_spec hcl; exact ⟨k9, h9⟩) (fun z hz => by
      rcases hpass z hz with h | ⟨hz0, nm, hl1, hn1⟩
      · exact Or.inl h
      · obtain ⟨c6, hc6, hcl6⟩ := Cond.classLink_spec hown hl1 e.platform hpl
        obtain ⟨a8, b8, h1, h2, h3⟩ := hn1
        cases Option.some.inj (h1.symm.trans hcl)
        cases Option.some.inj (h2.symm.trans hc6)
        exact Or.inr ⟨hz0, _, hcl6, h3⟩)
  obtain ⟨g₀, hfr⟩ := X'.frames_eq
  have hcell9 : ((T.setVm vm').setFrames (.throwing q :: below)).heap[q]? = some ce := by
    show T.heap[q]? = some ce
    rw [hT]; exact hcell
  have hend : Ended ((T.setVm vm').setFrames (.throwing q :: below)) below (.threw q) := State.frames_setFrames _ (State.cur_lt_of_frames hfr)
  refine ⟨(T.setVm vm').setFrames (.throwing q :: below), ?_, .threw q, X'.here.running, hend, Or.inr ⟨q, rfl, E, ce, locs, hx _ hT (X'.ends _).1.alike, hcell9, hv, hcl, (X'.ends _).1, (X'.ends _).2.mono hc hs, hf⟩⟩
  rw [X.pushThrowing_eq]
  exact st
/-- a thing of a world lies in the heap -/
theorem vx_lt {D : va_G} {cl : List vw_C} {ws : va_W} {H1 : Heap} (h : va_P D cl ws H1) {k : Nat} {q : Nat × va_E} (hk : ws[k]? = some q) : q.1 < H1.size := (h k q hk).lt
end VXS
/-! ===== END ===== -/
/-! ===== BEGIN methods with a table of their own: called by a name, returning or throwing ===== -/
section VXH
/-! vx_backW, vx_callVX, vx_callSX, vx_callVW, vx_runVW, vx_runVX, vx_runSX, vx_ofWH follow the same proofs as their sisters above (Free/Laws.lean, Shelf42/LK1.lean); vx_outP calls Shelf42/NT130.lean (outThrough). -/
section
variable {l : Launch} {R : Room} {p : Program} {e : Env} {below : List Frame} {s : State} {sargs : Array Value} {y : MethodName} {len W9 : Nat}
theorem vx_backW {ws : List Cond} {rm : Room} {Pc : Array Value → State → Prop} {Qc : Array Value → State → Outcome → State → Prop} {XC : String → State → State → Prop} {mc ms : Nat} {free : Addr → Prop} {bytes : ByteArray} {maxL : Nat} {ret : Option FieldType} {hh : List (Nat × Nat × Nat × Nat)}
    (hM : vx_Met l y ws rm Pc Qc XC mc ms free) (hblind : FrameBlind Pc) (hrc : rm.cells = mc) (hrs : rm.slots = ms)
    (hframes : rm.frames + 1 ≤ R.frames) (hlocals : W9 + (maxL + 11) + rm.locals ≤ R.locals)
    (hws : ∀ w ∈ ws, ∀ a' U, s.WarmedH U.vm → w.before a' U = true) (hcode : Cond.codeWith y bytes maxL ret hh ∈ ws) (hinit : ∀ a' U, s.WarmedH U.vm → (Cond.initialized y.cls).before a' U = true) :
    vx_Back l R p e below s sargs y len W9 (PreOf R mc ms Pc) (PostOf Qc mc ms free) (vx_Post XC mc ms free) := by
  intro m meth c A g ig mk a X hg hsize hdg hW hn hp
  have h1 : (headSpec ws rm).pre.before a A.U = true := atoms_intro fun w hw => hws w hw _ _ X.warmed
  have h2 : (Cond.codeWith y bytes maxL ret hh).before a A.U = true := hws _ hcode _ _ X.warmed
  have h3 : (Cond.initialized y.cls).before a A.U = true := hinit _ _ X.warmed
  have h4 : A.cells + (headSpec ws rm).room.cells ≤ R.cells := by rw [show (headSpec ws rm).room.cells = mc from hrc]; exact hp.1
  have h5 : A.slots + (headSpec ws rm).room.slots ≤ R.slots := by rw [show (headSpec ws rm).room.slots = ms from hrs]; exact hp.2.1
  have hPc : Pc a (A.U.calling g mk a) := hblind _ _ _ _ hp.2.2
  obtain ⟨U, Ls, c0, s0⟩ := A
  dsimp only [Pt.U, Pt.locs, Pt.cells, Pt.slots] at h1 h2 h3 h4 h5 X hn hPc ⊢
  obtain ⟨m9, methY, cY, hn9, hmY, hcY, -, hlY, -⟩ := Cond.codeWith_spec h2
  cases Option.some.inj (hn9.symm.trans hn)
  obtain ⟨kY, hkY, -⟩ := className_of_methodNamed hn
  have hinitY : kY.init = .initialized := Cond.initialized_spec (findClass_of_methodNamed hn) hkY h3
  have h : At U g.method c below := by rw [hg]; exact X.here
  have hlocals9 : W9 + (maxL + 11) + (headSpec ws rm).room.locals ≤ R.locals := hlocals
  have happ : (headSpec ws rm).appliesLoose y e.platform (U.calling g mk a) = true :=
    Spec.appliesLoose_calling (g := g) h hdg hn hkY hinitY
      (X.room_calling (g := g) (R' := (headSpec ws rm).room) hsize hmY hcY hframes (by rw [hlY]; omega) h4 h5) h1
  obtain ⟨mid, hmid⟩ := h.above
  have hfr : (U.setTop g).frames = (.java g :: mid) ++ below := by rw [State.frames_setTop' g h.top, hmid]; rfl
  obtain ⟨o, s₂, hsteps, -, hend, hq⟩ := Steps.callFree hM p X.admits X.cas X.clock (acts := []) hfr happ hPc trivial
  have hq' : vx_Q Qc XC mc ms free a (U.calling g mk a) o s₂ := hq
  rw [State.frames_setTop' g h.top] at hend
  obtain ⟨g₀, hg0⟩ := Option.isSome_iff_exists.mp h.top
  obtain ⟨r, hr⟩ := State.topJava?_eq_some.mp hg0
  have hr' : (({ U with heap := s₂.heap, slotsUsed := s₂.slotsUsed } : State).setVm s₂.vm).frames = .java g₀ :: r := hr
  rcases hq' with ⟨hqc, L, hfe, hL⟩ | ⟨q, rfl, E, ce, L, hx, hce, hcv, hcl, hW₂, hsm, hL⟩
  · obtain ⟨⟨v, rfl⟩, hW₂, e2, q2, q3, q4, q5, q6⟩ := id hfe
    have e3 : s₂ = ({ (U.calling g mk a).setFrames s₂.frames with heap := s₂.heap, slotsUsed := s₂.slotsUsed } : State).setVm s₂.vm := by
      have : s₂ = ({ s₂ with vm := (U.calling g mk a).vm } : State).setVm s₂.vm := rfl
      rw [e2] at this
      exact this
    obtain ⟨c₂, i₂, len₂, hc₂, hd₂, hf₂⟩ := hend
    have hW' : U.WarmedH s₂.vm := hW₂
    have hcc : c₂ = c := by
      have h1 : s₂.code? g.method = U.code? g.method := by
        rw [State.code?_eq, State.code?_eq, hW'.alike.method?]
      exact Option.some.inj (hc₂.symm.trans (h1.trans h.code))
    subst hcc
    have hlen : len₂ = len := by rw [hdg] at hd₂; cases hd₂; rfl
    subst hlen
    have hs₂ : s₂ = (({ U with heap := s₂.heap, slotsUsed := s₂.slotsUsed } : State).setVm s₂.vm).setTop { g with pc := g.pc + len₂, stack := v.toList ++ g.stack } := by
      refine e3.trans ?_
      rw [hf₂, State.calling_eq h.top, State.setFrames_setFrames, State.setTop_of_frames _ hr', hr]
      rfl
    have hsame : U.sameButNew ({ U with heap := s₂.heap, slotsUsed := s₂.slotsUsed } : State) L mc ms := by
      refine ⟨?_, q2, q3, q4, q5, q6⟩
      obtain ⟨t, ht, -⟩ := State.frames_cons hr
      show ({ U with heap := s₂.heap, slotsUsed := s₂.slotsUsed } : State) = { U.setFrames U.frames with heap := s₂.heap, slotsUsed := s₂.slotsUsed }
      rw [State.setFrames_self ht]
    subst hg
    refine Or.inl ⟨v, ⟨(({ U with heap := s₂.heap, slotsUsed := s₂.slotsUsed } : State).setVm s₂.vm), Ls ++ L, c0 + mc, s0 + ms⟩,
      ⟨X.admits, X.cas, X.clock, X.frames, X.room, X.hears, X.method, X.code, (X.here.setHeapUsed s₂.heap s₂.slotsUsed).setVm hW'.alike, X.tail, State.WarmedH.trans X.warmed hW', X.limits, X.bytes, X.same.trans (hsame.setVm s.vm)⟩,
      ⟨g, mk, s₂, L, rfl, rfl, hqc, rfl, hL, rfl, rfl⟩, ?_⟩
    show Steps p.tables e below _ ((({ U with heap := s₂.heap, slotsUsed := s₂.slotsUsed } : State).setVm s₂.vm).setTop { g with pc := g.pc + len₂, stack := v.toList ++ g.stack })
    rw [← hs₂]
    exact hsteps
  · obtain ⟨e2, q2, q3, q4, q5, q6⟩ := id hsm
    have e3 : s₂ = ({ (U.calling g mk a).setFrames s₂.frames with heap := s₂.heap, slotsUsed := s₂.slotsUsed } : State).setVm s₂.vm := by
      have : s₂ = ({ s₂ with vm := (U.calling g mk a).vm } : State).setVm s₂.vm := rfl
      rw [e2] at this
      exact this
    have hf₂ : s₂.frames = .throwing q :: .java g :: U.frames.tail := hend
    have hW' : U.WarmedH s₂.vm := hW₂
    have hs₂ : s₂ = ((({ U with heap := s₂.heap, slotsUsed := s₂.slotsUsed } : State).setVm s₂.vm).setTop g).pushFrame (.throwing q) := by
      refine e3.trans ?_
      rw [hf₂, State.calling_eq h.top, State.setFrames_setFrames, State.pushFrame, State.frames_setTop _ hr', State.setTop_of_frames _ hr', State.setFrames_setFrames, hr]
      rfl
    have hsame : U.sameButNew ({ U with heap := s₂.heap, slotsUsed := s₂.slotsUsed } : State) L mc ms := by
      refine ⟨?_, q2, q3, q4, q5, q6⟩
      obtain ⟨t, ht, -⟩ := State.frames_cons hr
      show ({ U with heap := s₂.heap, slotsUsed := s₂.slotsUsed } : State) = { U.setFrames U.frames with heap := s₂.heap, slotsUsed := s₂.slotsUsed }
      rw [State.setFrames_self ht]
    subst hg
    refine Or.inr ⟨q, ⟨(({ U with heap := s₂.heap, slotsUsed := s₂.slotsUsed } : State).setVm s₂.vm), Ls ++ L, c0 + mc, s0 + ms⟩,
      ⟨X.admits, X.cas, X.clock, X.frames, X.room, X.hears, X.method, X.code, (X.here.setHeapUsed s₂.heap s₂.slotsUsed).setVm hW'.alike, X.tail, State.WarmedH.trans X.warmed hW', X.limits, X.bytes, X.same.trans (hsame.setVm s.vm)⟩,
      ⟨g, mk, s₂, L, E, ce, rfl, rfl, hx, hce, hcv, hcl, rfl, hL, rfl, rfl⟩, ?_⟩
    show Steps p.tables e below _ (((({ U with heap := s₂.heap, slotsUsed := s₂.slotsUsed } : State).setVm s₂.vm).setTop g).pushFrame (.throwing q))
    rw [← hs₂]
    exact hsteps
end
variable {p : Program} {l : Launch} {e : Env} {R : Room} {s : State} {m : MethodId} {args : Array Value} {below : List Frame} {meth : Method} {c : Code} {T : State} {H : Heap} {locs : List Loc} {cells slots : Nat}
theorem vx_callVX (X : Stand p l e R s m args below meth c T locs cells slots) (hexec : p.tables.exec = Jvm.exec) {own C : String} {index : Nat} {y : MethodName} {bytes : ByteArray} {maxL : Nat} {ret : Option FieldType} {hh : List (Nat × Nat × Nat × Nat)}
    (hown : s.vm.findClass own = some m.cls) (hlink : (Cond.methodLink own index y).before args s = true) (hinst : (Cond.instanceMethod y).before args s = true) (hsel : (Cond.selects C y y).before args s = true)
    (hcode : (Cond.codeWith y bytes maxL ret hh).before args s = true) (hy : y.cls ≠ "java/lang/invoke/MethodHandle" ∧ y.cls ≠ "java/lang/invoke/VarHandle")
    {W9 : Nat} {Pre : Pt → Array Value → Prop} {Post : Pt → Array Value → Option Value → Pt → Prop} {PostX : Pt → Array Value → Addr → Pt → Prop} (hK : vx_Back l R p e below s args y 3 W9 Pre Post PostX)
    {b : Addr} {cellB : Cell} (hcell : T.heap[b]? = some cellB) (hobj : cellB.vm.isStatics = false) (hcls : s.vm.findClass C = some cellB.cls)
    {g : JFrame} (hg : g.method = m) (hsize : g.locals.size = c.maxLocals) {argsL rest : List Value} (hlen : ∀ sig, parseMethodDescriptor y.desc = some sig → argsL.length = sig.parameters.length)
    (hstack : g.stack = argsL.reverse ++ .ref b :: rest) (hW : 2 * g.monitorRoom + (rest.map fun v => v.category).sum ≤ W9) (hdg : decode c.code g.pc = .ok (.invokevirtual index, 3))
    (hpre : ∀ vm₁, s.WarmedH vm₁ → Pre ⟨T.setVm vm₁, locs, cells, slots⟩ (Value.ref b :: argsL).toArray) :
    (∃ (v : Option Value) (vm₁ : Vm) (B : Pt), s.WarmedH vm₁ ∧ Stand p l e R s m args below meth c B.U B.locs B.cells B.slots ∧ Post ⟨T.setVm vm₁, locs, cells, slots⟩ (Value.ref b :: argsL).toArray v B ∧
      ∀ target, Steps p.tables e below (B.U.setTop { g with pc := g.pc + 3, stack := v.toList ++ rest }) target → Steps p.tables e below (T.setTop g) target) ∨
    (∃ (q : Addr) (vm₁ : Vm) (B : Pt), s.WarmedH vm₁ ∧ Stand p l e R s m args below meth c B.U B.locs B.cells B.slots ∧ PostX ⟨T.setVm vm₁, locs, cells, slots⟩ (Value.ref b :: argsL).toArray q B ∧
      Steps p.tables e below (T.setTop g) ((B.U.setTop { g with stack := rest }).pushFrame (.throwing q))) := by
  obtain ⟨mk, methM, hnamed, hmethM, hstM, habM⟩ := Cond.instanceMethod_spec hinst
  obtain ⟨m8, methM', cM, hn8, hmethM', -, -, -, -, -, -, hsigM⟩ := Cond.codeWith_spec hcode
  cases Option.some.inj (hn8.symm.trans hnamed)
  cases hmethM.symm.trans hmethM'
  obtain ⟨c2, r2, m2, q1, q2, q3, q4, kP, hkP, hkPi⟩ := Cond.selects_spec hsel
  cases hcls.symm.trans q1
  cases (State.methodFound?_of_named hnamed hy).symm.trans q2
  cases hnamed.symm.trans q3
  have hselP : selectMethod e.platform s.vm cellB.cls mk = .method mk := by rw [Launch.admits_selectMethod X.admits]; exact q4
  obtain ⟨vm₁, X₁, hstep₁⟩ := X.invokevirtual hexec hown hlink hnamed hmethM hstM hkP hkPi hy (a := b) (cell := cellB) hcell
    (fun z h => by rw [h] at hobj; cases hobj) hselP hmethM habM hkP hkPi (g := g) hg (argsL := argsL) (rest := rest) (hlen _ hsigM) hstack hdg
  rcases hK m meth c ⟨T.setVm vm₁, locs, cells, slots⟩ { g with stack := rest } (.invokevirtual index) mk (Value.ref b :: argsL).toArray X₁ hg hsize hdg hW (X₁.named hnamed) (hpre vm₁ X₁.warmed) with ⟨v, B, X', hpost, hsteps⟩ | ⟨q, B, X', hpost, hsteps⟩
  · exact Or.inl ⟨v, vm₁, B, X₁.warmed, X', hpost, fun target h => hstep₁ _ fun acts => by rw [doInvoke_state]; exact hsteps.trans h⟩
  · exact Or.inr ⟨q, vm₁, B, X₁.warmed, X', hpost, hstep₁ _ fun acts => by rw [doInvoke_state]; exact hsteps⟩
theorem vx_callSX (X : Stand p l e R s m args below meth c T locs cells slots) (hexec : p.tables.exec = Jvm.exec) {own : String} {index : Nat} {y : MethodName} {bytes : ByteArray} {maxL : Nat} {ret : Option FieldType} {hh : List (Nat × Nat × Nat × Nat)}
    (hown : s.vm.findClass own = some m.cls) (hlink : (Cond.methodLink own index y).before args s = true) (hstat : (Cond.static y).before args s = true) (hinit : (Cond.initialized y.cls).before args s = true)
    (hcode : (Cond.codeWith y bytes maxL ret hh).before args s = true) (hy : y.cls ≠ "java/lang/invoke/MethodHandle" ∧ y.cls ≠ "java/lang/invoke/VarHandle")
    {W9 : Nat} {Pre : Pt → Array Value → Prop} {Post : Pt → Array Value → Option Value → Pt → Prop} {PostX : Pt → Array Value → Addr → Pt → Prop} (hK : vx_Back l R p e below s args y 3 W9 Pre Post PostX)
    {g : JFrame} (hg : g.method = m) (hsize : g.locals.size = c.maxLocals) {argsL rest : List Value} (hlen : ∀ sig, parseMethodDescriptor y.desc = some sig → argsL.length = sig.parameters.length)
    (hstack : g.stack = argsL.reverse ++ rest) (hW : 2 * g.monitorRoom + (rest.map fun v => v.category).sum ≤ W9) (hdg : decode c.code g.pc = .ok (.invokestatic index, 3))
    (hpre : ∀ vm₁, s.WarmedH vm₁ → Pre ⟨T.setVm vm₁, locs, cells, slots⟩ argsL.toArray) :
    (∃ (v : Option Value) (vm₁ : Vm) (B : Pt), s.WarmedH vm₁ ∧ Stand p l e R s m args below meth c B.U B.locs B.cells B.slots ∧ Post ⟨T.setVm vm₁, locs, cells, slots⟩ argsL.toArray v B ∧
      ∀ target, Steps p.tables e below (B.U.setTop { g with pc := g.pc + 3, stack := v.toList ++ rest }) target → Steps p.tables e below (T.setTop g) target) ∨
    (∃ (q : Addr) (vm₁ : Vm) (B : Pt), s.WarmedH vm₁ ∧ Stand p l e R s m args below meth c B.U B.locs B.cells B.slots ∧ PostX ⟨T.setVm vm₁, locs, cells, slots⟩ argsL.toArray q B ∧
      Steps p.tables e below (T.setTop g) ((B.U.setTop { g with stack := rest }).pushFrame (.throwing q))) := by
  obtain ⟨mk, methM, cM, hnamed, hmethM, -, -, -, -, -, -, hsigM⟩ := Cond.codeWith_spec hcode
  have hstatic : methM.isStatic = true := Cond.static_spec hnamed hmethM hstat
  obtain ⟨kP, hkP, -⟩ := className_of_methodNamed hnamed
  have hinitP : kP.init = .initialized := Cond.initialized_spec (findClass_of_methodNamed hnamed) hkP hinit
  obtain ⟨vm₁, X₁, hstep₁⟩ := X.invokestatic hexec hown hlink hnamed hmethM hstatic hkP hinitP hy (g := g) hg (argsL := argsL) (rest := rest) (hlen _ hsigM) hstack hdg
  rcases hK m meth c ⟨T.setVm vm₁, locs, cells, slots⟩ { g with stack := rest } (.invokestatic index) mk argsL.toArray X₁ hg hsize hdg hW (X₁.named hnamed) (hpre vm₁ X₁.warmed) with ⟨v, B, X', hpost, hsteps⟩ | ⟨q, B, X', hpost, hsteps⟩
  · exact Or.inl ⟨v, vm₁, B, X₁.warmed, X', hpost, fun target h => hstep₁ _ fun acts => by rw [doInvoke_state]; exact hsteps.trans h⟩
  · exact Or.inr ⟨q, vm₁, B, X₁.warmed, X', hpost, hstep₁ _ fun acts => by rw [doInvoke_state]; exact hsteps⟩
theorem vx_callVW (X : Stand p l e R s m args below meth c T locs cells slots) (hexec : p.tables.exec = Jvm.exec) {own C : String} {index : Nat} {y : MethodName} {bytes : ByteArray} {maxL : Nat} {ret : Option FieldType} {hh : List (Nat × Nat × Nat × Nat)}
    (hown : s.vm.findClass own = some m.cls) (hlink : (Cond.methodLink own index y).before args s = true) (hinst : (Cond.instanceMethod y).before args s = true) (hsel : (Cond.selects C y y).before args s = true)
    (hcode : (Cond.codeWith y bytes maxL ret hh).before args s = true) (hy : y.cls ≠ "java/lang/invoke/MethodHandle" ∧ y.cls ≠ "java/lang/invoke/VarHandle")
    {W9 : Nat} {Pre : Pt → Array Value → Prop} {Post : Pt → Array Value → Option Value → Pt → Prop} (hK : Back l R p e below s args y 3 W9 Pre Post)
    {b : Addr} {cellB : Cell} (hcell : T.heap[b]? = some cellB) (hobj : cellB.vm.isStatics = false) (hcls : s.vm.findClass C = some cellB.cls)
    {g : JFrame} (hg : g.method = m) (hsize : g.locals.size = c.maxLocals) {argsL rest : List Value} (hlen : ∀ sig, parseMethodDescriptor y.desc = some sig → argsL.length = sig.parameters.length)
    (hstack : g.stack = argsL.reverse ++ .ref b :: rest) (hW : 2 * g.monitorRoom + (rest.map fun v => v.category).sum ≤ W9) (hdg : decode c.code g.pc = .ok (.invokevirtual index, 3))
    (hpre : ∀ vm₁, s.WarmedH vm₁ → Pre ⟨T.setVm vm₁, locs, cells, slots⟩ (Value.ref b :: argsL).toArray) :
    ∃ (v : Option Value) (vm₁ : Vm) (B : Pt), s.WarmedH vm₁ ∧ Stand p l e R s m args below meth c B.U B.locs B.cells B.slots ∧ Post ⟨T.setVm vm₁, locs, cells, slots⟩ (Value.ref b :: argsL).toArray v B ∧
      ∀ target, Steps p.tables e below (B.U.setTop { g with pc := g.pc + 3, stack := v.toList ++ rest }) target → Steps p.tables e below (T.setTop g) target := by
  obtain ⟨mk, methM, hnamed, hmethM, hstM, habM⟩ := Cond.instanceMethod_spec hinst
  obtain ⟨m8, methM', cM, hn8, hmethM', -, -, -, -, -, -, hsigM⟩ := Cond.codeWith_spec hcode
  cases Option.some.inj (hn8.symm.trans hnamed)
  cases hmethM.symm.trans hmethM'
  obtain ⟨c2, r2, m2, q1, q2, q3, q4, kP, hkP, hkPi⟩ := Cond.selects_spec hsel
  cases hcls.symm.trans q1
  cases (State.methodFound?_of_named hnamed hy).symm.trans q2
  cases hnamed.symm.trans q3
  have hselP : selectMethod e.platform s.vm cellB.cls mk = .method mk := by rw [Launch.admits_selectMethod X.admits]; exact q4
  obtain ⟨vm₁, X₁, hstep₁⟩ := X.invokevirtual hexec hown hlink hnamed hmethM hstM hkP hkPi hy (a := b) (cell := cellB) hcell
    (fun z h => by rw [h] at hobj; cases hobj) hselP hmethM habM hkP hkPi (g := g) hg (argsL := argsL) (rest := rest) (hlen _ hsigM) hstack hdg
  obtain ⟨v, B, X', hpost, hsteps⟩ := hK m meth c ⟨T.setVm vm₁, locs, cells, slots⟩ { g with stack := rest } (.invokevirtual index) mk (Value.ref b :: argsL).toArray X₁ hg hsize hdg hW (X₁.named hnamed) (hpre vm₁ X₁.warmed)
  exact ⟨v, vm₁, B, X₁.warmed, X', hpost, fun target h => hstep₁ _ fun acts => by rw [doInvoke_state]; exact hsteps.trans h⟩
abbrev vx_CVW (R : Room) (s : State) (args : Array Value) (own C : String) (index : Nat) (y : MethodName) (bytes : ByteArray) (maxL : Nat) (ret : Option FieldType) (hh : List (Nat × Nat × Nat × Nat)) (ws : List Cond) (rm : Room) (mc ms n : Nat) : Prop :=
  (rm.cells = mc ∧ rm.slots = ms ∧ rm.frames + 1 ≤ R.frames ∧ 8 + (maxL + 11) + rm.locals ≤ R.locals ∧ (∀ w ∈ ws, ∀ (a' : Array Value) (U : State), s.WarmedH U.vm → w.before a' U = true) ∧ Cond.codeWith y bytes maxL ret hh ∈ ws) ∧
  (Cond.codeWith y bytes maxL ret hh).before args s = true ∧ (Cond.initialized y.cls).before args s = true ∧ (y.cls ≠ "java/lang/invoke/MethodHandle" ∧ y.cls ≠ "java/lang/invoke/VarHandle") ∧
  (∀ sig, parseMethodDescriptor y.desc = some sig → n = sig.parameters.length) ∧ (Cond.methodLink own index y).before args s = true ∧ (Cond.instanceMethod y).before args s = true ∧ (Cond.selects C y y).before args s = true
theorem vx_cwVW {own C : String} {index maxL mc ms : Nat} {y : MethodName} {bytes : ByteArray} {ret : Option FieldType} {hh : List (Nat × Nat × Nat × Nat)} {Ts ws ws' : List Cond} {rm : Room} (n : Nat) (ht : ∀ w ∈ Ts, w.before args s = true) (hT : GoodIn Ts (wsV own index C y ws)) (hw : ws = Cond.codeWith y bytes maxL ret hh :: ws') (hrc : rm.cells = mc) (hrs : rm.slots = ms)
    (hd : y.cls = C ∧ y.cls ≠ "java/lang/invoke/MethodHandle" ∧ y.cls ≠ "java/lang/invoke/VarHandle" ∧ (parseMethodDescriptor y.desc).map (fun d => d.parameters.length) = some n) (hR : rm.frames + 1 ≤ R.frames ∧ 8 + (maxL + 11) + rm.locals ≤ R.locals) :
    vx_CVW R s args own C index y bytes maxL ret hh ws rm mc ms n := by
  obtain ⟨hC, hd⟩ := hd
  subst hC
  have ok : ∀ w ∈ wsV own index y.cls y ws, w.before args s = true := fun w h => ht w (hT w h).1
  have hG : GoodIn Ts ws := fun w h => hT w (by unfold wsV; exact List.mem_append_right _ h)
  have hc : Cond.codeWith y bytes maxL ret hh ∈ ws := by rw [hw]; exact List.mem_cons_self
  refine ⟨⟨hrc, hrs, hR.1, hR.2, pay_in ht hG, hc⟩, ht _ (hG _ hc).1, ok _ (by simp [wsV]), ⟨hd.1, hd.2.1⟩, fun sig h => ?_, ok _ (by simp [wsV]), ok _ (by simp [wsV]), ok _ (by simp [wsV])⟩
  have h2 := hd.2.2
  rw [h] at h2
  exact (Option.some.inj h2).symm
theorem vx_runVW {y : MethodName} {bytes cc : ByteArray} {maxL nL mc ms n index : Nat} {ret : Option FieldType} {hh : List (Nat × Nat × Nat × Nat)} {ws : List Cond} {rm : Room} {Pc : Array Value → State → Prop} {Qc : Array Value → State → Outcome → State → Prop} {free : Addr → Prop} {Ts : List Cond} {own C : String} {b : Addr} {As rest : List Value} {g : JFrame}
    (S : CallFix p m c cc nL s args Ts own) (hM : Met l y ws rm Pc Qc mc ms free) (cw : vx_CVW R s args own C index y bytes maxL ret hh ws rm mc ms n) (hp : PreV s H C b Pc As)
    (hg : g.method = m) (hn : As.length = n) (hsize : g.locals.size = nL) (hstack : g.stack = As.reverse ++ .ref b :: rest) (hW : 2 * g.monitorRoom + (rest.map fun v => v.category).sum ≤ 8) (hdg : decode cc g.pc = .ok (.invokevirtual index, 3)) (hf : cells + mc ≤ R.cells ∧ slots + ms ≤ R.slots) :
    va_Run p l e R s m args below meth c H locs cells slots mc ms g rest (Qc (Value.ref b :: As).toArray) free := by
  obtain ⟨⟨hrc, hrs, hfr, hlo, hws, hcw⟩, hcode, hini, hy, hlen, hl, hin, hse⟩ := cw
  have hK : Back l R p e below s args y 3 8 (PreOf R mc ms Pc) (PostOf Qc mc ms free) := va_backW (hh := hh) (bytes := bytes) (maxL := maxL) (ret := ret) hM hp.1 hrc hrs hfr hlo hws hcw (fun a' U hW => word_at hW (Or.inl (by first | rfl | simp [Cond.onTables, Cond.keeps, Cond.steady])) hini)
  obtain ⟨hx, hb, hml, ho, -⟩ := S
  obtain ⟨-, ⟨cellB, hcB, hoB, hclB⟩, hPc⟩ := hp
  intro T hT X
  obtain ⟨v, vm₁, ⟨U', l2, c2, s2⟩, hW₁, X', ⟨g', mk, t, L, e1, e2, hq, h1, hL, h2, h3⟩, st⟩ := vx_callVW X hx (C := C) (hh := hh) (bytes := bytes) (maxL := maxL) (ret := ret) ho hl hin hse hcode hy hK (by rw [hT]; exact hcB) hoB hclB hg (hsize.trans hml.symm) (argsL := As) (rest := rest) (fun sig h => hn.trans (hlen sig h)) hstack hW (by rw [hb]; exact hdg)
    (fun vm₁ hW₁ => ⟨hf.1, hf.2, hPc (T.setVm vm₁) hT hW₁⟩)
  dsimp only [Pt.U, Pt.locs, Pt.cells, Pt.slots] at X' e1 e2 h1 h2 h3 st
  subst h1; subst h2; subst h3
  exact ⟨v, (T.setVm vm₁).calling g' mk (Value.ref b :: As).toArray, t, U', L, hT, X', hL, e1, e2, hq, st⟩
section
variable {y : MethodName} {bytes cc : ByteArray} {maxL nL mc ms n index : Nat} {ret : Option FieldType} {ws : List Cond} {rm : Room} {Pc : Array Value → State → Prop} {Qc : Array Value → State → Outcome → State → Prop} {XC : String → State → State → Prop} {free : Addr → Prop} {Ts : List Cond} {own C : String} {b : Addr} {As rest : List Value} {g : JFrame}
theorem vx_runVX {hh : List (Nat × Nat × Nat × Nat)} (S : CallFix p m c cc nL s args Ts own) (hM : vx_Met l y ws rm Pc Qc XC mc ms free) (cw : vx_CVW R s args own C index y bytes maxL ret hh ws rm mc ms n) (hp : PreV s H C b Pc As)
    (hg : g.method = m) (hn : As.length = n) (hsize : g.locals.size = nL) (hstack : g.stack = As.reverse ++ .ref b :: rest) (hW : 2 * g.monitorRoom + (rest.map fun v => v.category).sum ≤ 8) (hdg : decode cc g.pc = .ok (.invokevirtual index, 3)) (hf : cells + mc ≤ R.cells ∧ slots + ms ≤ R.slots) :
    vx_Run p l e R s m args below meth c H locs cells slots mc ms g rest (Qc (Value.ref b :: As).toArray) XC free := by
  obtain ⟨⟨hrc, hrs, hfr, hlo, hws, hcw⟩, hcode, hini, hy, hlen, hl, hin, hse⟩ := cw
  have hK : vx_Back l R p e below s args y 3 8 (PreOf R mc ms Pc) (PostOf Qc mc ms free) (vx_Post XC mc ms free) := vx_backW (hh := hh) (bytes := bytes) (maxL := maxL) (ret := ret) hM hp.1 hrc hrs hfr hlo hws hcw (fun a' U hW => word_at hW (Or.inl (by first | rfl | simp [Cond.onTables, Cond.keeps, Cond.steady])) hini)
  obtain ⟨hx, hb, hml, ho, -⟩ := S
  obtain ⟨-, ⟨cellB, hcB, hoB, hclB⟩, hPc⟩ := hp
  intro T hT X
  rcases vx_callVX X hx (C := C) (hh := hh) (bytes := bytes) (maxL := maxL) (ret := ret) ho hl hin hse hcode hy hK (by rw [hT]; exact hcB) hoB hclB hg (hsize.trans hml.symm) (argsL := As) (rest := rest) (fun sig h => hn.trans (hlen sig h)) hstack hW (by rw [hb]; exact hdg)
    (fun vm₁ hW₁ => ⟨hf.1, hf.2, hPc (T.setVm vm₁) hT hW₁⟩) with ⟨v, vm₁, ⟨U', l2, c2, s2⟩, hW₁, X', ⟨g', mk, t, L, e1, e2, hq, h1, hL, h2, h3⟩, st⟩ | ⟨q, vm₁, ⟨U', l2, c2, s2⟩, hW₁, X', ⟨g', mk, t, L, E, ce, e1, e2, hq, hce, hcv, hcl, h1, hL, h2, h3⟩, st⟩
  · dsimp only [Pt.U, Pt.locs, Pt.cells, Pt.slots] at X' e1 e2 h1 h2 h3 st
    subst h1; subst h2; subst h3
    exact Or.inl ⟨v, (T.setVm vm₁).calling g' mk (Value.ref b :: As).toArray, t, U', L, hT, X', hL, e1, e2, hq, st⟩
  · dsimp only [Pt.U, Pt.locs, Pt.cells, Pt.slots] at X' e1 e2 h1 h2 h3 st hcl
    subst h1; subst h2; subst h3
    exact Or.inr ⟨q, (T.setVm vm₁).calling g' mk (Value.ref b :: As).toArray, t, U', L, E, ce, hT, X', hL, e1, e2, hq, hce, hcv, vx_cls hW₁ hcl, st⟩
theorem vx_runSX {hh : List (Nat × Nat × Nat × Nat)} (S : CallFix p m c cc nL s args Ts own) (hM : vx_Met l y ws rm Pc Qc XC mc ms free) (cw : vx_CSW R s args own index y bytes maxL ret hh ws rm mc ms n) (hp : PreS s H Pc As)
    (hg : g.method = m) (hn : As.length = n) (hsize : g.locals.size = nL) (hstack : g.stack = As.reverse ++ rest) (hW : 2 * g.monitorRoom + (rest.map fun v => v.category).sum ≤ 8) (hdg : decode cc g.pc = .ok (.invokestatic index, 3)) (hf : cells + mc ≤ R.cells ∧ slots + ms ≤ R.slots) :
    vx_Run p l e R s m args below meth c H locs cells slots mc ms g rest (Qc As.toArray) XC free := by
  obtain ⟨⟨hrc, hrs, hfr, hlo, hws, hcw⟩, hcode, hini, hy, hlen, hl, hstt⟩ := cw
  have hK : vx_Back l R p e below s args y 3 8 (PreOf R mc ms Pc) (PostOf Qc mc ms free) (vx_Post XC mc ms free) := vx_backW (hh := hh) (bytes := bytes) (maxL := maxL) (ret := ret) hM hp.1 hrc hrs hfr hlo hws hcw (fun a' U hW => word_at hW (Or.inl (by first | rfl | simp [Cond.onTables, Cond.keeps, Cond.steady])) hini)
  obtain ⟨hx, hb, hml, ho, -⟩ := S
  intro T hT X
  rcases vx_callSX X hx (hh := hh) (bytes := bytes) (maxL := maxL) (ret := ret) ho hl hstt hini hcode hy hK hg (hsize.trans hml.symm) (argsL := As) (rest := rest) (fun sig h => hn.trans (hlen sig h)) hstack hW (by rw [hb]; exact hdg)
    (fun vm₁ hW₁ => ⟨hf.1, hf.2, hp.2 (T.setVm vm₁) hT hW₁⟩) with ⟨v, vm₁, ⟨U', l2, c2, s2⟩, hW₁, X', ⟨g', mk, t, L, e1, e2, hq, h1, hL, h2, h3⟩, st⟩ | ⟨q, vm₁, ⟨U', l2, c2, s2⟩, hW₁, X', ⟨g', mk, t, L, E, ce, e1, e2, hq, hce, hcv, hcl, h1, hL, h2, h3⟩, st⟩
  · dsimp only [Pt.U, Pt.locs, Pt.cells, Pt.slots] at X' e1 e2 h1 h2 h3 st
    subst h1; subst h2; subst h3
    exact Or.inl ⟨v, (T.setVm vm₁).calling g' mk As.toArray, t, U', L, hT, X', hL, e1, e2, hq, st⟩
  · dsimp only [Pt.U, Pt.locs, Pt.cells, Pt.slots] at X' e1 e2 h1 h2 h3 st hcl
    subst h1; subst h2; subst h3
    exact Or.inr ⟨q, (T.setVm vm₁).calling g' mk As.toArray, t, U', L, E, ce, hT, X', hL, e1, e2, hq, hce, hcv, vx_cls hW₁ hcl, st⟩
end
end VXH
theorem vx_ofWH {l : Launch} {y : MethodName} {ws ws' : List Cond} {rm : Room} {Pc : Array Value → State → Prop} {Qc : Array Value → State → Outcome → State → Prop} {XC : String → State → State → Prop} {mc ms : Nat} {free : Addr → Prop} {cc : ByteArray} {maxL : Nat} {ret : Option FieldType} {hh : List (Nat × Nat × Nat × Nat)}
    (hy : plainName y.cls = true) (hw : ws = Cond.codeWith y cc maxL ret hh :: ws')
    (body : ∀ p e s m args below meth c s₁, BodyLoose p l y (headSpec ws rm) cc maxL ret e s m args below meth c s₁ → c.maxLocals = maxL → Pc args s →
      W p l e (headSpec ws rm).room s m args below meth c s.heap [] 0 0 (vx_MQ below Qc XC args s mc ms free) (entryFrame m args maxL)) : vx_Met l y ws rm Pc Qc XC mc ms free := by
  refine MetFree.of_bodyS (code := cc) (maxLocals := maxL) (ret := ret) hy ?_ ?_
  · intro args s m h hn
    obtain ⟨m9, meth, c, hn9, h1, h2, h3, h4, -, h5, h6, -⟩ := Cond.codeWith_spec (atoms_spec (ws := ws) h _ (by rw [hw]; exact List.mem_cons_self))
    cases hn.symm.trans hn9
    exact ⟨meth, c, h1, h2, h3, h4, h5, h6⟩
  · intro p e s m args below meth c s₁ B hml hP _
    have hh0 : s₁.heap = s.heap := by rw [B.state]; rfl
    obtain ⟨t, a1, o, b1, b2, b3⟩ := body p e s m args below meth c s₁ B hml hP s₁ hh0 (Stand.of_body B)
    exact ⟨t, o, a1, b1, b2, b3⟩
/-! ===== END ===== -/
end
section
/-! numbers: an int is iZ of a whole number, a long lZ of one -/
def iZ (z : Int) : Int32 := Int32.ofInt z
def lZ (z : Int) : Int64 := Int64.ofInt z
theorem iZ_of (x : Int32) : x = iZ x.toInt := (Int32.ofInt_toInt x).symm
theorem lZ_of (x : Int64) : x = lZ x.toInt := (Int64.ofInt_toInt x).symm
theorem iZ_ex (x : Int32) : ∃ z : Int, -2147483648 ≤ z ∧ z < 2147483648 ∧ x = iZ z := by
  have h1 := Int32.toInt_lt x
  have h2 := Int32.le_toInt x
  exact ⟨x.toInt, by omega, by omega, iZ_of x⟩
theorem iZ_add (a b : Int) : iZ a + iZ b = iZ (a + b) := (Int32.ofInt_add a b).symm
theorem iZ_sub (a b : Int) : iZ a - iZ b = iZ (a - b) := (Int32.ofInt_sub a b).symm
theorem iZ_mul (a b : Int) : iZ a * iZ b = iZ (a * b) := (Int32.ofInt_mul a b).symm
theorem iZ_neg (a : Int) : -iZ a = iZ (-a) := (Int32.ofInt_neg a).symm
theorem lZ_add (a b : Int) : lZ a + lZ b = lZ (a + b) := (Int64.ofInt_add a b).symm
theorem lZ_sub (a b : Int) : lZ a - lZ b = lZ (a - b) := (Int64.ofInt_sub a b).symm
theorem lZ_mul (a b : Int) : lZ a * lZ b = lZ (a * b) := (Int64.ofInt_mul a b).symm
theorem lZ_neg (a : Int) : -lZ a = lZ (-a) := (Int64.ofInt_neg a).symm
abbrev iR (a : Int) : Prop := -2147483648 ≤ a ∧ a < 2147483648
abbrev lR (a : Int) : Prop := -9223372036854775808 ≤ a ∧ a < 9223372036854775808
theorem iZ_toInt {a : Int} (h : iR a) : (iZ a).toInt = a := Int32.toInt_ofInt_of_le (by have := h.1; omega) (by have := h.2; omega)
theorem lZ_toInt {a : Int} (h : lR a) : (lZ a).toInt = a := Int64.toInt_ofInt_of_le (by have := h.1; omega) (by have := h.2; omega)
theorem iZ_lt {a b : Int} (ha : iR a) (hb : iR b) : iZ a < iZ b ↔ a < b := by rw [Int32.lt_iff_toInt_lt, iZ_toInt ha, iZ_toInt hb]
theorem iZ_le {a b : Int} (ha : iR a) (hb : iR b) : iZ a ≤ iZ b ↔ a ≤ b := by rw [Int32.le_iff_toInt_le, iZ_toInt ha, iZ_toInt hb]
theorem iZ_eq {a b : Int} (ha : iR a) (hb : iR b) : iZ a = iZ b ↔ a = b := by rw [← Int32.toInt_inj, iZ_toInt ha, iZ_toInt hb]
theorem lZ_lt {a b : Int} (ha : lR a) (hb : lR b) : lZ a < lZ b ↔ a < b := by rw [Int64.lt_iff_toInt_lt, lZ_toInt ha, lZ_toInt hb]
theorem lZ_le {a b : Int} (ha : lR a) (hb : lR b) : lZ a ≤ lZ b ↔ a ≤ b := by rw [Int64.le_iff_toInt_le, lZ_toInt ha, lZ_toInt hb]
theorem lZ_eq {a b : Int} (ha : lR a) (hb : lR b) : lZ a = lZ b ↔ a = b := by rw [← Int64.toInt_inj, lZ_toInt ha, lZ_toInt hb]
theorem iZ_0 : (0 : Int32) = iZ 0 := rfl
theorem lZ_0 : (0 : Int64) = lZ 0 := rfl
theorem iZ_l {a : Int} (h : iR a) : (iZ a).toInt64 = lZ a := by
  apply Int64.toInt_inj.mp
  rw [Int32.toInt_toInt64, iZ_toInt h, lZ_toInt ⟨by have := h.1; omega, by have := h.2; omega⟩]
theorem lZ_i (a : Int) : (lZ a).toInt32 = iZ a := Int64.toInt32_ofInt
theorem iZ_div {a b : Int} (ha : 0 ≤ a) (ha' : a < 2147483648) (hb : 0 < b) (hb' : b < 2147483648) : iZ a / iZ b = iZ (a / b) := by
  have h1 : a / b ≤ a := Int.ediv_le_self b ha
  have h2 : 0 ≤ a / b := Int.ediv_nonneg ha (Int.le_of_lt hb)
  apply Int32.toInt_inj.mp
  rw [Int32.toInt_div_of_ne_right, iZ_toInt ⟨by omega, by omega⟩, iZ_toInt ⟨by omega, by omega⟩, iZ_toInt ⟨by omega, by omega⟩, Int.tdiv_eq_ediv_of_nonneg ha]
  intro h
  rw [show (-1 : Int32) = iZ (-1) from rfl, iZ_eq ⟨by omega, by omega⟩ ⟨by omega, by omega⟩] at h
  omega
theorem lZ_div {a b : Int} (ha : 0 ≤ a) (ha' : a < 9223372036854775808) (hb : 0 < b) (hb' : b < 9223372036854775808) : lZ a / lZ b = lZ (a / b) := by
  have h1 : a / b ≤ a := Int.ediv_le_self b ha
  have h2 : 0 ≤ a / b := Int.ediv_nonneg ha (Int.le_of_lt hb)
  apply Int64.toInt_inj.mp
  rw [Int64.toInt_div_of_ne_right, lZ_toInt ⟨by omega, by omega⟩, lZ_toInt ⟨by omega, by omega⟩, lZ_toInt ⟨by omega, by omega⟩, Int.tdiv_eq_ediv_of_nonneg ha]
  intro h
  rw [show (-1 : Int64) = lZ (-1) from rfl, lZ_eq ⟨by omega, by omega⟩ ⟨by omega, by omega⟩] at h
  omega
/-- a whole division of any sign by a divisor above 0 that goes up -/
theorem lZ_divE {a b q : Int} (ha : lR a) (hb : 0 < b) (hb' : b < 9223372036854775808) (h : a = q * b) : lZ a / lZ b = lZ q := by
  have hq : lR q := by
    obtain ⟨h1, h2⟩ := ha
    constructor
    · rcases Int.lt_or_le q 0 with hn | hn
      · have : q * b ≤ q * 1 := Int.mul_le_mul_of_nonpos_left (Int.le_of_lt hn) (by omega)
        omega
      · omega
    · rcases Int.lt_or_le q 0 with hn | hn
      · omega
      · have : q * 1 ≤ q * b := Int.mul_le_mul_of_nonneg_left (by omega) hn
        omega
  apply Int64.toInt_inj.mp
  rw [Int64.toInt_div_of_ne_right, lZ_toInt ha, lZ_toInt ⟨by omega, by omega⟩, lZ_toInt hq, h, Int.mul_tdiv_cancel _ (by omega)]
  intro h
  rw [show (-1 : Int64) = lZ (-1) from rfl, lZ_eq ⟨by omega, by omega⟩ ⟨by omega, by omega⟩] at h
  omega
theorem iZ_rem {a b : Int} (ha : 0 ≤ a) (ha' : a < 2147483648) (hb : 0 < b) (hb' : b < 2147483648) : iZ a - iZ a / iZ b * iZ b = iZ (a % b) := by
  rw [iZ_div ha ha' hb hb', iZ_mul, iZ_sub]
  congr 1
  rw [Int.emod_def, Int.mul_comm]
theorem lZ_rem {a b : Int} (ha : 0 ≤ a) (ha' : a < 9223372036854775808) (hb : 0 < b) (hb' : b < 9223372036854775808) : lZ a - lZ a / lZ b * lZ b = lZ (a % b) := by
  rw [lZ_div ha ha' hb hb', lZ_mul, lZ_sub]
  congr 1
  rw [Int.emod_def, Int.mul_comm]
theorem iZ_cl {a : Int} (h : iR a) : (iZ a).toNatClampNeg = a.toNat := by
  show (iZ a).toInt.toNat = a.toNat
  rw [iZ_toInt h]
theorem iZ_cN {n : Nat} (h : n < 2147483648) : (iZ (n : Int)).toNatClampNeg = n := by
  rw [iZ_cl ⟨by omega, by omega⟩]; rfl
theorem iZ_in {j n : Nat} (h : j < n) (hn : n < 2147483648) : vp_in (iZ (j : Int)) n := by
  rw [vp_in_iff, iZ_toInt ⟨by omega, by omega⟩]
  exact ⟨by omega, by omega⟩
theorem iZ_nI (n : Nat) : iZ (n : Int) = nI n := Int32.ofInt_eq_ofNat
theorem lZ_lN (n : Nat) : lZ (n : Int) = lN n := Int64.ofInt_eq_ofNat
end
section
section ZW
variable {p : Program} {l : Launch} {e : Env} {R : Room} {s : State} {m : MethodId} {args : Array Value} {below : List Frame} {meth : Method} {c : Code} {H : Heap} {locs : List Loc} {cells slots : Nat} {Q : State → Prop}
variable {cc : ByteArray} {pc : Nat} {ls : Array Slot} {rest : List Value} {D : va_G} {cl : List vw_C} {A : Nat → Prop} {a : Nat} {tys : List (ClassId × FieldType)} {ws : va_W} {H0 : Heap}

theorem tp_i {x y : Int32} (h : x = y) (k : W p l e R s m args below meth c H locs cells slots Q (F0 m pc ls (.int y :: rest))) : W p l e R s m args below meth c H locs cells slots Q (F0 m pc ls (.int x :: rest)) := h ▸ k
theorem tp_l {x y : Int64} (h : x = y) (k : W p l e R s m args below meth c H locs cells slots Q (F0 m pc ls (.long y :: rest))) : W p l e R s m args below meth c H locs cells slots Q (F0 m pc ls (.long x :: rest)) := h ▸ k
theorem zc_iconst (hx : p.tables.exec = Jvm.exec) (hb : c.code = cc) {n : Int} {z : Int} (hd : decode cc pc = .ok (.iconst n, 1)) (hz : Int32.ofInt n = iZ z) (k : W p l e R s m args below meth c H locs cells slots Q (F0 m (pc + 1) ls (.int (iZ z) :: rest))) : W p l e R s m args below meth c H locs cells slots Q (F0 m pc ls rest) := lv_iconst hx hb hd hz k
theorem zc_bipush (hx : p.tables.exec = Jvm.exec) (hb : c.code = cc) {n : Int} {z : Int} (hd : decode cc pc = .ok (.bipush n, 2)) (hz : (Int8.ofInt n).toInt32 = iZ z) (k : W p l e R s m args below meth c H locs cells slots Q (F0 m (pc + 2) ls (.int (iZ z) :: rest))) : W p l e R s m args below meth c H locs cells slots Q (F0 m pc ls rest) := lv_bipush hx hb hd hz k
theorem zc_sipush (hx : p.tables.exec = Jvm.exec) (hb : c.code = cc) {n : Int} {z : Int} (hd : decode cc pc = .ok (.sipush n, 3)) (hz : (Int16.ofInt n).toInt32 = iZ z) (k : W p l e R s m args below meth c H locs cells slots Q (F0 m (pc + 3) ls (.int (iZ z) :: rest))) : W p l e R s m args below meth c H locs cells slots Q (F0 m pc ls rest) := lv_sipush hx hb hd hz k
theorem zc_lconst (hx : p.tables.exec = Jvm.exec) (hb : c.code = cc) {n : Fin 2} {z : Int} (hd : decode cc pc = .ok (.lconst n, 1)) (hz : Int64.ofNat (n : Nat) = lZ z) (k : W p l e R s m args below meth c H locs cells slots Q (F0 m (pc + 1) ls (.long (lZ z) :: rest))) : W p l e R s m args below meth c H locs cells slots Q (F0 m pc ls rest) := lv_lconst hx hb hd hz k
theorem zi_add (hx : p.tables.exec = Jvm.exec) (hb : c.code = cc) {x y z : Int} (hd : decode cc pc = .ok (.iadd, 1)) (hz : x + y = z) (k : W p l e R s m args below meth c H locs cells slots Q (F0 m (pc + 1) ls (.int (iZ z) :: rest))) : W p l e R s m args below meth c H locs cells slots Q (F0 m pc ls (.int (iZ y) :: .int (iZ x) :: rest)) := lv_iadd hx hb hd (by rw [iZ_add, hz]; exact k)
theorem zl_add (hx : p.tables.exec = Jvm.exec) (hb : c.code = cc) {x y z : Int} (hd : decode cc pc = .ok (.ladd, 1)) (hz : x + y = z) (k : W p l e R s m args below meth c H locs cells slots Q (F0 m (pc + 1) ls (.long (lZ z) :: rest))) : W p l e R s m args below meth c H locs cells slots Q (F0 m pc ls (.long (lZ y) :: .long (lZ x) :: rest)) := lv_ladd hx hb hd (by rw [lZ_add, hz]; exact k)
theorem zi_sub (hx : p.tables.exec = Jvm.exec) (hb : c.code = cc) {x y z : Int} (hd : decode cc pc = .ok (.isub, 1)) (hz : x - y = z) (k : W p l e R s m args below meth c H locs cells slots Q (F0 m (pc + 1) ls (.int (iZ z) :: rest))) : W p l e R s m args below meth c H locs cells slots Q (F0 m pc ls (.int (iZ y) :: .int (iZ x) :: rest)) := lv_isub hx hb hd (by rw [iZ_sub, hz]; exact k)
theorem zl_sub (hx : p.tables.exec = Jvm.exec) (hb : c.code = cc) {x y z : Int} (hd : decode cc pc = .ok (.lsub, 1)) (hz : x - y = z) (k : W p l e R s m args below meth c H locs cells slots Q (F0 m (pc + 1) ls (.long (lZ z) :: rest))) : W p l e R s m args below meth c H locs cells slots Q (F0 m pc ls (.long (lZ y) :: .long (lZ x) :: rest)) := lv_lsub hx hb hd (by rw [lZ_sub, hz]; exact k)
theorem zi_mul (hx : p.tables.exec = Jvm.exec) (hb : c.code = cc) {x y z : Int} (hd : decode cc pc = .ok (.imul, 1)) (hz : x * y = z) (k : W p l e R s m args below meth c H locs cells slots Q (F0 m (pc + 1) ls (.int (iZ z) :: rest))) : W p l e R s m args below meth c H locs cells slots Q (F0 m pc ls (.int (iZ y) :: .int (iZ x) :: rest)) := lv_imul hx hb hd (by rw [iZ_mul, hz]; exact k)
theorem zl_mul (hx : p.tables.exec = Jvm.exec) (hb : c.code = cc) {x y z : Int} (hd : decode cc pc = .ok (.lmul, 1)) (hz : x * y = z) (k : W p l e R s m args below meth c H locs cells slots Q (F0 m (pc + 1) ls (.long (lZ z) :: rest))) : W p l e R s m args below meth c H locs cells slots Q (F0 m pc ls (.long (lZ y) :: .long (lZ x) :: rest)) := lv_lmul hx hb hd (by rw [lZ_mul, hz]; exact k)
theorem zi_neg (hx : p.tables.exec = Jvm.exec) (hb : c.code = cc) {x z : Int} (hd : decode cc pc = .ok (.ineg, 1)) (hz : -x = z) (k : W p l e R s m args below meth c H locs cells slots Q (F0 m (pc + 1) ls (.int (iZ z) :: rest))) : W p l e R s m args below meth c H locs cells slots Q (F0 m pc ls (.int (iZ x) :: rest)) := lv_ineg hx hb hd (by rw [iZ_neg, hz]; exact k)
theorem zi_div (hx : p.tables.exec = Jvm.exec) (hb : c.code = cc) {x y z : Int} (hd : decode cc pc = .ok (.idiv, 1)) (h1 : 0 ≤ x) (h2 : x < 2147483648) (h3 : 0 < y) (h4 : y < 2147483648) (hz : x / y = z) (k : W p l e R s m args below meth c H locs cells slots Q (F0 m (pc + 1) ls (.int (iZ z) :: rest))) : W p l e R s m args below meth c H locs cells slots Q (F0 m pc ls (.int (iZ y) :: .int (iZ x) :: rest)) := lv_idiv hx hb hd (by rw [iZ_0, iZ_eq ⟨by omega, by omega⟩ ⟨by omega, by omega⟩]; omega) (by rw [iZ_div h1 h2 h3 h4, hz]; exact k)
theorem zi_rem (hx : p.tables.exec = Jvm.exec) (hb : c.code = cc) {x y z : Int} (hd : decode cc pc = .ok (.irem, 1)) (h1 : 0 ≤ x) (h2 : x < 2147483648) (h3 : 0 < y) (h4 : y < 2147483648) (hz : x % y = z) (k : W p l e R s m args below meth c H locs cells slots Q (F0 m (pc + 1) ls (.int (iZ z) :: rest))) : W p l e R s m args below meth c H locs cells slots Q (F0 m pc ls (.int (iZ y) :: .int (iZ x) :: rest)) := lv_irem hx hb hd (by rw [iZ_0, iZ_eq ⟨by omega, by omega⟩ ⟨by omega, by omega⟩]; omega) (by rw [iZ_rem h1 h2 h3 h4, hz]; exact k)
theorem zl_neg (hx : p.tables.exec = Jvm.exec) (hb : c.code = cc) {x z : Int} (hd : decode cc pc = .ok (.lneg, 1)) (hz : -x = z) (k : W p l e R s m args below meth c H locs cells slots Q (F0 m (pc + 1) ls (.long (lZ z) :: rest))) : W p l e R s m args below meth c H locs cells slots Q (F0 m pc ls (.long (lZ x) :: rest)) := lv_lneg hx hb hd (by rw [lZ_neg, hz]; exact k)
theorem zl_div (hx : p.tables.exec = Jvm.exec) (hb : c.code = cc) {x y z : Int} (hd : decode cc pc = .ok (.ldiv, 1)) (h1 : 0 ≤ x) (h2 : x < 9223372036854775808) (h3 : 0 < y) (h4 : y < 9223372036854775808) (hz : x / y = z) (k : W p l e R s m args below meth c H locs cells slots Q (F0 m (pc + 1) ls (.long (lZ z) :: rest))) : W p l e R s m args below meth c H locs cells slots Q (F0 m pc ls (.long (lZ y) :: .long (lZ x) :: rest)) := lv_ldiv hx hb hd (by rw [lZ_0, lZ_eq ⟨by omega, by omega⟩ ⟨by omega, by omega⟩]; omega) (by rw [lZ_div h1 h2 h3 h4, hz]; exact k)
theorem zl_rem (hx : p.tables.exec = Jvm.exec) (hb : c.code = cc) {x y z : Int} (hd : decode cc pc = .ok (.lrem, 1)) (h1 : 0 ≤ x) (h2 : x < 9223372036854775808) (h3 : 0 < y) (h4 : y < 9223372036854775808) (hz : x % y = z) (k : W p l e R s m args below meth c H locs cells slots Q (F0 m (pc + 1) ls (.long (lZ z) :: rest))) : W p l e R s m args below meth c H locs cells slots Q (F0 m pc ls (.long (lZ y) :: .long (lZ x) :: rest)) := lv_lrem hx hb hd (by rw [lZ_0, lZ_eq ⟨by omega, by omega⟩ ⟨by omega, by omega⟩]; omega) (by rw [lZ_rem h1 h2 h3 h4, hz]; exact k)
theorem zl_divE (hx : p.tables.exec = Jvm.exec) (hb : c.code = cc) {x y q : Int} (hd : decode cc pc = .ok (.ldiv, 1)) (h1 : lR x) (h3 : 0 < y) (h4 : y < 9223372036854775808) (hq : x = q * y) (k : W p l e R s m args below meth c H locs cells slots Q (F0 m (pc + 1) ls (.long (lZ q) :: rest))) : W p l e R s m args below meth c H locs cells slots Q (F0 m pc ls (.long (lZ y) :: .long (lZ x) :: rest)) := lv_ldiv hx hb hd (by rw [lZ_0, lZ_eq ⟨by omega, by omega⟩ ⟨by omega, by omega⟩]; omega) (by rw [lZ_divE h1 h3 h4 hq]; exact k)
theorem z_i2l (hx : p.tables.exec = Jvm.exec) (hb : c.code = cc) {x z : Int} (hd : decode cc pc = .ok (.i2l, 1)) (h : iR x) (hz : x = z) (k : W p l e R s m args below meth c H locs cells slots Q (F0 m (pc + 1) ls (.long (lZ z) :: rest))) : W p l e R s m args below meth c H locs cells slots Q (F0 m pc ls (.int (iZ x) :: rest)) := lv_i2l hx hb hd (by rw [iZ_l h, hz]) k
theorem z_l2i (hx : p.tables.exec = Jvm.exec) (hb : c.code = cc) {x z : Int} (hd : decode cc pc = .ok (.l2i, 1)) (hz : x = z) (k : W p l e R s m args below meth c H locs cells slots Q (F0 m (pc + 1) ls (.int (iZ z) :: rest))) : W p l e R s m args below meth c H locs cells slots Q (F0 m pc ls (.long (lZ x) :: rest)) := lv_l2i hx hb hd (by rw [lZ_i, hz]) k
theorem zb_if_eq (hx : p.tables.exec = Jvm.exec) (hb : c.code = cc) {x : Int} {off : Int} {tgt : Nat} (hd : decode cc pc = .ok (.ifCond .eq off, 3)) (ht : (pc : Int) + off = (tgt : Int)) (h1 : iR x) (kt : x = 0 → W p l e R s m args below meth c H locs cells slots Q (F0 m tgt ls rest)) (kf : ¬ x = 0 → W p l e R s m args below meth c H locs cells slots Q (F0 m (pc + 3) ls rest)) : W p l e R s m args below meth c H locs cells slots Q (F0 m pc ls (.int (iZ x) :: rest)) := lv_if_eq hx hb hd ht (fun h9 => by rw [iZ_0] at h9; rw [iZ_eq h1 (show iR 0 from ⟨by omega, by omega⟩)] at h9; exact kt h9) (fun h9 => by rw [iZ_0] at h9; rw [iZ_eq h1 (show iR 0 from ⟨by omega, by omega⟩)] at h9; exact kf h9)
theorem zb_icmp_eq (hx : p.tables.exec = Jvm.exec) (hb : c.code = cc) {x y : Int} {off : Int} {tgt : Nat} (hd : decode cc pc = .ok (.if_icmp .eq off, 3)) (ht : (pc : Int) + off = (tgt : Int)) (h1 : iR x) (h2 : iR y) (kt : x = y → W p l e R s m args below meth c H locs cells slots Q (F0 m tgt ls rest)) (kf : ¬ x = y → W p l e R s m args below meth c H locs cells slots Q (F0 m (pc + 3) ls rest)) : W p l e R s m args below meth c H locs cells slots Q (F0 m pc ls (.int (iZ y) :: .int (iZ x) :: rest)) := lv_icmp_eq hx hb hd ht (fun h9 => by rw [iZ_eq h1 h2] at h9; exact kt h9) (fun h9 => by rw [iZ_eq h1 h2] at h9; exact kf h9)
theorem zb_if_ne (hx : p.tables.exec = Jvm.exec) (hb : c.code = cc) {x : Int} {off : Int} {tgt : Nat} (hd : decode cc pc = .ok (.ifCond .ne off, 3)) (ht : (pc : Int) + off = (tgt : Int)) (h1 : iR x) (kt : ¬ x = 0 → W p l e R s m args below meth c H locs cells slots Q (F0 m tgt ls rest)) (kf : x = 0 → W p l e R s m args below meth c H locs cells slots Q (F0 m (pc + 3) ls rest)) : W p l e R s m args below meth c H locs cells slots Q (F0 m pc ls (.int (iZ x) :: rest)) := lv_if_ne hx hb hd ht (fun h9 => by rw [iZ_0] at h9; rw [iZ_eq h1 (show iR 0 from ⟨by omega, by omega⟩)] at h9; exact kt h9) (fun h9 => by rw [iZ_0] at h9; rw [iZ_eq h1 (show iR 0 from ⟨by omega, by omega⟩)] at h9; exact kf h9)
theorem zb_icmp_ne (hx : p.tables.exec = Jvm.exec) (hb : c.code = cc) {x y : Int} {off : Int} {tgt : Nat} (hd : decode cc pc = .ok (.if_icmp .ne off, 3)) (ht : (pc : Int) + off = (tgt : Int)) (h1 : iR x) (h2 : iR y) (kt : ¬ x = y → W p l e R s m args below meth c H locs cells slots Q (F0 m tgt ls rest)) (kf : x = y → W p l e R s m args below meth c H locs cells slots Q (F0 m (pc + 3) ls rest)) : W p l e R s m args below meth c H locs cells slots Q (F0 m pc ls (.int (iZ y) :: .int (iZ x) :: rest)) := lv_icmp_ne hx hb hd ht (fun h9 => by rw [iZ_eq h1 h2] at h9; exact kt h9) (fun h9 => by rw [iZ_eq h1 h2] at h9; exact kf h9)
theorem zb_if_lt (hx : p.tables.exec = Jvm.exec) (hb : c.code = cc) {x : Int} {off : Int} {tgt : Nat} (hd : decode cc pc = .ok (.ifCond .lt off, 3)) (ht : (pc : Int) + off = (tgt : Int)) (h1 : iR x) (kt : x < 0 → W p l e R s m args below meth c H locs cells slots Q (F0 m tgt ls rest)) (kf : 0 ≤ x → W p l e R s m args below meth c H locs cells slots Q (F0 m (pc + 3) ls rest)) : W p l e R s m args below meth c H locs cells slots Q (F0 m pc ls (.int (iZ x) :: rest)) := lv_if_lt hx hb hd ht (fun h9 => by rw [iZ_0] at h9; rw [iZ_lt h1 (show iR 0 from ⟨by omega, by omega⟩)] at h9; exact kt h9) (fun h9 => by rw [iZ_0] at h9; rw [iZ_lt h1 (show iR 0 from ⟨by omega, by omega⟩)] at h9; exact kf (by omega))
theorem zb_icmp_lt (hx : p.tables.exec = Jvm.exec) (hb : c.code = cc) {x y : Int} {off : Int} {tgt : Nat} (hd : decode cc pc = .ok (.if_icmp .lt off, 3)) (ht : (pc : Int) + off = (tgt : Int)) (h1 : iR x) (h2 : iR y) (kt : x < y → W p l e R s m args below meth c H locs cells slots Q (F0 m tgt ls rest)) (kf : y ≤ x → W p l e R s m args below meth c H locs cells slots Q (F0 m (pc + 3) ls rest)) : W p l e R s m args below meth c H locs cells slots Q (F0 m pc ls (.int (iZ y) :: .int (iZ x) :: rest)) := lv_icmp_lt hx hb hd ht (fun h9 => by rw [iZ_lt h1 h2] at h9; exact kt h9) (fun h9 => by rw [iZ_lt h1 h2] at h9; exact kf (by omega))
theorem zb_if_ge (hx : p.tables.exec = Jvm.exec) (hb : c.code = cc) {x : Int} {off : Int} {tgt : Nat} (hd : decode cc pc = .ok (.ifCond .ge off, 3)) (ht : (pc : Int) + off = (tgt : Int)) (h1 : iR x) (kt : 0 ≤ x → W p l e R s m args below meth c H locs cells slots Q (F0 m tgt ls rest)) (kf : x < 0 → W p l e R s m args below meth c H locs cells slots Q (F0 m (pc + 3) ls rest)) : W p l e R s m args below meth c H locs cells slots Q (F0 m pc ls (.int (iZ x) :: rest)) := lv_if_ge hx hb hd ht (fun h9 => by rw [iZ_0] at h9; rw [iZ_le (show iR 0 from ⟨by omega, by omega⟩) h1] at h9; exact kt h9) (fun h9 => by rw [iZ_0] at h9; rw [iZ_le (show iR 0 from ⟨by omega, by omega⟩) h1] at h9; exact kf (by omega))
theorem zb_icmp_ge (hx : p.tables.exec = Jvm.exec) (hb : c.code = cc) {x y : Int} {off : Int} {tgt : Nat} (hd : decode cc pc = .ok (.if_icmp .ge off, 3)) (ht : (pc : Int) + off = (tgt : Int)) (h1 : iR x) (h2 : iR y) (kt : y ≤ x → W p l e R s m args below meth c H locs cells slots Q (F0 m tgt ls rest)) (kf : x < y → W p l e R s m args below meth c H locs cells slots Q (F0 m (pc + 3) ls rest)) : W p l e R s m args below meth c H locs cells slots Q (F0 m pc ls (.int (iZ y) :: .int (iZ x) :: rest)) := lv_icmp_ge hx hb hd ht (fun h9 => by rw [iZ_le h2 h1] at h9; exact kt h9) (fun h9 => by rw [iZ_le h2 h1] at h9; exact kf (by omega))
theorem zb_if_gt (hx : p.tables.exec = Jvm.exec) (hb : c.code = cc) {x : Int} {off : Int} {tgt : Nat} (hd : decode cc pc = .ok (.ifCond .gt off, 3)) (ht : (pc : Int) + off = (tgt : Int)) (h1 : iR x) (kt : 0 < x → W p l e R s m args below meth c H locs cells slots Q (F0 m tgt ls rest)) (kf : x ≤ 0 → W p l e R s m args below meth c H locs cells slots Q (F0 m (pc + 3) ls rest)) : W p l e R s m args below meth c H locs cells slots Q (F0 m pc ls (.int (iZ x) :: rest)) := lv_if_gt hx hb hd ht (fun h9 => by rw [iZ_0] at h9; rw [iZ_lt (show iR 0 from ⟨by omega, by omega⟩) h1] at h9; exact kt h9) (fun h9 => by rw [iZ_0] at h9; rw [iZ_lt (show iR 0 from ⟨by omega, by omega⟩) h1] at h9; exact kf (by omega))
theorem zb_icmp_gt (hx : p.tables.exec = Jvm.exec) (hb : c.code = cc) {x y : Int} {off : Int} {tgt : Nat} (hd : decode cc pc = .ok (.if_icmp .gt off, 3)) (ht : (pc : Int) + off = (tgt : Int)) (h1 : iR x) (h2 : iR y) (kt : y < x → W p l e R s m args below meth c H locs cells slots Q (F0 m tgt ls rest)) (kf : x ≤ y → W p l e R s m args below meth c H locs cells slots Q (F0 m (pc + 3) ls rest)) : W p l e R s m args below meth c H locs cells slots Q (F0 m pc ls (.int (iZ y) :: .int (iZ x) :: rest)) := lv_icmp_gt hx hb hd ht (fun h9 => by rw [iZ_lt h2 h1] at h9; exact kt h9) (fun h9 => by rw [iZ_lt h2 h1] at h9; exact kf (by omega))
theorem zb_if_le (hx : p.tables.exec = Jvm.exec) (hb : c.code = cc) {x : Int} {off : Int} {tgt : Nat} (hd : decode cc pc = .ok (.ifCond .le off, 3)) (ht : (pc : Int) + off = (tgt : Int)) (h1 : iR x) (kt : x ≤ 0 → W p l e R s m args below meth c H locs cells slots Q (F0 m tgt ls rest)) (kf : 0 < x → W p l e R s m args below meth c H locs cells slots Q (F0 m (pc + 3) ls rest)) : W p l e R s m args below meth c H locs cells slots Q (F0 m pc ls (.int (iZ x) :: rest)) := lv_if_le hx hb hd ht (fun h9 => by rw [iZ_0] at h9; rw [iZ_le h1 (show iR 0 from ⟨by omega, by omega⟩)] at h9; exact kt h9) (fun h9 => by rw [iZ_0] at h9; rw [iZ_le h1 (show iR 0 from ⟨by omega, by omega⟩)] at h9; exact kf (by omega))
theorem zb_icmp_le (hx : p.tables.exec = Jvm.exec) (hb : c.code = cc) {x y : Int} {off : Int} {tgt : Nat} (hd : decode cc pc = .ok (.if_icmp .le off, 3)) (ht : (pc : Int) + off = (tgt : Int)) (h1 : iR x) (h2 : iR y) (kt : x ≤ y → W p l e R s m args below meth c H locs cells slots Q (F0 m tgt ls rest)) (kf : y < x → W p l e R s m args below meth c H locs cells slots Q (F0 m (pc + 3) ls rest)) : W p l e R s m args below meth c H locs cells slots Q (F0 m pc ls (.int (iZ y) :: .int (iZ x) :: rest)) := lv_icmp_le hx hb hd ht (fun h9 => by rw [iZ_le h1 h2] at h9; exact kt h9) (fun h9 => by rw [iZ_le h1 h2] at h9; exact kf (by omega))
theorem zl_cmp {x y : Int} (h1 : lR x) (h2 : lR y) : lg_cmp (lZ x) (lZ y) = iZ (if y < x then 1 else if x = y then 0 else -1) := by
  unfold lg_cmp
  simp only [gt_iff_lt, lZ_lt h2 h1, lZ_eq h1 h2]
  split
  · rfl
  · split <;> rfl
theorem zb_l_eq (hx : p.tables.exec = Jvm.exec) (hb : c.code = cc) {x y : Int} {off : Int} {tgt : Nat} (hd0 : decode cc pc = .ok (.lcmp, 1)) (hd : decode cc (pc + 1) = .ok (.ifCond .eq off, 3)) (ht : ((pc + 1 : Nat) : Int) + off = (tgt : Int)) (h1 : lR x) (h2 : lR y) (kt : x = y → W p l e R s m args below meth c H locs cells slots Q (F0 m tgt ls rest)) (kf : ¬ x = y → W p l e R s m args below meth c H locs cells slots Q (F0 m (pc + 1 + 3) ls rest)) : W p l e R s m args below meth c H locs cells slots Q (F0 m pc ls (.long (lZ y) :: .long (lZ x) :: rest)) := by
  refine W.lcmp hx hb hd0 ?_
  rw [zl_cmp h1 h2]
  refine zb_if_eq hx hb hd ht ⟨by split <;> (try split) <;> omega, by split <;> (try split) <;> omega⟩ (fun h9 => kt ?_) (fun h9 => kf ?_)
  · revert h9; split <;> (try split) <;> omega
  · revert h9; split <;> (try split) <;> omega
theorem zb_l_ne (hx : p.tables.exec = Jvm.exec) (hb : c.code = cc) {x y : Int} {off : Int} {tgt : Nat} (hd0 : decode cc pc = .ok (.lcmp, 1)) (hd : decode cc (pc + 1) = .ok (.ifCond .ne off, 3)) (ht : ((pc + 1 : Nat) : Int) + off = (tgt : Int)) (h1 : lR x) (h2 : lR y) (kt : ¬ x = y → W p l e R s m args below meth c H locs cells slots Q (F0 m tgt ls rest)) (kf : x = y → W p l e R s m args below meth c H locs cells slots Q (F0 m (pc + 1 + 3) ls rest)) : W p l e R s m args below meth c H locs cells slots Q (F0 m pc ls (.long (lZ y) :: .long (lZ x) :: rest)) := by
  refine W.lcmp hx hb hd0 ?_
  rw [zl_cmp h1 h2]
  refine zb_if_ne hx hb hd ht ⟨by split <;> (try split) <;> omega, by split <;> (try split) <;> omega⟩ (fun h9 => kt ?_) (fun h9 => kf ?_)
  · revert h9; split <;> (try split) <;> omega
  · revert h9; split <;> (try split) <;> omega
theorem zb_l_lt (hx : p.tables.exec = Jvm.exec) (hb : c.code = cc) {x y : Int} {off : Int} {tgt : Nat} (hd0 : decode cc pc = .ok (.lcmp, 1)) (hd : decode cc (pc + 1) = .ok (.ifCond .lt off, 3)) (ht : ((pc + 1 : Nat) : Int) + off = (tgt : Int)) (h1 : lR x) (h2 : lR y) (kt : x < y → W p l e R s m args below meth c H locs cells slots Q (F0 m tgt ls rest)) (kf : y ≤ x → W p l e R s m args below meth c H locs cells slots Q (F0 m (pc + 1 + 3) ls rest)) : W p l e R s m args below meth c H locs cells slots Q (F0 m pc ls (.long (lZ y) :: .long (lZ x) :: rest)) := by
  refine W.lcmp hx hb hd0 ?_
  rw [zl_cmp h1 h2]
  refine zb_if_lt hx hb hd ht ⟨by split <;> (try split) <;> omega, by split <;> (try split) <;> omega⟩ (fun h9 => kt ?_) (fun h9 => kf ?_)
  · revert h9; split <;> (try split) <;> omega
  · revert h9; split <;> (try split) <;> omega
theorem zb_l_ge (hx : p.tables.exec = Jvm.exec) (hb : c.code = cc) {x y : Int} {off : Int} {tgt : Nat} (hd0 : decode cc pc = .ok (.lcmp, 1)) (hd : decode cc (pc + 1) = .ok (.ifCond .ge off, 3)) (ht : ((pc + 1 : Nat) : Int) + off = (tgt : Int)) (h1 : lR x) (h2 : lR y) (kt : y ≤ x → W p l e R s m args below meth c H locs cells slots Q (F0 m tgt ls rest)) (kf : x < y → W p l e R s m args below meth c H locs cells slots Q (F0 m (pc + 1 + 3) ls rest)) : W p l e R s m args below meth c H locs cells slots Q (F0 m pc ls (.long (lZ y) :: .long (lZ x) :: rest)) := by
  refine W.lcmp hx hb hd0 ?_
  rw [zl_cmp h1 h2]
  refine zb_if_ge hx hb hd ht ⟨by split <;> (try split) <;> omega, by split <;> (try split) <;> omega⟩ (fun h9 => kt ?_) (fun h9 => kf ?_)
  · revert h9; split <;> (try split) <;> omega
  · revert h9; split <;> (try split) <;> omega
theorem zb_l_gt (hx : p.tables.exec = Jvm.exec) (hb : c.code = cc) {x y : Int} {off : Int} {tgt : Nat} (hd0 : decode cc pc = .ok (.lcmp, 1)) (hd : decode cc (pc + 1) = .ok (.ifCond .gt off, 3)) (ht : ((pc + 1 : Nat) : Int) + off = (tgt : Int)) (h1 : lR x) (h2 : lR y) (kt : y < x → W p l e R s m args below meth c H locs cells slots Q (F0 m tgt ls rest)) (kf : x ≤ y → W p l e R s m args below meth c H locs cells slots Q (F0 m (pc + 1 + 3) ls rest)) : W p l e R s m args below meth c H locs cells slots Q (F0 m pc ls (.long (lZ y) :: .long (lZ x) :: rest)) := by
  refine W.lcmp hx hb hd0 ?_
  rw [zl_cmp h1 h2]
  refine zb_if_gt hx hb hd ht ⟨by split <;> (try split) <;> omega, by split <;> (try split) <;> omega⟩ (fun h9 => kt ?_) (fun h9 => kf ?_)
  · revert h9; split <;> (try split) <;> omega
  · revert h9; split <;> (try split) <;> omega
theorem zb_l_le (hx : p.tables.exec = Jvm.exec) (hb : c.code = cc) {x y : Int} {off : Int} {tgt : Nat} (hd0 : decode cc pc = .ok (.lcmp, 1)) (hd : decode cc (pc + 1) = .ok (.ifCond .le off, 3)) (ht : ((pc + 1 : Nat) : Int) + off = (tgt : Int)) (h1 : lR x) (h2 : lR y) (kt : x ≤ y → W p l e R s m args below meth c H locs cells slots Q (F0 m tgt ls rest)) (kf : y < x → W p l e R s m args below meth c H locs cells slots Q (F0 m (pc + 1 + 3) ls rest)) : W p l e R s m args below meth c H locs cells slots Q (F0 m pc ls (.long (lZ y) :: .long (lZ x) :: rest)) := by
  refine W.lcmp hx hb hd0 ?_
  rw [zl_cmp h1 h2]
  refine zb_if_le hx hb hd ht ⟨by split <;> (try split) <;> omega, by split <;> (try split) <;> omega⟩ (fun h9 => kt ?_) (fun h9 => kf ?_)
  · revert h9; split <;> (try split) <;> omega
  · revert h9; split <;> (try split) <;> omega
theorem za_iald (hx : p.tables.exec = Jvm.exec) (hb : c.code = cc) (hK : va_K D cl tys s) (hP : va_P D cl ws H) (q0 t0 : Nat) {cA : ClassId} {n : Nat} {f : Nat → Int32} (ha : ws[q0]? = some (a, .inl (cA, n, .inl f))) (ht : tys[t0]? = some (cA, .int)) (j : Nat) {z v : Int} (hn : n < 2147483648) (hz : z = j) (hj : j < n) (hv : f j = iZ v) (hd : decode cc pc = .ok (.iaload, 1)) (k : W p l e R s m args below meth c H locs cells slots Q (F0 m (pc + 1) ls (.int (iZ v) :: rest))) : W p l e R s m args below meth c H locs cells slots Q (F0 m pc ls (.int (iZ z) :: .ref a :: rest)) := by
  subst hz
  refine va_iald hx hb hK hP q0 t0 ha ht (iZ_in hj hn) hd ?_
  rw [iZ_cN (by omega), hv]
  exact k
theorem za_lald (hx : p.tables.exec = Jvm.exec) (hb : c.code = cc) (hK : va_K D cl tys s) (hP : va_P D cl ws H) (q0 t0 : Nat) {cA : ClassId} {n : Nat} {f : Nat → Int64} (ha : ws[q0]? = some (a, .inl (cA, n, .inr (.inl f)))) (ht : tys[t0]? = some (cA, .long)) (j : Nat) {z v : Int} (hn : n < 2147483648) (hz : z = j) (hj : j < n) (hv : f j = lZ v) (hd : decode cc pc = .ok (.laload, 1)) (k : W p l e R s m args below meth c H locs cells slots Q (F0 m (pc + 1) ls (.long (lZ v) :: rest))) : W p l e R s m args below meth c H locs cells slots Q (F0 m pc ls (.int (iZ z) :: .ref a :: rest)) := by
  subst hz
  refine va_lald hx hb hK hP q0 t0 ha ht (iZ_in hj hn) hd ?_
  rw [iZ_cN (by omega), hv]
  exact k
theorem za_iast (hx : p.tables.exec = Jvm.exec) (hb : c.code = cc) (hK : va_K D cl tys s) (hP : va_P D cl ws H) (hD : va_D A ws) (hS : va_S A H0 H locs) (q0 t0 : Nat) {cA : ClassId} {n : Nat} {f : Nat → Int32} (ha : ws[q0]? = some (a, .inl (cA, n, .inl f))) (ht : tys[t0]? = some (cA, .int)) (j : Nat) {z : Int} {x : Int32} (hn : n < 2147483648) (hz : z = j) (hj : j < n) (hd : decode cc pc = .ok (.iastore, 1)) (kk : ∀ (H1 : Heap) (locs1 : List Loc), va_P D cl (ws.set q0 (a, .inl (cA, n, .inl (upd f j x)))) H1 → va_D A (ws.set q0 (a, .inl (cA, n, .inl (upd f j x)))) → va_S A H0 H1 locs1 → W p l e R s m args below meth c H1 locs1 cells slots Q (F0 m (pc + 1) ls rest)) : W p l e R s m args below meth c H locs cells slots Q (F0 m pc ls (.int x :: .int (iZ z) :: .ref a :: rest)) := by
  subst hz
  refine va_iast hx hb hK hP hD hS q0 t0 ha ht (iZ_in hj hn) hd ?_
  rw [iZ_cN (by omega)]
  exact kk
theorem za_last (hx : p.tables.exec = Jvm.exec) (hb : c.code = cc) (hK : va_K D cl tys s) (hP : va_P D cl ws H) (hD : va_D A ws) (hS : va_S A H0 H locs) (q0 t0 : Nat) {cA : ClassId} {n : Nat} {f : Nat → Int64} (ha : ws[q0]? = some (a, .inl (cA, n, .inr (.inl f)))) (ht : tys[t0]? = some (cA, .long)) (j : Nat) {z : Int} {x : Int64} (hn : n < 2147483648) (hz : z = j) (hj : j < n) (hd : decode cc pc = .ok (.lastore, 1)) (kk : ∀ (H1 : Heap) (locs1 : List Loc), va_P D cl (ws.set q0 (a, .inl (cA, n, .inr (.inl (vp_updL f j x))))) H1 → va_D A (ws.set q0 (a, .inl (cA, n, .inr (.inl (vp_updL f j x))))) → va_S A H0 H1 locs1 → W p l e R s m args below meth c H1 locs1 cells slots Q (F0 m (pc + 1) ls rest)) : W p l e R s m args below meth c H locs cells slots Q (F0 m pc ls (.long x :: .int (iZ z) :: .ref a :: rest)) := by
  subst hz
  refine va_last hx hb hK hP hD hS q0 t0 ha ht (iZ_in hj hn) hd ?_
  rw [iZ_cN (by omega)]
  exact kk
end ZW

/-- the world ws stands in t, its cells of the kind A -/
abbrev wB (D : va_G) (cl : List vw_C) (tys : List (ClassId × FieldType)) (A : Nat → Prop) (ws : va_W) (t : State) : Prop := va_P D cl ws t.heap ∧ va_K D cl tys t ∧ va_D A ws
abbrev wPre (D : va_G) (cl : List vw_C) (tys : List (ClassId × FieldType)) (av : List Value) (ws : va_W) (sz : Nat) : Array Value → State → Prop := va_Pc av (fun U => U.heap.size = sz ∧ wB D cl tys (fun _ => True) ws U)
theorem wPre_blind {D : va_G} {cl : List vw_C} {tys : List (ClassId × FieldType)} {av : List Value} {ws : va_W} {sz : Nat} : FrameBlind (wPre D cl tys av ws sz) := fun a U g mk q => by
  obtain ⟨q0, q1, qP, qK, qD⟩ := q
  exact ⟨q0, q1, qP, va_K.moved (u := U) (U := U.calling g mk a) (Vm.Alike.refl U.vm) qK, qD⟩
/-- contracts: with the arguments av, over the world ws, y answers r and leaves ws' u, with post r u -/
def Ci (l : Launch) (D : va_G) (cl : List vw_C) (tys : List (ClassId × FieldType)) (y : MethodName) (wd : List Cond) (rm : Room) (av : List Value) (ws : va_W) (S : Type) (post : Int32 → S → Prop) (ws' : S → va_W) : Prop :=
  ∀ sz : Nat, Met l y wd rm (wPre D cl tys av ws sz) (va_Qi post (fun u t => wB D cl tys (va_A ws sz) (ws' u) t) (va_A ws sz)) rm.cells rm.slots (va_A ws sz)
def Cl (l : Launch) (D : va_G) (cl : List vw_C) (tys : List (ClassId × FieldType)) (y : MethodName) (wd : List Cond) (rm : Room) (av : List Value) (ws : va_W) (S : Type) (post : Int64 → S → Prop) (ws' : S → va_W) : Prop :=
  ∀ sz : Nat, Met l y wd rm (wPre D cl tys av ws sz) (va_Ql post (fun u t => wB D cl tys (va_A ws sz) (ws' u) t) (va_A ws sz)) rm.cells rm.slots (va_A ws sz)
def Cv (l : Launch) (D : va_G) (cl : List vw_C) (tys : List (ClassId × FieldType)) (y : MethodName) (wd : List Cond) (rm : Room) (av : List Value) (ws : va_W) (S : Type) (post : S → Prop) (ws' : S → va_W) : Prop :=
  ∀ sz : Nat, Met l y wd rm (wPre D cl tys av ws sz) (va_Qv post (fun u t => wB D cl tys (va_A ws sz) (ws' u) t) (va_A ws sz)) rm.cells rm.slots (va_A ws sz)
theorem W_mono {p : Program} {l : Launch} {e : Env} {R : Room} {s : State} {m : MethodId} {args : Array Value} {below : List Frame} {meth : Method} {c : Code} {H : Heap} {locs : List Loc} {cells slots : Nat} {Q Q' : State → Prop} {g : JFrame} (h : ∀ t, Q t → Q' t) (k : W p l e R s m args below meth c H locs cells slots Q g) : W p l e R s m args below meth c H locs cells slots Q' g := fun T hT X => by
  obtain ⟨t, a1, b1⟩ := k T hT X
  exact ⟨t, a1, h t b1⟩

theorem en_i {l : Launch} {D : va_G} {cl : List vw_C} {tys : List (ClassId × FieldType)} {y : MethodName} {wd wd' : List Cond} {rm : Room} {av : List Value} {ws : va_W} {S : Type} {post : Int32 → S → Prop} {ws' : S → va_W} {cc : ByteArray} {maxL : Nat} {ty : FieldType} 
    (hy : plainName y.cls = true) (hw : wd = Cond.code y cc maxL (some ty) :: wd') (lv : List (Nat × Value)) (hlen : (lg_sl av).length ≤ maxL) (hlv : lv_args 0 av = lv)
    (body : ∀ (p : Program) (e : Env) (s : State) (m : MethodId) (args : Array Value) (below : List Frame) (meth : Method) (c : Code) (Q : State → Prop) (A : Nat → Prop), p.tables.exec = Jvm.exec → c.code = cc → c.maxLocals = maxL → s.vm.findClass y.cls = some m.cls → (∀ w ∈ wd, w.before args s = true) → meth.name = y.name → va_K D cl tys s → va_P D cl ws s.heap → va_D A ws → (∀ q : Nat, s.heap.size ≤ q → A q) → va_S A s.heap s.heap [] →
      (∀ (r : Int32) (u : S) (H : Heap) (locs : List Loc) (cells slots pc : Nat) (ls : Array Slot), cells ≤ rm.cells → slots ≤ rm.slots → narrow ty (.int r) = .int r → decode cc pc = .ok (.ireturn, 1) → post r u → va_P D cl (ws' u) H → va_D A (ws' u) → va_S A s.heap H locs → W p l e rm s m args below meth c H locs cells slots Q (F0 m pc ls [.int r])) →
      ∀ ls : Array Slot, lv_has ls maxL lv → W p l e rm s m args below meth c s.heap [] 0 0 Q (F0 m 0 ls [])) : Ci l D cl tys y wd rm av ws S post ws' := by
  intro sz
  refine Met.ofW (cc := cc) (maxL := maxL) (ret := (some ty)) hy hw ?_
  intro p e s m args below meth c s₁ B hml hv
  obtain ⟨rfl, hsz, hP, hK, hD0⟩ := hv
  have hr := B.returns
  have hlocks := B.notSynchronized
  have hts := atoms_spec (ws := wd) B.pre
  have hown : s.vm.findClass y.cls = some m.cls := findClass_of_methodNamed B.named
  subst hsz
  have hl := lv_entry av (n := maxL) hlen
  rw [lg_entry_eq]
  generalize (lg_sl av ++ List.replicate (maxL - (lg_sl av).length) Slot.unset).toArray = ls at hl ⊢
  rw [hlv] at hl
  refine body p e s m _ below meth c _ (va_A ws s.heap.size) B.exec B.bytes hml hown hts (name_of_methodNamed B.named B.method).1 hK hP (hD0.self (sz := s.heap.size)) (fun q h => Or.inr h) va_S.rf ?_ ls hl
  intro r u H locs cells slots pc ls hc hs hn hd hp hP hD hS
  refine W.widen (k := rm.cells) (n := rm.slots) hc hs ?_
  exact W.zret (v := r) B.exec B.bytes hr hn (fun t ht hW => ⟨⟨r, u, rfl, hp, by rw [ht]; exact hP, va_K.moved hW.alike hK, hD⟩, hS.F ht⟩) hS.2.2 hd hlocks
theorem en_l {l : Launch} {D : va_G} {cl : List vw_C} {tys : List (ClassId × FieldType)} {y : MethodName} {wd wd' : List Cond} {rm : Room} {av : List Value} {ws : va_W} {S : Type} {post : Int64 → S → Prop} {ws' : S → va_W} {cc : ByteArray} {maxL : Nat} 
    (hy : plainName y.cls = true) (hw : wd = Cond.code y cc maxL (some .long) :: wd') (lv : List (Nat × Value)) (hlen : (lg_sl av).length ≤ maxL) (hlv : lv_args 0 av = lv)
    (body : ∀ (p : Program) (e : Env) (s : State) (m : MethodId) (args : Array Value) (below : List Frame) (meth : Method) (c : Code) (Q : State → Prop) (A : Nat → Prop), p.tables.exec = Jvm.exec → c.code = cc → c.maxLocals = maxL → s.vm.findClass y.cls = some m.cls → (∀ w ∈ wd, w.before args s = true) → meth.name = y.name → va_K D cl tys s → va_P D cl ws s.heap → va_D A ws → (∀ q : Nat, s.heap.size ≤ q → A q) → va_S A s.heap s.heap [] →
      (∀ (r : Int64) (u : S) (H : Heap) (locs : List Loc) (cells slots pc : Nat) (ls : Array Slot), cells ≤ rm.cells → slots ≤ rm.slots → decode cc pc = .ok (.lreturn, 1) → post r u → va_P D cl (ws' u) H → va_D A (ws' u) → va_S A s.heap H locs → W p l e rm s m args below meth c H locs cells slots Q (F0 m pc ls [.long r])) →
      ∀ ls : Array Slot, lv_has ls maxL lv → W p l e rm s m args below meth c s.heap [] 0 0 Q (F0 m 0 ls [])) : Cl l D cl tys y wd rm av ws S post ws' := by
  intro sz
  refine Met.ofW (cc := cc) (maxL := maxL) (ret := (some .long)) hy hw ?_
  intro p e s m args below meth c s₁ B hml hv
  obtain ⟨rfl, hsz, hP, hK, hD0⟩ := hv
  have hr := B.returns
  have hlocks := B.notSynchronized
  have hts := atoms_spec (ws := wd) B.pre
  have hown : s.vm.findClass y.cls = some m.cls := findClass_of_methodNamed B.named
  subst hsz
  have hl := lv_entry av (n := maxL) hlen
  rw [lg_entry_eq]
  generalize (lg_sl av ++ List.replicate (maxL - (lg_sl av).length) Slot.unset).toArray = ls at hl ⊢
  rw [hlv] at hl
  refine body p e s m _ below meth c _ (va_A ws s.heap.size) B.exec B.bytes hml hown hts (name_of_methodNamed B.named B.method).1 hK hP (hD0.self (sz := s.heap.size)) (fun q h => Or.inr h) va_S.rf ?_ ls hl
  intro r u H locs cells slots pc ls hc hs hd hp hP hD hS
  refine W.widen (k := rm.cells) (n := rm.slots) hc hs ?_
  exact W.lret (v := r) B.exec B.bytes hr (fun t ht hW => ⟨⟨r, u, rfl, hp, by rw [ht]; exact hP, va_K.moved hW.alike hK, hD⟩, hS.F ht⟩) hS.2.2 hd hlocks
theorem en_v {l : Launch} {D : va_G} {cl : List vw_C} {tys : List (ClassId × FieldType)} {y : MethodName} {wd wd' : List Cond} {rm : Room} {av : List Value} {ws : va_W} {S : Type} {post : S → Prop} {ws' : S → va_W} {cc : ByteArray} {maxL : Nat} 
    (hy : plainName y.cls = true) (hw : wd = Cond.code y cc maxL none :: wd') (lv : List (Nat × Value)) (hlen : (lg_sl av).length ≤ maxL) (hlv : lv_args 0 av = lv)
    (body : ∀ (p : Program) (e : Env) (s : State) (m : MethodId) (args : Array Value) (below : List Frame) (meth : Method) (c : Code) (Q : State → Prop) (A : Nat → Prop), p.tables.exec = Jvm.exec → c.code = cc → c.maxLocals = maxL → s.vm.findClass y.cls = some m.cls → (∀ w ∈ wd, w.before args s = true) → meth.name = y.name → va_K D cl tys s → va_P D cl ws s.heap → va_D A ws → (∀ q : Nat, s.heap.size ≤ q → A q) → va_S A s.heap s.heap [] →
      (∀ (u : S) (H : Heap) (locs : List Loc) (cells slots pc : Nat) (ls : Array Slot), cells ≤ rm.cells → slots ≤ rm.slots → decode cc pc = .ok (.return_, 1) → post u → va_P D cl (ws' u) H → va_D A (ws' u) → va_S A s.heap H locs → W p l e rm s m args below meth c H locs cells slots Q (F0 m pc ls [])) →
      ∀ ls : Array Slot, lv_has ls maxL lv → W p l e rm s m args below meth c s.heap [] 0 0 Q (F0 m 0 ls [])) : Cv l D cl tys y wd rm av ws S post ws' := by
  intro sz
  refine Met.ofW (cc := cc) (maxL := maxL) (ret := none) hy hw ?_
  intro p e s m args below meth c s₁ B hml hv
  obtain ⟨rfl, hsz, hP, hK, hD0⟩ := hv
  have hr := B.returns
  have hlocks := B.notSynchronized
  have hts := atoms_spec (ws := wd) B.pre
  have hown : s.vm.findClass y.cls = some m.cls := findClass_of_methodNamed B.named
  subst hsz
  have hl := lv_entry av (n := maxL) hlen
  rw [lg_entry_eq]
  generalize (lg_sl av ++ List.replicate (maxL - (lg_sl av).length) Slot.unset).toArray = ls at hl ⊢
  rw [hlv] at hl
  refine body p e s m _ below meth c _ (va_A ws s.heap.size) B.exec B.bytes hml hown hts (name_of_methodNamed B.named B.method).1 hK hP (hD0.self (sz := s.heap.size)) (fun q h => Or.inr h) va_S.rf ?_ ls hl
  intro u H locs cells slots pc ls hc hs hd hp hP hD hS
  refine W.widen (k := rm.cells) (n := rm.slots) hc hs ?_
  exact W.vret B.exec B.bytes hr (fun t ht hW => ⟨⟨u, rfl, hp, by rw [ht]; exact hP, va_K.moved hW.alike hK, hD⟩, hS.F ht⟩) hS.2.2 hd hlocks
theorem ca_iV {p : Program} {l : Launch} {e : Env} {R : Room} {s : State} {m : MethodId} {args : Array Value} {below : List Frame} {meth : Method} {c : Code} {H : Heap} {locs : List Loc} {cells slots : Nat} {Q : State → Prop} {cc : ByteArray} {pc nL index n maxL : Nat} {ls : Array Slot} {D : va_G} {cl : List vw_C} {A : Nat → Prop} {tys : List (ClassId × FieldType)} {ws wc : va_W} {y : MethodName} {bytes : ByteArray} {ret : Option FieldType} {wd Ts : List Cond} {rm : Room} {own C : String} {b : Nat} {S : Type} {post : Int32 → S → Prop} {ws' : S → va_W} {st : List Value}
    (As rest : List Value) (wr : va_W) (c1 s1 : Nat) (F : CallFix p m c cc nL s args Ts own) (hM : Ci l D cl tys y wd rm (.ref b :: As) wc S post ws') (cw : CallW R s args own C index y bytes maxL ret wd rm rm.cells rm.slots n) (hK : va_K D cl tys s) (hP : va_P D cl ws H) (hD : va_D A ws) (hS : va_S A s.heap H locs) (hA : ∀ q : Nat, s.heap.size ≤ q → A q)
    (isC isR : List Nat) (hC : isC.map (fun i => ws[i]?) = wc.map some) (hcn : va_nd isC = true) (hR : isR.map (fun i => ws[i]?) = wr.map some) (hn : va_nd isR = true) (hdis : ∀ i ∈ isR, i ∉ isC) (q0 : Nat) {ci N : Nat} {T : u_T} {fs : List Value} (hc0 : cl[ci]? = some (C, T, N)) (he0 : wc[q0]? = some (b, .inr (ci, fs))) 
    (hl : As.length = n) (hsz : ls.size = nL) (hst : st = As.reverse ++ .ref b :: rest) (hW : (rest.map fun v => v.category).sum ≤ 8) (hd : decode cc pc = .ok (.invokevirtual index, 3)) (hf : cells + rm.cells ≤ R.cells ∧ slots + rm.slots ≤ R.slots) (hc1 : cells + rm.cells ≤ c1) (hs1 : slots + rm.slots ≤ s1)
    (kk : ∀ (r : Int32) (u : S) (H1 : Heap) (locs1 : List Loc), post r u → va_P D cl (wr ++ ws' u) H1 → va_D A (wr ++ ws' u) → va_S A s.heap H1 locs1 → W p l e R s m args below meth c H1 locs1 c1 s1 Q (F0 m (pc + 3) ls (.int r :: rest))) : W p l e R s m args below meth c H locs cells slots Q (F0 m pc ls st) := by
  subst hst
  have hPc : va_P D cl wc H := hP.sub isC (by have h9 := congrArg (List.filterMap id) hC; simpa [List.filterMap_map] using h9)
  have hDc : va_D A wc := hD.sub isC hcn hC
  have hFc := va_free (wc := wc) hD hS hA isC hC
  refine va_calli (va_runV (As := As) (rest := rest) F (hM H.size) cw ⟨wPre_blind, va_recv hK hPc (ci := ci) (q0 := q0) hc0 he0, fun U hU hW => ⟨rfl, by rw [hU], by rw [hU]; exact hPc, va_K.moved hW.alike hK, hDc.weaken (fun _ _ _ _ => trivial)⟩⟩ rfl hl hsz rfl (lv_room hW) hd hf) hS (fun q _ h => hFc q h) hFc (fun r u t H1 locs1 ht hvm hw hB hz1 hk1 hS => ?_)
  obtain ⟨hP1, hK1, hD1⟩ := hB
  rw [ht] at hP1
  obtain ⟨hP, hD⟩ := va_join (wr := wr) hP hD isC isR hC hR hn hdis hk1 hFc hP1 hD1
  exact W.widen (k := c1) (n := s1) hc1 hs1 (kk r u H1 locs1 hw hP hD hS)
theorem ca_iS {p : Program} {l : Launch} {e : Env} {R : Room} {s : State} {m : MethodId} {args : Array Value} {below : List Frame} {meth : Method} {c : Code} {H : Heap} {locs : List Loc} {cells slots : Nat} {Q : State → Prop} {cc : ByteArray} {pc nL index n maxL : Nat} {ls : Array Slot} {D : va_G} {cl : List vw_C} {A : Nat → Prop} {tys : List (ClassId × FieldType)} {ws wc : va_W} {y : MethodName} {bytes : ByteArray} {ret : Option FieldType} {wd Ts : List Cond} {rm : Room} {own : String} {S : Type} {post : Int32 → S → Prop} {ws' : S → va_W} {st : List Value}
    (As rest : List Value) (wr : va_W) (c1 s1 : Nat) (F : CallFix p m c cc nL s args Ts own) (hM : Ci l D cl tys y wd rm As wc S post ws') (cw : CallB R s args own index y bytes maxL ret wd rm rm.cells rm.slots n ∧ (Cond.static y).before args s = true) (hK : va_K D cl tys s) (hP : va_P D cl ws H) (hD : va_D A ws) (hS : va_S A s.heap H locs) (hA : ∀ q : Nat, s.heap.size ≤ q → A q)
    (isC isR : List Nat) (hC : isC.map (fun i => ws[i]?) = wc.map some) (hcn : va_nd isC = true) (hR : isR.map (fun i => ws[i]?) = wr.map some) (hn : va_nd isR = true) (hdis : ∀ i ∈ isR, i ∉ isC) 
    (hl : As.length = n) (hsz : ls.size = nL) (hst : st = As.reverse ++ rest) (hW : (rest.map fun v => v.category).sum ≤ 8) (hd : decode cc pc = .ok (.invokestatic index, 3)) (hf : cells + rm.cells ≤ R.cells ∧ slots + rm.slots ≤ R.slots) (hc1 : cells + rm.cells ≤ c1) (hs1 : slots + rm.slots ≤ s1)
    (kk : ∀ (r : Int32) (u : S) (H1 : Heap) (locs1 : List Loc), post r u → va_P D cl (wr ++ ws' u) H1 → va_D A (wr ++ ws' u) → va_S A s.heap H1 locs1 → W p l e R s m args below meth c H1 locs1 c1 s1 Q (F0 m (pc + 3) ls (.int r :: rest))) : W p l e R s m args below meth c H locs cells slots Q (F0 m pc ls st) := by
  subst hst
  have hPc : va_P D cl wc H := hP.sub isC (by have h9 := congrArg (List.filterMap id) hC; simpa [List.filterMap_map] using h9)
  have hDc : va_D A wc := hD.sub isC hcn hC
  have hFc := va_free (wc := wc) hD hS hA isC hC
  refine va_calli (va_runS (As := As) (rest := rest) F (hM H.size) cw ⟨wPre_blind, fun U hU hW => ⟨rfl, by rw [hU], by rw [hU]; exact hPc, va_K.moved hW.alike hK, hDc.weaken (fun _ _ _ _ => trivial)⟩⟩ rfl hl hsz rfl (lv_room hW) hd hf) hS (fun q _ h => hFc q h) hFc (fun r u t H1 locs1 ht hvm hw hB hz1 hk1 hS => ?_)
  obtain ⟨hP1, hK1, hD1⟩ := hB
  rw [ht] at hP1
  obtain ⟨hP, hD⟩ := va_join (wr := wr) hP hD isC isR hC hR hn hdis hk1 hFc hP1 hD1
  exact W.widen (k := c1) (n := s1) hc1 hs1 (kk r u H1 locs1 hw hP hD hS)
theorem ca_lV {p : Program} {l : Launch} {e : Env} {R : Room} {s : State} {m : MethodId} {args : Array Value} {below : List Frame} {meth : Method} {c : Code} {H : Heap} {locs : List Loc} {cells slots : Nat} {Q : State → Prop} {cc : ByteArray} {pc nL index n maxL : Nat} {ls : Array Slot} {D : va_G} {cl : List vw_C} {A : Nat → Prop} {tys : List (ClassId × FieldType)} {ws wc : va_W} {y : MethodName} {bytes : ByteArray} {ret : Option FieldType} {wd Ts : List Cond} {rm : Room} {own C : String} {b : Nat} {S : Type} {post : Int64 → S → Prop} {ws' : S → va_W} {st : List Value}
    (As rest : List Value) (wr : va_W) (c1 s1 : Nat) (F : CallFix p m c cc nL s args Ts own) (hM : Cl l D cl tys y wd rm (.ref b :: As) wc S post ws') (cw : CallW R s args own C index y bytes maxL ret wd rm rm.cells rm.slots n) (hK : va_K D cl tys s) (hP : va_P D cl ws H) (hD : va_D A ws) (hS : va_S A s.heap H locs) (hA : ∀ q : Nat, s.heap.size ≤ q → A q)
    (isC isR : List Nat) (hC : isC.map (fun i => ws[i]?) = wc.map some) (hcn : va_nd isC = true) (hR : isR.map (fun i => ws[i]?) = wr.map some) (hn : va_nd isR = true) (hdis : ∀ i ∈ isR, i ∉ isC) (q0 : Nat) {ci N : Nat} {T : u_T} {fs : List Value} (hc0 : cl[ci]? = some (C, T, N)) (he0 : wc[q0]? = some (b, .inr (ci, fs))) 
    (hl : As.length = n) (hsz : ls.size = nL) (hst : st = As.reverse ++ .ref b :: rest) (hW : (rest.map fun v => v.category).sum ≤ 8) (hd : decode cc pc = .ok (.invokevirtual index, 3)) (hf : cells + rm.cells ≤ R.cells ∧ slots + rm.slots ≤ R.slots) (hc1 : cells + rm.cells ≤ c1) (hs1 : slots + rm.slots ≤ s1)
    (kk : ∀ (r : Int64) (u : S) (H1 : Heap) (locs1 : List Loc), post r u → va_P D cl (wr ++ ws' u) H1 → va_D A (wr ++ ws' u) → va_S A s.heap H1 locs1 → W p l e R s m args below meth c H1 locs1 c1 s1 Q (F0 m (pc + 3) ls (.long r :: rest))) : W p l e R s m args below meth c H locs cells slots Q (F0 m pc ls st) := by
  subst hst
  have hPc : va_P D cl wc H := hP.sub isC (by have h9 := congrArg (List.filterMap id) hC; simpa [List.filterMap_map] using h9)
  have hDc : va_D A wc := hD.sub isC hcn hC
  have hFc := va_free (wc := wc) hD hS hA isC hC
  refine va_calll (va_runV (As := As) (rest := rest) F (hM H.size) cw ⟨wPre_blind, va_recv hK hPc (ci := ci) (q0 := q0) hc0 he0, fun U hU hW => ⟨rfl, by rw [hU], by rw [hU]; exact hPc, va_K.moved hW.alike hK, hDc.weaken (fun _ _ _ _ => trivial)⟩⟩ rfl hl hsz rfl (lv_room hW) hd hf) hS (fun q _ h => hFc q h) hFc (fun r u t H1 locs1 ht hvm hw hB hz1 hk1 hS => ?_)
  obtain ⟨hP1, hK1, hD1⟩ := hB
  rw [ht] at hP1
  obtain ⟨hP, hD⟩ := va_join (wr := wr) hP hD isC isR hC hR hn hdis hk1 hFc hP1 hD1
  exact W.widen (k := c1) (n := s1) hc1 hs1 (kk r u H1 locs1 hw hP hD hS)
theorem ca_lS {p : Program} {l : Launch} {e : Env} {R : Room} {s : State} {m : MethodId} {args : Array Value} {below : List Frame} {meth : Method} {c : Code} {H : Heap} {locs : List Loc} {cells slots : Nat} {Q : State → Prop} {cc : ByteArray} {pc nL index n maxL : Nat} {ls : Array Slot} {D : va_G} {cl : List vw_C} {A : Nat → Prop} {tys : List (ClassId × FieldType)} {ws wc : va_W} {y : MethodName} {bytes : ByteArray} {ret : Option FieldType} {wd Ts : List Cond} {rm : Room} {own : String} {S : Type} {post : Int64 → S → Prop} {ws' : S → va_W} {st : List Value}
    (As rest : List Value) (wr : va_W) (c1 s1 : Nat) (F : CallFix p m c cc nL s args Ts own) (hM : Cl l D cl tys y wd rm As wc S post ws') (cw : CallB R s args own index y bytes maxL ret wd rm rm.cells rm.slots n ∧ (Cond.static y).before args s = true) (hK : va_K D cl tys s) (hP : va_P D cl ws H) (hD : va_D A ws) (hS : va_S A s.heap H locs) (hA : ∀ q : Nat, s.heap.size ≤ q → A q)
    (isC isR : List Nat) (hC : isC.map (fun i => ws[i]?) = wc.map some) (hcn : va_nd isC = true) (hR : isR.map (fun i => ws[i]?) = wr.map some) (hn : va_nd isR = true) (hdis : ∀ i ∈ isR, i ∉ isC) 
    (hl : As.length = n) (hsz : ls.size = nL) (hst : st = As.reverse ++ rest) (hW : (rest.map fun v => v.category).sum ≤ 8) (hd : decode cc pc = .ok (.invokestatic index, 3)) (hf : cells + rm.cells ≤ R.cells ∧ slots + rm.slots ≤ R.slots) (hc1 : cells + rm.cells ≤ c1) (hs1 : slots + rm.slots ≤ s1)
    (kk : ∀ (r : Int64) (u : S) (H1 : Heap) (locs1 : List Loc), post r u → va_P D cl (wr ++ ws' u) H1 → va_D A (wr ++ ws' u) → va_S A s.heap H1 locs1 → W p l e R s m args below meth c H1 locs1 c1 s1 Q (F0 m (pc + 3) ls (.long r :: rest))) : W p l e R s m args below meth c H locs cells slots Q (F0 m pc ls st) := by
  subst hst
  have hPc : va_P D cl wc H := hP.sub isC (by have h9 := congrArg (List.filterMap id) hC; simpa [List.filterMap_map] using h9)
  have hDc : va_D A wc := hD.sub isC hcn hC
  have hFc := va_free (wc := wc) hD hS hA isC hC
  refine va_calll (va_runS (As := As) (rest := rest) F (hM H.size) cw ⟨wPre_blind, fun U hU hW => ⟨rfl, by rw [hU], by rw [hU]; exact hPc, va_K.moved hW.alike hK, hDc.weaken (fun _ _ _ _ => trivial)⟩⟩ rfl hl hsz rfl (lv_room hW) hd hf) hS (fun q _ h => hFc q h) hFc (fun r u t H1 locs1 ht hvm hw hB hz1 hk1 hS => ?_)
  obtain ⟨hP1, hK1, hD1⟩ := hB
  rw [ht] at hP1
  obtain ⟨hP, hD⟩ := va_join (wr := wr) hP hD isC isR hC hR hn hdis hk1 hFc hP1 hD1
  exact W.widen (k := c1) (n := s1) hc1 hs1 (kk r u H1 locs1 hw hP hD hS)
theorem ca_vV {p : Program} {l : Launch} {e : Env} {R : Room} {s : State} {m : MethodId} {args : Array Value} {below : List Frame} {meth : Method} {c : Code} {H : Heap} {locs : List Loc} {cells slots : Nat} {Q : State → Prop} {cc : ByteArray} {pc nL index n maxL : Nat} {ls : Array Slot} {D : va_G} {cl : List vw_C} {A : Nat → Prop} {tys : List (ClassId × FieldType)} {ws wc : va_W} {y : MethodName} {bytes : ByteArray} {ret : Option FieldType} {wd Ts : List Cond} {rm : Room} {own C : String} {b : Nat} {S : Type} {post : S → Prop} {ws' : S → va_W} {st : List Value}
    (As rest : List Value) (wr : va_W) (c1 s1 : Nat) (F : CallFix p m c cc nL s args Ts own) (hM : Cv l D cl tys y wd rm (.ref b :: As) wc S post ws') (cw : CallW R s args own C index y bytes maxL ret wd rm rm.cells rm.slots n) (hK : va_K D cl tys s) (hP : va_P D cl ws H) (hD : va_D A ws) (hS : va_S A s.heap H locs) (hA : ∀ q : Nat, s.heap.size ≤ q → A q)
    (isC isR : List Nat) (hC : isC.map (fun i => ws[i]?) = wc.map some) (hcn : va_nd isC = true) (hR : isR.map (fun i => ws[i]?) = wr.map some) (hn : va_nd isR = true) (hdis : ∀ i ∈ isR, i ∉ isC) (q0 : Nat) {ci N : Nat} {T : u_T} {fs : List Value} (hc0 : cl[ci]? = some (C, T, N)) (he0 : wc[q0]? = some (b, .inr (ci, fs))) 
    (hl : As.length = n) (hsz : ls.size = nL) (hst : st = As.reverse ++ .ref b :: rest) (hW : (rest.map fun v => v.category).sum ≤ 8) (hd : decode cc pc = .ok (.invokevirtual index, 3)) (hf : cells + rm.cells ≤ R.cells ∧ slots + rm.slots ≤ R.slots) (hc1 : cells + rm.cells ≤ c1) (hs1 : slots + rm.slots ≤ s1)
    (kk : ∀ (u : S) (H1 : Heap) (locs1 : List Loc), post u → va_P D cl (wr ++ ws' u) H1 → va_D A (wr ++ ws' u) → va_S A s.heap H1 locs1 → W p l e R s m args below meth c H1 locs1 c1 s1 Q (F0 m (pc + 3) ls (rest))) : W p l e R s m args below meth c H locs cells slots Q (F0 m pc ls st) := by
  subst hst
  have hPc : va_P D cl wc H := hP.sub isC (by have h9 := congrArg (List.filterMap id) hC; simpa [List.filterMap_map] using h9)
  have hDc : va_D A wc := hD.sub isC hcn hC
  have hFc := va_free (wc := wc) hD hS hA isC hC
  refine va_callv (va_runV (As := As) (rest := rest) F (hM H.size) cw ⟨wPre_blind, va_recv hK hPc (ci := ci) (q0 := q0) hc0 he0, fun U hU hW => ⟨rfl, by rw [hU], by rw [hU]; exact hPc, va_K.moved hW.alike hK, hDc.weaken (fun _ _ _ _ => trivial)⟩⟩ rfl hl hsz rfl (lv_room hW) hd hf) hS (fun q _ h => hFc q h) hFc (fun u t H1 locs1 ht hvm hw hB hz1 hk1 hS => ?_)
  obtain ⟨hP1, hK1, hD1⟩ := hB
  rw [ht] at hP1
  obtain ⟨hP, hD⟩ := va_join (wr := wr) hP hD isC isR hC hR hn hdis hk1 hFc hP1 hD1
  exact W.widen (k := c1) (n := s1) hc1 hs1 (kk u H1 locs1 hw hP hD hS)
theorem ca_vS {p : Program} {l : Launch} {e : Env} {R : Room} {s : State} {m : MethodId} {args : Array Value} {below : List Frame} {meth : Method} {c : Code} {H : Heap} {locs : List Loc} {cells slots : Nat} {Q : State → Prop} {cc : ByteArray} {pc nL index n maxL : Nat} {ls : Array Slot} {D : va_G} {cl : List vw_C} {A : Nat → Prop} {tys : List (ClassId × FieldType)} {ws wc : va_W} {y : MethodName} {bytes : ByteArray} {ret : Option FieldType} {wd Ts : List Cond} {rm : Room} {own : String} {S : Type} {post : S → Prop} {ws' : S → va_W} {st : List Value}
    (As rest : List Value) (wr : va_W) (c1 s1 : Nat) (F : CallFix p m c cc nL s args Ts own) (hM : Cv l D cl tys y wd rm As wc S post ws') (cw : CallB R s args own index y bytes maxL ret wd rm rm.cells rm.slots n ∧ (Cond.static y).before args s = true) (hK : va_K D cl tys s) (hP : va_P D cl ws H) (hD : va_D A ws) (hS : va_S A s.heap H locs) (hA : ∀ q : Nat, s.heap.size ≤ q → A q)
    (isC isR : List Nat) (hC : isC.map (fun i => ws[i]?) = wc.map some) (hcn : va_nd isC = true) (hR : isR.map (fun i => ws[i]?) = wr.map some) (hn : va_nd isR = true) (hdis : ∀ i ∈ isR, i ∉ isC) 
    (hl : As.length = n) (hsz : ls.size = nL) (hst : st = As.reverse ++ rest) (hW : (rest.map fun v => v.category).sum ≤ 8) (hd : decode cc pc = .ok (.invokestatic index, 3)) (hf : cells + rm.cells ≤ R.cells ∧ slots + rm.slots ≤ R.slots) (hc1 : cells + rm.cells ≤ c1) (hs1 : slots + rm.slots ≤ s1)
    (kk : ∀ (u : S) (H1 : Heap) (locs1 : List Loc), post u → va_P D cl (wr ++ ws' u) H1 → va_D A (wr ++ ws' u) → va_S A s.heap H1 locs1 → W p l e R s m args below meth c H1 locs1 c1 s1 Q (F0 m (pc + 3) ls (rest))) : W p l e R s m args below meth c H locs cells slots Q (F0 m pc ls st) := by
  subst hst
  have hPc : va_P D cl wc H := hP.sub isC (by have h9 := congrArg (List.filterMap id) hC; simpa [List.filterMap_map] using h9)
  have hDc : va_D A wc := hD.sub isC hcn hC
  have hFc := va_free (wc := wc) hD hS hA isC hC
  refine va_callv (va_runS (As := As) (rest := rest) F (hM H.size) cw ⟨wPre_blind, fun U hU hW => ⟨rfl, by rw [hU], by rw [hU]; exact hPc, va_K.moved hW.alike hK, hDc.weaken (fun _ _ _ _ => trivial)⟩⟩ rfl hl hsz rfl (lv_room hW) hd hf) hS (fun q _ h => hFc q h) hFc (fun u t H1 locs1 ht hvm hw hB hz1 hk1 hS => ?_)
  obtain ⟨hP1, hK1, hD1⟩ := hB
  rw [ht] at hP1
  obtain ⟨hP, hD⟩ := va_join (wr := wr) hP hD isC isR hC hR hn hdis hk1 hFc hP1 hD1
  exact W.widen (k := c1) (n := s1) hc1 hs1 (kk u H1 locs1 hw hP hD hS)
theorem ca_vI {p : Program} {l : Launch} {e : Env} {R : Room} {s : State} {m : MethodId} {args : Array Value} {below : List Frame} {meth : Method} {c : Code} {H : Heap} {locs : List Loc} {cells slots : Nat} {Q : State → Prop} {cc : ByteArray} {pc nL index n maxL : Nat} {ls : Array Slot} {D : va_G} {cl : List vw_C} {A : Nat → Prop} {tys : List (ClassId × FieldType)} {ws wc : va_W} {y : MethodName} {bytes : ByteArray} {ret : Option FieldType} {wd Ts : List Cond} {rm : Room} {own : String} {b : Nat} {S : Type} {post : S → Prop} {ws' : S → va_W} {st : List Value}
    (As rest : List Value) (wr : va_W) (c1 s1 : Nat) (F : CallFix p m c cc nL s args Ts own) (hM : Cv l D cl tys y wd rm (.ref b :: As) wc S post ws') (cw : CallB R s args own index y bytes maxL none wd rm rm.cells rm.slots n ∧ y.name = "<init>" ∧ (Cond.instanceMethod y).before args s = true) (hK : va_K D cl tys s) (hP : va_P D cl ws H) (hD : va_D A ws) (hS : va_S A s.heap H locs) (hA : ∀ q : Nat, s.heap.size ≤ q → A q)
    (isC isR : List Nat) (hC : isC.map (fun i => ws[i]?) = wc.map some) (hcn : va_nd isC = true) (hR : isR.map (fun i => ws[i]?) = wr.map some) (hn : va_nd isR = true) (hdis : ∀ i ∈ isR, i ∉ isC) 
    (hl : As.length = n) (hsz : ls.size = nL) (hst : st = As.reverse ++ .ref b :: rest) (hW : (rest.map fun v => v.category).sum ≤ 8) (hd : decode cc pc = .ok (.invokespecial index, 3)) (hf : cells + rm.cells ≤ R.cells ∧ slots + rm.slots ≤ R.slots) (hc1 : cells + rm.cells ≤ c1) (hs1 : slots + rm.slots ≤ s1)
    (kk : ∀ (u : S) (H1 : Heap) (locs1 : List Loc), post u → va_P D cl (wr ++ ws' u) H1 → va_D A (wr ++ ws' u) → va_S A s.heap H1 locs1 → W p l e R s m args below meth c H1 locs1 c1 s1 Q (F0 m (pc + 3) ls (rest))) : W p l e R s m args below meth c H locs cells slots Q (F0 m pc ls st) := by
  subst hst
  have hPc : va_P D cl wc H := hP.sub isC (by have h9 := congrArg (List.filterMap id) hC; simpa [List.filterMap_map] using h9)
  have hDc : va_D A wc := hD.sub isC hcn hC
  have hFc := va_free (wc := wc) hD hS hA isC hC
  refine va_callv (va_runI (As := As) (rest := rest) F (hM H.size) cw ⟨wPre_blind, fun U hU hW => ⟨rfl, by rw [hU], by rw [hU]; exact hPc, va_K.moved hW.alike hK, hDc.weaken (fun _ _ _ _ => trivial)⟩⟩ rfl hl hsz rfl (lv_room hW) hd hf) hS (fun q _ h => hFc q h) hFc (fun u t H1 locs1 ht hvm hw hB hz1 hk1 hS => ?_)
  obtain ⟨hP1, hK1, hD1⟩ := hB
  rw [ht] at hP1
  obtain ⟨hP, hD⟩ := va_join (wr := wr) hP hD isC isR hC hR hn hdis hk1 hFc hP1 hD1
  exact W.widen (k := c1) (n := s1) hc1 hs1 (kk u H1 locs1 hw hP hD hS)
end
section
/-! ===== BEGIN printed: names, fields, word lists, decode rows ===== -/
def RX0 : String := "BoundDraws$Compares"
def TX0 : u_T := fun k => match k with
  | 0 => ("BoundDraws$Compares", "ups", "[I", true)
  | 1 => ("BoundDraws$Compares", "downs", "[I", true)
  | _ => ("BoundDraws$Compares", "used", "I", false)
def tyX0 : Nat → FieldType := fun k => match k with
  | 0 => .array .int
  | 1 => .array .int
  | _ => .int
abbrev wsX00 : List Cond := u_ws RX0 TX0 3
theorem nmX0 : ∀ a, a < 3 → ∀ b, b < 3 → a ≠ b → (TX0 a).2.1 ≠ (TX0 b).2.1 := by decide +kernel
theorem tyX0_ok : ∀ k, k < 3 → parseFieldDescriptor (TX0 k).2.2.1 = some (tyX0 k) := by decide +kernel
abbrev cX0_init : ByteArray := prog_2_method_1_code
def yX0_init : MethodName := ⟨RX0, "<init>", "()V"⟩
abbrev cX0_size : ByteArray := prog_2_method_2_code
def yX0_size : MethodName := ⟨RX0, "size", "()I"⟩
abbrev cX0_isFull : ByteArray := prog_2_method_3_code
def yX0_isFull : MethodName := ⟨RX0, "isFull", "()Z"⟩
abbrev cX0_add : ByteArray := prog_2_method_4_code
def yX0_add : MethodName := ⟨RX0, "add", "(II)V"⟩
abbrev cX0_empty : ByteArray := prog_2_method_5_code
def yX0_empty : MethodName := ⟨RX0, "empty", "()V"⟩
abbrev cX0_raise : ByteArray := prog_2_method_6_code
def yX0_raise : MethodName := ⟨RX0, "raise", "(IILBoundDraws$Ratio;)V"⟩
abbrev cX0_raiseByGreatest : ByteArray := prog_2_method_7_code
def yX0_raiseByGreatest : MethodName := ⟨RX0, "raiseByGreatest", "(ILBoundDraws$Ratio;)V"⟩
abbrev cX0_raiseByLeast : ByteArray := prog_2_method_8_code
def yX0_raiseByLeast : MethodName := ⟨RX0, "raiseByLeast", "(ILBoundDraws$Ratio;)V"⟩
abbrev cX0_placeOf : ByteArray := prog_2_method_9_code
def yX0_placeOf : MethodName := ⟨RX0, "placeOf", "(I)I"⟩
abbrev cX0_standsAhead : ByteArray := prog_2_method_10_code
def yX0_standsAhead : MethodName := ⟨RX0, "standsAhead", "(II)Z"⟩
def RX1 : String := "BoundDraws$Hits"
def TX1 : u_T := fun k => match k with
  | 0 => ("BoundDraws$Hits", "sum", "LBoundDraws$Wide;", true)
  | 1 => ("BoundDraws$Hits", "power", "LBoundDraws$Wide;", true)
  | _ => ("BoundDraws$Hits", "measure", "LBoundDraws$Wide;", true)
def tyX1 : Nat → FieldType := fun k => match k with
  | 0 => .object "BoundDraws$Wide"
  | 1 => .object "BoundDraws$Wide"
  | _ => .object "BoundDraws$Wide"
abbrev wsX10 : List Cond := u_ws RX1 TX1 3
theorem nmX1 : ∀ a, a < 3 → ∀ b, b < 3 → a ≠ b → (TX1 a).2.1 ≠ (TX1 b).2.1 := by decide +kernel
theorem tyX1_ok : ∀ k, k < 3 → parseFieldDescriptor (TX1 k).2.2.1 = some (tyX1 k) := by decide +kernel
abbrev cX1_init : ByteArray := prog_3_method_1_code
def yX1_init : MethodName := ⟨RX1, "<init>", "()V"⟩
abbrev cX1_limbOfAbove : ByteArray := prog_3_method_2_code
def yX1_limbOfAbove : MethodName := ⟨RX1, "limbOfAbove", "(IIIIII)J"⟩
abbrev cX1_oddsAgainst : ByteArray := prog_3_method_3_code
def yX1_oddsAgainst : MethodName := ⟨RX1, "oddsAgainst", "(IIIIIII)I"⟩
abbrev cX1_upper : ByteArray := prog_3_method_4_code
def yX1_upper : MethodName := ⟨RX1, "upper", "(IIII)I"⟩
abbrev cX1_lower : ByteArray := prog_3_method_5_code
def yX1_lower : MethodName := ⟨RX1, "lower", "(IIII)I"⟩
abbrev cX1_sumUp : ByteArray := prog_3_method_6_code
def yX1_sumUp : MethodName := ⟨RX1, "sumUp", "(IIIII)V"⟩
abbrev cX1_sumOfAtLeast : ByteArray := prog_3_method_7_code
def yX1_sumOfAtLeast : MethodName := ⟨RX1, "sumOfAtLeast", "(IIII)V"⟩
def RX2 : String := "BoundDraws$Means"
def TX2 : u_T := fun k => match k with
  | 0 => ("BoundDraws$Means", "uppers", "[J", true)
  | 1 => ("BoundDraws$Means", "lowers", "[J", true)
  | 2 => ("BoundDraws$Means", "mean", "LBoundDraws$Ratio;", true)
  | _ => ("BoundDraws$Means", "used", "I", false)
def tyX2 : Nat → FieldType := fun k => match k with
  | 0 => .array .long
  | 1 => .array .long
  | 2 => .object "BoundDraws$Ratio"
  | _ => .int
abbrev wsX20 : List Cond := u_ws RX2 TX2 4
theorem nmX2 : ∀ a, a < 4 → ∀ b, b < 4 → a ≠ b → (TX2 a).2.1 ≠ (TX2 b).2.1 := by decide +kernel
theorem tyX2_ok : ∀ k, k < 4 → parseFieldDescriptor (TX2 k).2.2.1 = some (tyX2 k) := by decide +kernel
abbrev cX2_init : ByteArray := prog_4_method_1_code
def yX2_init : MethodName := ⟨RX2, "<init>", "()V"⟩
abbrev cX2_size : ByteArray := prog_4_method_2_code
def yX2_size : MethodName := ⟨RX2, "size", "()I"⟩
abbrev cX2_empty : ByteArray := prog_4_method_3_code
def yX2_empty : MethodName := ⟨RX2, "empty", "()V"⟩
abbrev cX2_drawAnew : ByteArray := prog_4_method_4_code
def yX2_drawAnew : MethodName := ⟨RX2, "drawAnew", "(JILBoundDraws$Units;)V"⟩
abbrev cX2_insertMean : ByteArray := prog_4_method_5_code
def yX2_insertMean : MethodName := ⟨RX2, "insertMean", "()V"⟩
abbrev cX2_told : ByteArray := prog_4_method_6_code
def yX2_told : MethodName := ⟨RX2, "told", "(II)J"⟩
abbrev cX2_aboveZero : ByteArray := prog_4_method_7_code
def yX2_aboveZero : MethodName := ⟨RX2, "aboveZero", "()I"⟩
def RX3 : String := "BoundDraws$Numbers"
def TX3 : u_T := fun k => match k with
  | _ => ("", "", "", false)
def tyX3 : Nat → FieldType := fun k => match k with
  | _ => .int
abbrev wsX30 : List Cond := u_ws RX3 TX3 0
theorem nmX3 : ∀ a, a < 0 → ∀ b, b < 0 → a ≠ b → (TX3 a).2.1 ≠ (TX3 b).2.1 := by decide +kernel
theorem tyX3_ok : ∀ k, k < 0 → parseFieldDescriptor (TX3 k).2.2.1 = some (tyX3 k) := by decide +kernel
abbrev cX3_within : ByteArray := prog_5_method_2_code
def yX3_within : MethodName := ⟨RX3, "within", "(III)Z"⟩
abbrev cX3_setsOutOf : ByteArray := prog_5_method_3_code
def yX3_setsOutOf : MethodName := ⟨RX3, "setsOutOf", "(II)J"⟩
abbrev cX3_commonDivisor : ByteArray := prog_5_method_4_code
def yX3_commonDivisor : MethodName := ⟨RX3, "commonDivisor", "(JJ)J"⟩
def RX4 : String := "BoundDraws$Ratio"
def TX4 : u_T := fun k => match k with
  | 0 => ("BoundDraws$Ratio", "upper", "J", false)
  | _ => ("BoundDraws$Ratio", "lower", "J", false)
def tyX4 : Nat → FieldType := fun k => match k with
  | 0 => .long
  | _ => .long
abbrev wsX40 : List Cond := u_ws RX4 TX4 2
theorem nmX4 : ∀ a, a < 2 → ∀ b, b < 2 → a ≠ b → (TX4 a).2.1 ≠ (TX4 b).2.1 := by decide +kernel
theorem tyX4_ok : ∀ k, k < 2 → parseFieldDescriptor (TX4 k).2.2.1 = some (tyX4 k) := by decide +kernel
abbrev cX4_init : ByteArray := prog_6_method_1_code
def yX4_init : MethodName := ⟨RX4, "<init>", "()V"⟩
abbrev cX4_become : ByteArray := prog_6_method_2_code
def yX4_become : MethodName := ⟨RX4, "become", "(JJ)V"⟩
abbrev cX4_isAbove : ByteArray := prog_6_method_3_code
def yX4_isAbove : MethodName := ⟨RX4, "isAbove", "(JJ)Z"⟩
abbrev cX4_isBelow : ByteArray := prog_6_method_4_code
def yX4_isBelow : MethodName := ⟨RX4, "isBelow", "(JJ)Z"⟩
abbrev cX4_capAtOne : ByteArray := prog_6_method_5_code
def yX4_capAtOne : MethodName := ⟨RX4, "capAtOne", "()V"⟩
abbrev cX4_told : ByteArray := prog_6_method_6_code
def yX4_told : MethodName := ⟨RX4, "told", "(I)J"⟩
def RX5 : String := "BoundDraws$Rows"
def TX5 : u_T := fun k => match k with
  | 0 => ("BoundDraws$Rows", "groups", "[I", true)
  | 1 => ("BoundDraws$Rows", "xs", "[I", true)
  | 2 => ("BoundDraws$Rows", "ys", "[I", true)
  | _ => ("BoundDraws$Rows", "used", "I", false)
def tyX5 : Nat → FieldType := fun k => match k with
  | 0 => .array .int
  | 1 => .array .int
  | 2 => .array .int
  | _ => .int
abbrev wsX50 : List Cond := u_ws RX5 TX5 4
theorem nmX5 : ∀ a, a < 4 → ∀ b, b < 4 → a ≠ b → (TX5 a).2.1 ≠ (TX5 b).2.1 := by decide +kernel
theorem tyX5_ok : ∀ k, k < 4 → parseFieldDescriptor (TX5 k).2.2.1 = some (tyX5 k) := by decide +kernel
abbrev cX5_init : ByteArray := prog_7_method_1_code
def yX5_init : MethodName := ⟨RX5, "<init>", "()V"⟩
abbrev cX5_size : ByteArray := prog_7_method_2_code
def yX5_size : MethodName := ⟨RX5, "size", "()I"⟩
abbrev cX5_isFull : ByteArray := prog_7_method_3_code
def yX5_isFull : MethodName := ⟨RX5, "isFull", "()Z"⟩
abbrev cX5_add : ByteArray := prog_7_method_4_code
def yX5_add : MethodName := ⟨RX5, "add", "(III)V"⟩
abbrev cX5_removeLast : ByteArray := prog_7_method_5_code
def yX5_removeLast : MethodName := ⟨RX5, "removeLast", "()V"⟩
abbrev cX5_empty : ByteArray := prog_7_method_6_code
def yX5_empty : MethodName := ⟨RX5, "empty", "()V"⟩
abbrev cX5_difference : ByteArray := prog_7_method_7_code
def yX5_difference : MethodName := ⟨RX5, "difference", "(I)I"⟩
abbrev cX5_sizeOfGroup : ByteArray := prog_7_method_8_code
def yX5_sizeOfGroup : MethodName := ⟨RX5, "sizeOfGroup", "(I)I"⟩
abbrev cX5_differenceOfGroup : ByteArray := prog_7_method_9_code
def yX5_differenceOfGroup : MethodName := ⟨RX5, "differenceOfGroup", "(I)I"⟩
abbrev cX5_groupsWithRows : ByteArray := prog_7_method_10_code
def yX5_groupsWithRows : MethodName := ⟨RX5, "groupsWithRows", "()I"⟩
abbrev cX5_winsBy : ByteArray := prog_7_method_11_code
def yX5_winsBy : MethodName := ⟨RX5, "winsBy", "(I)I"⟩
abbrev cX5_lossesBy : ByteArray := prog_7_method_12_code
def yX5_lossesBy : MethodName := ⟨RX5, "lossesBy", "(I)I"⟩
abbrev cX5_reachedAlone : ByteArray := prog_7_method_13_code
def yX5_reachedAlone : MethodName := ⟨RX5, "reachedAlone", "([I[II)I"⟩
def RX6 : String := "BoundDraws$Trial"
def TX6 : u_T := fun k => match k with
  | 0 => ("BoundDraws$Trial", "ofAll", "LBoundDraws$Wide;", true)
  | 1 => ("BoundDraws$Trial", "ofThese", "LBoundDraws$Wide;", true)
  | 2 => ("BoundDraws$Trial", "on", "Z", false)
  | 3 => ("BoundDraws$Trial", "up", "I", false)
  | 4 => ("BoundDraws$Trial", "down", "I", false)
  | 5 => ("BoundDraws$Trial", "a", "I", false)
  | 6 => ("BoundDraws$Trial", "b", "I", false)
  | 7 => ("BoundDraws$Trial", "tries", "I", false)
  | 8 => ("BoundDraws$Trial", "hits", "I", false)
  | _ => ("BoundDraws$Trial", "rejectedBehind", "I", false)
def tyX6 : Nat → FieldType := fun k => match k with
  | 0 => .object "BoundDraws$Wide"
  | 1 => .object "BoundDraws$Wide"
  | 2 => .boolean
  | 3 => .int
  | 4 => .int
  | 5 => .int
  | 6 => .int
  | 7 => .int
  | 8 => .int
  | _ => .int
abbrev wsX60 : List Cond := u_ws RX6 TX6 10
theorem nmX6 : ∀ a, a < 10 → ∀ b, b < 10 → a ≠ b → (TX6 a).2.1 ≠ (TX6 b).2.1 := by decide +kernel
theorem tyX6_ok : ∀ k, k < 10 → parseFieldDescriptor (TX6 k).2.2.1 = some (tyX6 k) := by decide +kernel
abbrev cX6_init : ByteArray := prog_8_method_1_code
def yX6_init : MethodName := ⟨RX6, "<init>", "()V"⟩
abbrev cX6_start : ByteArray := prog_8_method_2_code
def yX6_start : MethodName := ⟨RX6, "start", "(IIII)V"⟩
abbrev cX6_stop : ByteArray := prog_8_method_3_code
def yX6_stop : MethodName := ⟨RX6, "stop", "()V"⟩
abbrev cX6_isOn : ByteArray := prog_8_method_4_code
def yX6_isOn : MethodName := ⟨RX6, "isOn", "()Z"⟩
abbrev cX6_isFull : ByteArray := prog_8_method_5_code
def yX6_isFull : MethodName := ⟨RX6, "isFull", "()Z"⟩
abbrev cX6_take : ByteArray := prog_8_method_6_code
def yX6_take : MethodName := ⟨RX6, "take", "(Z)V"⟩
abbrev cX6_tries : ByteArray := prog_8_method_7_code
def yX6_tries : MethodName := ⟨RX6, "tries", "()I"⟩
abbrev cX6_hits : ByteArray := prog_8_method_8_code
def yX6_hits : MethodName := ⟨RX6, "hits", "()I"⟩
abbrev cX6_rejectedBehind : ByteArray := prog_8_method_9_code
def yX6_rejectedBehind : MethodName := ⟨RX6, "rejectedBehind", "()I"⟩
abbrev cX6_isRich : ByteArray := prog_8_method_10_code
def yX6_isRich : MethodName := ⟨RX6, "isRich", "()Z"⟩
def RX7 : String := "BoundDraws$Turns"
def TX7 : u_T := fun k => match k with
  | 0 => ("BoundDraws$Turns", "waysByMinus", "[J", true)
  | 1 => ("BoundDraws$Turns", "signs", "I", false)
  | 2 => ("BoundDraws$Turns", "rises", "I", false)
  | _ => ("BoundDraws$Turns", "falls", "I", false)
def tyX7 : Nat → FieldType := fun k => match k with
  | 0 => .array .long
  | 1 => .int
  | 2 => .int
  | _ => .int
abbrev wsX70 : List Cond := u_ws RX7 TX7 4
theorem nmX7 : ∀ a, a < 4 → ∀ b, b < 4 → a ≠ b → (TX7 a).2.1 ≠ (TX7 b).2.1 := by decide +kernel
theorem tyX7_ok : ∀ k, k < 4 → parseFieldDescriptor (TX7 k).2.2.1 = some (tyX7 k) := by decide +kernel
abbrev cX7_init : ByteArray := prog_9_method_1_code
def yX7_init : MethodName := ⟨RX7, "<init>", "()V"⟩
abbrev cX7_take : ByteArray := prog_9_method_2_code
def yX7_take : MethodName := ⟨RX7, "take", "(LBoundDraws$Units;)V"⟩
abbrev cX7_measure : ByteArray := prog_9_method_3_code
def yX7_measure : MethodName := ⟨RX7, "measure", "(LBoundDraws$Units;)V"⟩
abbrev cX7_reach : ByteArray := prog_9_method_4_code
def yX7_reach : MethodName := ⟨RX7, "reach", "()I"⟩
abbrev cX7_takeSign : ByteArray := prog_9_method_5_code
def yX7_takeSign : MethodName := ⟨RX7, "takeSign", "(II)V"⟩
abbrev cX7_signs : ByteArray := prog_9_method_6_code
def yX7_signs : MethodName := ⟨RX7, "signs", "()I"⟩
abbrev cX7_waysAtLeast : ByteArray := prog_9_method_7_code
def yX7_waysAtLeast : MethodName := ⟨RX7, "waysAtLeast", "()J"⟩
abbrev cX7_waysAsFar : ByteArray := prog_9_method_8_code
def yX7_waysAsFar : MethodName := ⟨RX7, "waysAsFar", "()J"⟩
abbrev cX7_allWays : ByteArray := prog_9_method_9_code
def yX7_allWays : MethodName := ⟨RX7, "allWays", "()J"⟩
abbrev cX7_waysUpTo : ByteArray := prog_9_method_10_code
def yX7_waysUpTo : MethodName := ⟨RX7, "waysUpTo", "(I)J"⟩
def RX8 : String := "BoundDraws$Units"
def TX8 : u_T := fun k => match k with
  | 0 => ("BoundDraws$Units", "differences", "[I", true)
  | 1 => ("BoundDraws$Units", "sizes", "[I", true)
  | _ => ("BoundDraws$Units", "used", "I", false)
def tyX8 : Nat → FieldType := fun k => match k with
  | 0 => .array .int
  | 1 => .array .int
  | _ => .int
abbrev wsX80 : List Cond := u_ws RX8 TX8 3
theorem nmX8 : ∀ a, a < 3 → ∀ b, b < 3 → a ≠ b → (TX8 a).2.1 ≠ (TX8 b).2.1 := by decide +kernel
theorem tyX8_ok : ∀ k, k < 3 → parseFieldDescriptor (TX8 k).2.2.1 = some (tyX8 k) := by decide +kernel
abbrev cX8_init : ByteArray := prog_10_method_1_code
def yX8_init : MethodName := ⟨RX8, "<init>", "()V"⟩
abbrev cX8_take : ByteArray := prog_10_method_2_code
def yX8_take : MethodName := ⟨RX8, "take", "(LBoundDraws$Rows;Z)V"⟩
abbrev cX8_takeRows : ByteArray := prog_10_method_3_code
def yX8_takeRows : MethodName := ⟨RX8, "takeRows", "(LBoundDraws$Rows;)V"⟩
abbrev cX8_takeGroups : ByteArray := prog_10_method_4_code
def yX8_takeGroups : MethodName := ⟨RX8, "takeGroups", "(LBoundDraws$Rows;)V"⟩
abbrev cX8_add : ByteArray := prog_10_method_5_code
def yX8_add : MethodName := ⟨RX8, "add", "(II)V"⟩
abbrev cX8_size : ByteArray := prog_10_method_6_code
def yX8_size : MethodName := ⟨RX8, "size", "()I"⟩
abbrev cX8_difference : ByteArray := prog_10_method_7_code
def yX8_difference : MethodName := ⟨RX8, "difference", "(I)I"⟩
abbrev cX8_rowsOf : ByteArray := prog_10_method_8_code
def yX8_rowsOf : MethodName := ⟨RX8, "rowsOf", "(I)I"⟩
def RX9 : String := "BoundDraws$Wide"
def TX9 : u_T := fun k => match k with
  | 0 => ("BoundDraws$Wide", "limbs", "[J", true)
  | _ => ("BoundDraws$Wide", "used", "I", false)
def tyX9 : Nat → FieldType := fun k => match k with
  | 0 => .array .long
  | _ => .int
abbrev wsX90 : List Cond := u_ws RX9 TX9 2
theorem nmX9 : ∀ a, a < 2 → ∀ b, b < 2 → a ≠ b → (TX9 a).2.1 ≠ (TX9 b).2.1 := by decide +kernel
theorem tyX9_ok : ∀ k, k < 2 → parseFieldDescriptor (TX9 k).2.2.1 = some (tyX9 k) := by decide +kernel
abbrev cX9_init : ByteArray := prog_11_method_1_code
def yX9_init : MethodName := ⟨RX9, "<init>", "()V"⟩
abbrev cX9_become : ByteArray := prog_11_method_2_code
def yX9_become : MethodName := ⟨RX9, "become", "(J)V"⟩
abbrev cX9_multiply : ByteArray := prog_11_method_3_code
def yX9_multiply : MethodName := ⟨RX9, "multiply", "(J)V"⟩
abbrev cX9_multiplyOften : ByteArray := prog_11_method_4_code
def yX9_multiplyOften : MethodName := ⟨RX9, "multiplyOften", "(JI)V"⟩
abbrev cX9_addTimes : ByteArray := prog_11_method_5_code
def yX9_addTimes : MethodName := ⟨RX9, "addTimes", "(LBoundDraws$Wide;J)V"⟩
abbrev cX9_against : ByteArray := prog_11_method_6_code
def yX9_against : MethodName := ⟨RX9, "against", "(LBoundDraws$Wide;)I"⟩
abbrev cX9_limb : ByteArray := prog_11_method_7_code
def yX9_limb : MethodName := ⟨RX9, "limb", "(I)J"⟩
def RX10 : String := "BoundDraws"
def TX10 : u_T := fun k => match k with
  | 0 => ("BoundDraws", "hits", "LBoundDraws$Hits;", true)
  | 1 => ("BoundDraws", "rows", "LBoundDraws$Rows;", true)
  | 2 => ("BoundDraws", "units", "LBoundDraws$Units;", true)
  | 3 => ("BoundDraws", "turns", "LBoundDraws$Turns;", true)
  | 4 => ("BoundDraws", "means", "LBoundDraws$Means;", true)
  | 5 => ("BoundDraws", "compares", "LBoundDraws$Compares;", true)
  | 6 => ("BoundDraws", "trial", "LBoundDraws$Trial;", true)
  | _ => ("BoundDraws", "answer", "LBoundDraws$Ratio;", true)
def tyX10 : Nat → FieldType := fun k => match k with
  | 0 => .object "BoundDraws$Hits"
  | 1 => .object "BoundDraws$Rows"
  | 2 => .object "BoundDraws$Units"
  | 3 => .object "BoundDraws$Turns"
  | 4 => .object "BoundDraws$Means"
  | 5 => .object "BoundDraws$Compares"
  | 6 => .object "BoundDraws$Trial"
  | _ => .object "BoundDraws$Ratio"
abbrev wsX100 : List Cond := u_ws RX10 TX10 8
theorem nmX10 : ∀ a, a < 8 → ∀ b, b < 8 → a ≠ b → (TX10 a).2.1 ≠ (TX10 b).2.1 := by decide +kernel
theorem tyX10_ok : ∀ k, k < 8 → parseFieldDescriptor (TX10 k).2.2.1 = some (tyX10 k) := by decide +kernel
abbrev cX10_init : ByteArray := prog_1_method_1_code
def yX10_init : MethodName := ⟨RX10, "<init>", "()V"⟩
abbrev cX10_above : ByteArray := prog_1_method_2_code
def yX10_above : MethodName := ⟨RX10, "above", "(IIIIII)J"⟩
abbrev cX10_odds : ByteArray := prog_1_method_3_code
def yX10_odds : MethodName := ⟨RX10, "odds", "(IIIIIII)I"⟩
abbrev cX10_bound : ByteArray := prog_1_method_4_code
def yX10_bound : MethodName := ⟨RX10, "bound", "(IIIII)I"⟩
abbrev cX10_row : ByteArray := prog_1_method_5_code
def yX10_row : MethodName := ⟨RX10, "row", "(III)I"⟩
abbrev cX10_drop : ByteArray := prog_1_method_6_code
def yX10_drop : MethodName := ⟨RX10, "drop", "()I"⟩
abbrev cX10_turned : ByteArray := prog_1_method_7_code
def yX10_turned : MethodName := ⟨RX10, "turned", "(ZI)J"⟩
abbrev cX10_wins : ByteArray := prog_1_method_8_code
def yX10_wins : MethodName := ⟨RX10, "wins", "(II)I"⟩
abbrev cX10_even : ByteArray := prog_1_method_9_code
def yX10_even : MethodName := ⟨RX10, "even", "(II)J"⟩
abbrev cX10_draw : ByteArray := prog_1_method_10_code
def yX10_draw : MethodName := ⟨RX10, "draw", "(JIZ)I"⟩
abbrev cX10_drawn : ByteArray := prog_1_method_11_code
def yX10_drawn : MethodName := ⟨RX10, "drawn", "(II)J"⟩
abbrev cX10_percentile : ByteArray := prog_1_method_12_code
def yX10_percentile : MethodName := ⟨RX10, "percentile", "(III)J"⟩
abbrev cX10_share : ByteArray := prog_1_method_13_code
def yX10_share : MethodName := ⟨RX10, "share", "()I"⟩
abbrev cX10_compare : ByteArray := prog_1_method_14_code
def yX10_compare : MethodName := ⟨RX10, "compare", "(II)I"⟩
abbrev cX10_raised : ByteArray := prog_1_method_15_code
def yX10_raised : MethodName := ⟨RX10, "raised", "(III)J"⟩
abbrev cX10_forget : ByteArray := prog_1_method_16_code
def yX10_forget : MethodName := ⟨RX10, "forget", "()I"⟩
abbrev cX10_begin : ByteArray := prog_1_method_17_code
def yX10_begin : MethodName := ⟨RX10, "begin", "(IIII)I"⟩
abbrev cX10_hit : ByteArray := prog_1_method_18_code
def yX10_hit : MethodName := ⟨RX10, "hit", "(Z)I"⟩
abbrev cX10_test : ByteArray := prog_1_method_19_code
def yX10_test : MethodName := ⟨RX10, "test", "(I)I"⟩
abbrev cX10_count : ByteArray := prog_1_method_20_code
def yX10_count : MethodName := ⟨RX10, "count", "(I)I"⟩
abbrev cX10_clear : ByteArray := prog_1_method_21_code
def yX10_clear : MethodName := ⟨RX10, "clear", "()I"⟩
abbrev cX10_areHits : ByteArray := prog_1_method_22_code
def yX10_areHits : MethodName := ⟨RX10, "areHits", "(IIIII)Z"⟩
abbrev cX10_isSide : ByteArray := prog_1_method_23_code
def yX10_isSide : MethodName := ⟨RX10, "isSide", "(I)Z"⟩
abbrev cX10_isTrust : ByteArray := prog_1_method_24_code
def yX10_isTrust : MethodName := ⟨RX10, "isTrust", "(II)Z"⟩
abbrev cX10_takeOddsOf : ByteArray := prog_1_method_25_code
def yX10_takeOddsOf : MethodName := ⟨RX10, "takeOddsOf", "(II)V"⟩
def RX11 : String := "BoundDrawsModel"
def TX11 : u_T := fun k => match k with
  | 0 => ("BoundDrawsModel", "thrown", "I", false)
  | 1 => ("BoundDrawsModel", "sum", "[I", true)
  | 2 => ("BoundDrawsModel", "one", "[I", true)
  | 3 => ("BoundDrawsModel", "rows", "I", false)
  | 4 => ("BoundDrawsModel", "groupOf", "[I", true)
  | 5 => ("BoundDrawsModel", "xOf", "[I", true)
  | 6 => ("BoundDrawsModel", "yOf", "[I", true)
  | 7 => ("BoundDrawsModel", "units", "I", false)
  | 8 => ("BoundDrawsModel", "difference", "[I", true)
  | 9 => ("BoundDrawsModel", "size", "[I", true)
  | 10 => ("BoundDrawsModel", "ways", "[J", true)
  | 11 => ("BoundDrawsModel", "more", "[J", true)
  | 12 => ("BoundDrawsModel", "means", "I", false)
  | 13 => ("BoundDrawsModel", "above", "[I", true)
  | 14 => ("BoundDrawsModel", "below", "[I", true)
  | 15 => ("BoundDrawsModel", "compares", "I", false)
  | 16 => ("BoundDrawsModel", "upOf", "[I", true)
  | 17 => ("BoundDrawsModel", "downOf", "[I", true)
  | 18 => ("BoundDrawsModel", "hasTest", "Z", false)
  | 19 => ("BoundDrawsModel", "testUp", "I", false)
  | 20 => ("BoundDrawsModel", "testDown", "I", false)
  | 21 => ("BoundDrawsModel", "trustUp", "I", false)
  | 22 => ("BoundDrawsModel", "trustDown", "I", false)
  | 23 => ("BoundDrawsModel", "tries", "I", false)
  | 24 => ("BoundDrawsModel", "hits", "I", false)
  | _ => ("BoundDrawsModel", "rejected", "I", false)
def tyX11 : Nat → FieldType := fun k => match k with
  | 0 => .int
  | 1 => .array .int
  | 2 => .array .int
  | 3 => .int
  | 4 => .array .int
  | 5 => .array .int
  | 6 => .array .int
  | 7 => .int
  | 8 => .array .int
  | 9 => .array .int
  | 10 => .array .long
  | 11 => .array .long
  | 12 => .int
  | 13 => .array .int
  | 14 => .array .int
  | 15 => .int
  | 16 => .array .int
  | 17 => .array .int
  | 18 => .boolean
  | 19 => .int
  | 20 => .int
  | 21 => .int
  | 22 => .int
  | 23 => .int
  | 24 => .int
  | _ => .int
abbrev wsX110 : List Cond := u_ws RX11 TX11 26
theorem nmX11 : ∀ a, a < 26 → ∀ b, b < 26 → a ≠ b → (TX11 a).2.1 ≠ (TX11 b).2.1 := by decide +kernel
theorem tyX11_ok : ∀ k, k < 26 → parseFieldDescriptor (TX11 k).2.2.1 = some (tyX11 k) := by decide +kernel
abbrev cX11_init : ByteArray := prog_13_method_1_code
def yX11_init : MethodName := ⟨RX11, "<init>", "()V"⟩
abbrev cX11_thrown : ByteArray := prog_13_method_2_code
def yX11_thrown : MethodName := ⟨RX11, "thrown", "()I"⟩
abbrev cX11_in : ByteArray := prog_13_method_3_code
def yX11_in : MethodName := ⟨RX11, "in", "(JJJ)Z"⟩
abbrev cX11_small : ByteArray := prog_13_method_4_code
def yX11_small : MethodName := ⟨RX11, "small", "([II)V"⟩
abbrev cX11_times : ByteArray := prog_13_method_5_code
def yX11_times : MethodName := ⟨RX11, "times", "([IJ)V"⟩
abbrev cX11_over : ByteArray := prog_13_method_6_code
def yX11_over : MethodName := ⟨RX11, "over", "([II)V"⟩
abbrev cX11_plus : ByteArray := prog_13_method_7_code
def yX11_plus : MethodName := ⟨RX11, "plus", "([I[I)V"⟩
abbrev cX11_compared : ByteArray := prog_13_method_8_code
def yX11_compared : MethodName := ⟨RX11, "compared", "([I[I)I"⟩
abbrev cX11_term : ByteArray := prog_13_method_9_code
def yX11_term : MethodName := ⟨RX11, "term", "([IIIII)V"⟩
abbrev cX11_power : ByteArray := prog_13_method_10_code
def yX11_power : MethodName := ⟨RX11, "power", "([III)V"⟩
abbrev cX11_sumUp : ByteArray := prog_13_method_11_code
def yX11_sumUp : MethodName := ⟨RX11, "sumUp", "(IIIII)V"⟩
abbrev cX11_isHits : ByteArray := prog_13_method_12_code
def yX11_isHits : MethodName := ⟨RX11, "isHits", "(IIIII)Z"⟩
abbrev cX11_above : ByteArray := prog_13_method_13_code
def yX11_above : MethodName := ⟨RX11, "above", "(IIIIII)J"⟩
abbrev cX11_beside : ByteArray := prog_13_method_14_code
def yX11_beside : MethodName := ⟨RX11, "beside", "(IIIIIII)I"⟩
abbrev cX11_odds : ByteArray := prog_13_method_15_code
def yX11_odds : MethodName := ⟨RX11, "odds", "(IIIIIII)I"⟩
abbrev cX11_isTrust : ByteArray := prog_13_method_16_code
def yX11_isTrust : MethodName := ⟨RX11, "isTrust", "(II)Z"⟩
abbrev cX11_bound : ByteArray := prog_13_method_17_code
def yX11_bound : MethodName := ⟨RX11, "bound", "(IIIII)I"⟩
abbrev cX11_unite : ByteArray := prog_13_method_18_code
def yX11_unite : MethodName := ⟨RX11, "unite", "(Z)V"⟩
abbrev cX11_row : ByteArray := prog_13_method_19_code
def yX11_row : MethodName := ⟨RX11, "row", "(III)I"⟩
abbrev cX11_drop : ByteArray := prog_13_method_20_code
def yX11_drop : MethodName := ⟨RX11, "drop", "()I"⟩
abbrev cX11_turned : ByteArray := prog_13_method_21_code
def yX11_turned : MethodName := ⟨RX11, "turned", "(ZI)J"⟩
abbrev cX11_count : ByteArray := prog_13_method_22_code
def yX11_count : MethodName := ⟨RX11, "count", "(IZ)I"⟩
abbrev cX11_wins : ByteArray := prog_13_method_23_code
def yX11_wins : MethodName := ⟨RX11, "wins", "(II)I"⟩
abbrev cX11_common : ByteArray := prog_13_method_24_code
def yX11_common : MethodName := ⟨RX11, "common", "(JJ)J"⟩
abbrev cX11_told : ByteArray := prog_13_method_25_code
def yX11_told : MethodName := ⟨RX11, "told", "(JJI)J"⟩
abbrev cX11_even : ByteArray := prog_13_method_26_code
def yX11_even : MethodName := ⟨RX11, "even", "(II)J"⟩
abbrev cX11_draw : ByteArray := prog_13_method_27_code
def yX11_draw : MethodName := ⟨RX11, "draw", "(JIZ)I"⟩
abbrev cX11_drawn : ByteArray := prog_13_method_28_code
def yX11_drawn : MethodName := ⟨RX11, "drawn", "(II)J"⟩
abbrev cX11_percentile : ByteArray := prog_13_method_29_code
def yX11_percentile : MethodName := ⟨RX11, "percentile", "(III)J"⟩
abbrev cX11_share : ByteArray := prog_13_method_30_code
def yX11_share : MethodName := ⟨RX11, "share", "()I"⟩
abbrev cX11_compare : ByteArray := prog_13_method_31_code
def yX11_compare : MethodName := ⟨RX11, "compare", "(II)I"⟩
abbrev cX11_placeOf : ByteArray := prog_13_method_32_code
def yX11_placeOf : MethodName := ⟨RX11, "placeOf", "(I)I"⟩
abbrev cX11_raised : ByteArray := prog_13_method_33_code
def yX11_raised : MethodName := ⟨RX11, "raised", "(III)J"⟩
abbrev cX11_forget : ByteArray := prog_13_method_34_code
def yX11_forget : MethodName := ⟨RX11, "forget", "()I"⟩
abbrev cX11_begin : ByteArray := prog_13_method_35_code
def yX11_begin : MethodName := ⟨RX11, "begin", "(IIII)I"⟩
abbrev cX11_isRich : ByteArray := prog_13_method_36_code
def yX11_isRich : MethodName := ⟨RX11, "isRich", "()Z"⟩
abbrev cX11_hit : ByteArray := prog_13_method_37_code
def yX11_hit : MethodName := ⟨RX11, "hit", "(Z)I"⟩
abbrev cX11_test : ByteArray := prog_13_method_38_code
def yX11_test : MethodName := ⟨RX11, "test", "(I)I"⟩
abbrev cX11_count_ : ByteArray := prog_13_method_39_code
def yX11_count_ : MethodName := ⟨RX11, "count", "(I)I"⟩
abbrev cX11_clear : ByteArray := prog_13_method_40_code
def yX11_clear : MethodName := ⟨RX11, "clear", "()I"⟩
def RJ9 : String := "java/lang/Math"
def TJ9 : u_T := fun k => match k with
  | _ => ("", "", "", false)
def tyJ9 : Nat → FieldType := fun k => match k with
  | _ => .int
abbrev wsJ90 : List Cond := u_ws RJ9 TJ9 0
theorem nmJ9 : ∀ a, a < 0 → ∀ b, b < 0 → a ≠ b → (TJ9 a).2.1 ≠ (TJ9 b).2.1 := by decide +kernel
theorem tyJ9_ok : ∀ k, k < 0 → parseFieldDescriptor (TJ9 k).2.2.1 = some (tyJ9 k) := by decide +kernel
abbrev cJ9_abs_0f7a4 : ByteArray := prog_18_method_59_code
def yJ9_abs_0f7a4 : MethodName := ⟨RJ9, "abs", "(I)I"⟩
abbrev cJ9_abs_067f4 : ByteArray := prog_18_method_61_code
def yJ9_abs_067f4 : MethodName := ⟨RJ9, "abs", "(J)J"⟩
abbrev cJ9_max_7cf53 : ByteArray := prog_18_method_65_code
def yJ9_max_7cf53 : MethodName := ⟨RJ9, "max", "(II)I"⟩
abbrev cJ9_min_7cf53 : ByteArray := prog_18_method_69_code
def yJ9_min_7cf53 : MethodName := ⟨RJ9, "min", "(II)I"⟩
def RJ0 : String := "java/lang/String"
def TJ0 : u_T := fun k => match k with
  | _ => ("", "", "", false)
def tyJ0 : Nat → FieldType := fun k => match k with
  | _ => .int
abbrev wsJ00 : List Cond := u_ws RJ0 TJ0 0
theorem nmJ0 : ∀ a, a < 0 → ∀ b, b < 0 → a ≠ b → (TJ0 a).2.1 ≠ (TJ0 b).2.1 := by decide +kernel
theorem tyJ0_ok : ∀ k, k < 0 → parseFieldDescriptor (TJ0 k).2.2.1 = some (tyJ0 k) := by decide +kernel
def RL : String := "BoundDrawsLaw"
abbrev cL_bound : ByteArray := method_3_code
def yL_bound : MethodName := ⟨RL, "bound", "(LBoundDraws;IIIII[J)I"⟩
abbrev cL_drawn : ByteArray := method_4_code
def yL_drawn : MethodName := ⟨RL, "drawn", "(LBoundDraws;II[J)I"⟩
abbrev cL_share : ByteArray := method_5_code
def yL_share : MethodName := ⟨RL, "share", "(LBoundDraws;[J)I"⟩
abbrev cL_begin : ByteArray := method_6_code
def yL_begin : MethodName := ⟨RL, "begin", "(LBoundDraws;IIII[J)I"⟩
abbrev cL_law : ByteArray := code
def yL_law : MethodName := ⟨RL, "law", "([I)Z"⟩
def wsX0_init : List Cond := .code yX0_init cX0_init 1 none :: ([.methodLink RX0 1 objectInit, .instanceMethod objectInit, .code objectInit ⟨#[0xb1]⟩ 1 none, .arrayClass .int, .fieldLink RX0 9 "BoundDraws$Compares" "ups" "[I", .fieldLink RX0 13 "BoundDraws$Compares" "downs" "[I", .fieldLink RX0 16 "BoundDraws$Compares" "used" "I"] ++ wsX00)
def wsX0_size : List Cond := .code yX0_size cX0_size 1 (some .int) :: ([.fieldLink RX0 16 "BoundDraws$Compares" "used" "I"] ++ wsX00)
def wsX0_isFull : List Cond := .code yX0_isFull cX0_isFull 1 (some .boolean) :: ([.fieldLink RX0 16 "BoundDraws$Compares" "used" "I"] ++ wsX00)
def wsX0_add : List Cond := .code yX0_add cX0_add 3 none :: ([.fieldLink RX0 9 "BoundDraws$Compares" "ups" "[I", .fieldLink RX0 16 "BoundDraws$Compares" "used" "I", .fieldLink RX0 13 "BoundDraws$Compares" "downs" "[I", .methodLink RX0 20 yX0_isFull, .instanceMethod yX0_isFull, .selects RX0 yX0_isFull yX0_isFull, .initialized RX0, .code yX0_isFull cX0_isFull 1 (some .boolean)] ++ wsX00)
def wsX0_empty : List Cond := .code yX0_empty cX0_empty 1 none :: ([.fieldLink RX0 16 "BoundDraws$Compares" "used" "I"] ++ wsX00)
def wsX3_commonDivisor : List Cond := .code yX3_commonDivisor cX3_commonDivisor 11 (some .long) :: ([])
def wsX4_become : List Cond := .code yX4_become cX4_become 7 none :: ([.methodLink RX4 16 Lib.MathLoose.abs_long.x, .static Lib.MathLoose.abs_long.x, .initialized "java/lang/Math", .code Lib.MathLoose.abs_long.x Lib.MathLoose.abs_long.code 2 (some .long), .fieldLink RX4 7 "BoundDraws$Ratio" "upper" "J", .fieldLink RX4 13 "BoundDraws$Ratio" "lower" "J", .methodLink RX4 22 yX3_commonDivisor, .static yX3_commonDivisor, .initialized RX3, .code yX3_commonDivisor cX3_commonDivisor 11 (some .long)] ++ wsX40)
def wsX0_standsAhead : List Cond := .code yX0_standsAhead cX0_standsAhead 7 (some .boolean) :: ([.fieldLink RX0 16 "BoundDraws$Compares" "used" "I", .fieldLink RX0 9 "BoundDraws$Compares" "ups" "[I", .fieldLink RX0 13 "BoundDraws$Compares" "downs" "[I"] ++ wsX00)
def wsX0_placeOf : List Cond := .code yX0_placeOf cX0_placeOf 4 (some .int) :: ([.fieldLink RX0 16 "BoundDraws$Compares" "used" "I", .methodLink RX0 48 yX0_standsAhead, .instanceMethod yX0_standsAhead, .selects RX0 yX0_standsAhead yX0_standsAhead, .initialized RX0, .code yX0_standsAhead cX0_standsAhead 7 (some .boolean), .fieldLink RX0 9 "BoundDraws$Compares" "ups" "[I", .fieldLink RX0 13 "BoundDraws$Compares" "downs" "[I"] ++ wsX00)
def wsX4_isBelow : List Cond := .code yX4_isBelow cX4_isBelow 5 (some .boolean) :: ([.fieldLink RX4 7 "BoundDraws$Ratio" "upper" "J", .fieldLink RX4 13 "BoundDraws$Ratio" "lower" "J"] ++ wsX40)
def wsX0_raiseByGreatest_r1 : List Cond := [Cond.fieldLink RX0 16 "BoundDraws$Compares" "used" "I", Cond.fieldLink RX0 9 "BoundDraws$Compares" "ups" "[I", Cond.fieldLink RX0 13 "BoundDraws$Compares" "downs" "[I", Cond.methodLink RX0 24 yX4_become, Cond.instanceMethod yX4_become, Cond.selects RX4 yX4_become yX4_become, Cond.initialized RX4, Cond.code yX4_become cX4_become 7 none, Cond.methodLink RX4 16 Lib.MathLoose.abs_long.x, Cond.static Lib.MathLoose.abs_long.x, Cond.initialized "java/lang/Math", Cond.code Lib.MathLoose.abs_long.x Lib.MathLoose.abs_long.code 2 (some .long), Cond.fieldLink RX4 7 "BoundDraws$Ratio" "upper" "J", Cond.fieldLink RX4 13 "BoundDraws$Ratio" "lower" "J", Cond.methodLink RX4 22 yX3_commonDivisor, Cond.static yX3_commonDivisor, Cond.initialized RX3, Cond.code yX3_commonDivisor cX3_commonDivisor 11 (some .long), Cond.methodLink RX0 30 yX0_placeOf, Cond.instanceMethod yX0_placeOf, Cond.selects RX0 yX0_placeOf yX0_placeOf, Cond.initialized RX0, Cond.code yX0_placeOf cX0_placeOf 4 (some .int), Cond.methodLink RX0 48 yX0_standsAhead]
def wsX0_raiseByGreatest_r2 : List Cond := [Cond.instanceMethod yX0_standsAhead, Cond.selects RX0 yX0_standsAhead yX0_standsAhead, Cond.code yX0_standsAhead cX0_standsAhead 7 (some .boolean), Cond.methodLink RX0 41 yX4_isBelow, Cond.instanceMethod yX4_isBelow, Cond.selects RX4 yX4_isBelow yX4_isBelow, Cond.code yX4_isBelow cX4_isBelow 5 (some .boolean)]
def wsX0_raiseByGreatest : List Cond := .code yX0_raiseByGreatest cX0_raiseByGreatest 7 none :: ((wsX0_raiseByGreatest_r1 ++ wsX0_raiseByGreatest_r2) ++ wsX00 ++ wsX40)
def wsX4_isAbove : List Cond := .code yX4_isAbove cX4_isAbove 5 (some .boolean) :: ([.fieldLink RX4 7 "BoundDraws$Ratio" "upper" "J", .fieldLink RX4 13 "BoundDraws$Ratio" "lower" "J"] ++ wsX40)
def wsX0_raiseByLeast_r1 : List Cond := [Cond.fieldLink RX0 16 "BoundDraws$Compares" "used" "I", Cond.fieldLink RX0 9 "BoundDraws$Compares" "ups" "[I", Cond.fieldLink RX0 13 "BoundDraws$Compares" "downs" "[I", Cond.methodLink RX0 24 yX4_become, Cond.instanceMethod yX4_become, Cond.selects RX4 yX4_become yX4_become, Cond.initialized RX4, Cond.code yX4_become cX4_become 7 none, Cond.methodLink RX4 16 Lib.MathLoose.abs_long.x, Cond.static Lib.MathLoose.abs_long.x, Cond.initialized "java/lang/Math", Cond.code Lib.MathLoose.abs_long.x Lib.MathLoose.abs_long.code 2 (some .long), Cond.fieldLink RX4 7 "BoundDraws$Ratio" "upper" "J", Cond.fieldLink RX4 13 "BoundDraws$Ratio" "lower" "J", Cond.methodLink RX4 22 yX3_commonDivisor, Cond.static yX3_commonDivisor, Cond.initialized RX3, Cond.code yX3_commonDivisor cX3_commonDivisor 11 (some .long), Cond.methodLink RX0 30 yX0_placeOf, Cond.instanceMethod yX0_placeOf, Cond.selects RX0 yX0_placeOf yX0_placeOf, Cond.initialized RX0, Cond.code yX0_placeOf cX0_placeOf 4 (some .int), Cond.methodLink RX0 48 yX0_standsAhead]
def wsX0_raiseByLeast_r2 : List Cond := [Cond.instanceMethod yX0_standsAhead, Cond.selects RX0 yX0_standsAhead yX0_standsAhead, Cond.code yX0_standsAhead cX0_standsAhead 7 (some .boolean), Cond.methodLink RX0 45 yX4_isAbove, Cond.instanceMethod yX4_isAbove, Cond.selects RX4 yX4_isAbove yX4_isAbove, Cond.code yX4_isAbove cX4_isAbove 5 (some .boolean)]
def wsX0_raiseByLeast : List Cond := .code yX0_raiseByLeast cX0_raiseByLeast 9 none :: ((wsX0_raiseByLeast_r1 ++ wsX0_raiseByLeast_r2) ++ wsX00 ++ wsX40)
def wsX0_raise_r1 : List Cond := [Cond.fieldLink RX0 16 "BoundDraws$Compares" "used" "I", Cond.fieldLink RX0 9 "BoundDraws$Compares" "ups" "[I", Cond.fieldLink RX0 13 "BoundDraws$Compares" "downs" "[I", Cond.methodLink RX0 24 yX4_become, Cond.instanceMethod yX4_become, Cond.selects RX4 yX4_become yX4_become, Cond.initialized RX4, Cond.code yX4_become cX4_become 7 none, Cond.methodLink RX4 16 Lib.MathLoose.abs_long.x, Cond.static Lib.MathLoose.abs_long.x, Cond.initialized "java/lang/Math", Cond.code Lib.MathLoose.abs_long.x Lib.MathLoose.abs_long.code 2 (some .long), Cond.fieldLink RX4 7 "BoundDraws$Ratio" "upper" "J", Cond.fieldLink RX4 13 "BoundDraws$Ratio" "lower" "J", Cond.methodLink RX4 22 yX3_commonDivisor, Cond.static yX3_commonDivisor, Cond.initialized RX3, Cond.code yX3_commonDivisor cX3_commonDivisor 11 (some .long), Cond.methodLink RX0 30 yX0_placeOf, Cond.instanceMethod yX0_placeOf, Cond.selects RX0 yX0_placeOf yX0_placeOf, Cond.initialized RX0, Cond.code yX0_placeOf cX0_placeOf 4 (some .int), Cond.methodLink RX0 48 yX0_standsAhead]
def wsX0_raise_r2 : List Cond := [Cond.instanceMethod yX0_standsAhead, Cond.selects RX0 yX0_standsAhead yX0_standsAhead, Cond.code yX0_standsAhead cX0_standsAhead 7 (some .boolean), Cond.methodLink RX0 34 yX0_raiseByGreatest, Cond.instanceMethod yX0_raiseByGreatest, Cond.selects RX0 yX0_raiseByGreatest yX0_raiseByGreatest, Cond.code yX0_raiseByGreatest cX0_raiseByGreatest 7 none, Cond.methodLink RX0 41 yX4_isBelow, Cond.instanceMethod yX4_isBelow, Cond.selects RX4 yX4_isBelow yX4_isBelow, Cond.code yX4_isBelow cX4_isBelow 5 (some .boolean), Cond.methodLink RX0 38 yX0_raiseByLeast, Cond.instanceMethod yX0_raiseByLeast, Cond.selects RX0 yX0_raiseByLeast yX0_raiseByLeast, Cond.code yX0_raiseByLeast cX0_raiseByLeast 9 none, Cond.methodLink RX0 45 yX4_isAbove, Cond.instanceMethod yX4_isAbove, Cond.selects RX4 yX4_isAbove yX4_isAbove, Cond.code yX4_isAbove cX4_isAbove 5 (some .boolean)]
def wsX0_raise : List Cond := .code yX0_raise cX0_raise 4 none :: ((wsX0_raise_r1 ++ wsX0_raise_r2) ++ wsX00 ++ wsX40)
def wsX9_init : List Cond := .code yX9_init cX9_init 1 none :: ([.methodLink RX9 1 objectInit, .instanceMethod objectInit, .code objectInit ⟨#[0xb1]⟩ 1 none, .arrayClass .long, .fieldLink RX9 9 "BoundDraws$Wide" "limbs" "[J", .fieldLink RX9 13 "BoundDraws$Wide" "used" "I"] ++ wsX90)
def wsX1_init : List Cond := .code yX1_init cX1_init 1 none :: ([.methodLink RX1 1 objectInit, .instanceMethod objectInit, .code objectInit ⟨#[0xb1]⟩ 1 none, .classLink RX1 7 RX9, .instantiable RX9 2, .initialized RX9, .fieldLink RX1 10 "BoundDraws$Hits" "sum" "LBoundDraws$Wide;", .fieldLink RX1 16 "BoundDraws$Hits" "power" "LBoundDraws$Wide;", .fieldLink RX1 19 "BoundDraws$Hits" "measure" "LBoundDraws$Wide;", .methodLink RX1 9 yX9_init, .instanceMethod yX9_init, .code yX9_init cX9_init 1 none, .methodLink RX9 1 objectInit, .arrayClass .long, .fieldLink RX9 9 "BoundDraws$Wide" "limbs" "[J", .fieldLink RX9 13 "BoundDraws$Wide" "used" "I"] ++ wsX90 ++ wsX10)
def wsX9_become : List Cond := .code yX9_become cX9_become 4 none :: ([.fieldLink RX9 9 "BoundDraws$Wide" "limbs" "[J", .constantLong RX9 17 (4294967295), .fieldLink RX9 13 "BoundDraws$Wide" "used" "I"] ++ wsX90)
def wsX9_multiply : List Cond := .code yX9_multiply cX9_multiply 8 none :: ([.fieldLink RX9 13 "BoundDraws$Wide" "used" "I", .fieldLink RX9 9 "BoundDraws$Wide" "limbs" "[J", .constantLong RX9 17 (4294967295)] ++ wsX90)
def wsX9_addTimes : List Cond := .code yX9_addTimes cX9_addTimes 10 none :: ([.fieldLink RX9 13 "BoundDraws$Wide" "used" "I", .methodLink RX9 23 Lib.Math.max.name, .static Lib.Math.max.name, .initialized "java/lang/Math", .code Lib.Math.max.name Lib.Math.max.code 2 (some .int), .methodLink RX9 29 Lib.Math.min.name, .static Lib.Math.min.name, .code Lib.Math.min.name Lib.Math.min.code 2 (some .int), .fieldLink RX9 9 "BoundDraws$Wide" "limbs" "[J", .constantLong RX9 17 (4294967295)] ++ wsX90)
def wsX9_multiplyOften : List Cond := .code yX9_multiplyOften cX9_multiplyOften 5 none :: ([.methodLink RX9 19 yX9_multiply, .instanceMethod yX9_multiply, .selects RX9 yX9_multiply yX9_multiply, .initialized RX9, .code yX9_multiply cX9_multiply 8 none, .fieldLink RX9 13 "BoundDraws$Wide" "used" "I", .fieldLink RX9 9 "BoundDraws$Wide" "limbs" "[J", .constantLong RX9 17 (4294967295)] ++ wsX90)
def wsX1_sumOfAtLeast_r1 : List Cond := [Cond.fieldLink RX1 10 "BoundDraws$Hits" "sum" "LBoundDraws$Wide;", Cond.fieldLink RX1 16 "BoundDraws$Hits" "power" "LBoundDraws$Wide;", Cond.methodLink RX1 30 yX9_become, Cond.instanceMethod yX9_become, Cond.selects RX9 yX9_become yX9_become, Cond.initialized RX9, Cond.code yX9_become cX9_become 4 none, Cond.fieldLink RX9 9 "BoundDraws$Wide" "limbs" "[J", Cond.constantLong RX9 17 (4294967295), Cond.fieldLink RX9 13 "BoundDraws$Wide" "used" "I", Cond.methodLink RX1 38 yX9_multiply, Cond.instanceMethod yX9_multiply, Cond.selects RX9 yX9_multiply yX9_multiply, Cond.code yX9_multiply cX9_multiply 8 none, Cond.methodLink RX1 55 yX9_addTimes, Cond.instanceMethod yX9_addTimes, Cond.selects RX9 yX9_addTimes yX9_addTimes, Cond.code yX9_addTimes cX9_addTimes 10 none, Cond.methodLink RX9 23 Lib.Math.max.name, Cond.static Lib.Math.max.name, Cond.initialized "java/lang/Math", Cond.code Lib.Math.max.name Lib.Math.max.code 2 (some .int), Cond.methodLink RX9 29 Lib.Math.min.name, Cond.static Lib.Math.min.name]
def wsX1_sumOfAtLeast_r2 : List Cond := [Cond.code Lib.Math.min.name Lib.Math.min.code 2 (some .int), Cond.methodLink RX1 34 yX9_multiplyOften, Cond.instanceMethod yX9_multiplyOften, Cond.selects RX9 yX9_multiplyOften yX9_multiplyOften, Cond.code yX9_multiplyOften cX9_multiplyOften 5 none, Cond.methodLink RX9 19 yX9_multiply]
def wsX1_sumOfAtLeast : List Cond := .code yX1_sumOfAtLeast cX1_sumOfAtLeast 8 none :: ((wsX1_sumOfAtLeast_r1 ++ wsX1_sumOfAtLeast_r2) ++ wsX10 ++ wsX90)
def wsX1_sumUp_r1 : List Cond := [Cond.methodLink RX1 51 yX1_sumOfAtLeast, Cond.instanceMethod yX1_sumOfAtLeast, Cond.selects RX1 yX1_sumOfAtLeast yX1_sumOfAtLeast, Cond.initialized RX1, Cond.code yX1_sumOfAtLeast cX1_sumOfAtLeast 8 none, Cond.fieldLink RX1 10 "BoundDraws$Hits" "sum" "LBoundDraws$Wide;", Cond.fieldLink RX1 16 "BoundDraws$Hits" "power" "LBoundDraws$Wide;", Cond.methodLink RX1 30 yX9_become, Cond.instanceMethod yX9_become, Cond.selects RX9 yX9_become yX9_become, Cond.initialized RX9, Cond.code yX9_become cX9_become 4 none, Cond.fieldLink RX9 9 "BoundDraws$Wide" "limbs" "[J", Cond.constantLong RX9 17 (4294967295), Cond.fieldLink RX9 13 "BoundDraws$Wide" "used" "I", Cond.methodLink RX1 38 yX9_multiply, Cond.instanceMethod yX9_multiply, Cond.selects RX9 yX9_multiply yX9_multiply, Cond.code yX9_multiply cX9_multiply 8 none, Cond.methodLink RX1 55 yX9_addTimes, Cond.instanceMethod yX9_addTimes, Cond.selects RX9 yX9_addTimes yX9_addTimes, Cond.code yX9_addTimes cX9_addTimes 10 none, Cond.methodLink RX9 23 Lib.Math.max.name]
def wsX1_sumUp_r2 : List Cond := [Cond.static Lib.Math.max.name, Cond.initialized "java/lang/Math", Cond.code Lib.Math.max.name Lib.Math.max.code 2 (some .int), Cond.methodLink RX9 29 Lib.Math.min.name, Cond.static Lib.Math.min.name, Cond.code Lib.Math.min.name Lib.Math.min.code 2 (some .int), Cond.methodLink RX1 34 yX9_multiplyOften, Cond.instanceMethod yX9_multiplyOften, Cond.selects RX9 yX9_multiplyOften yX9_multiplyOften, Cond.code yX9_multiplyOften cX9_multiplyOften 5 none, Cond.methodLink RX9 19 yX9_multiply]
def wsX1_sumUp : List Cond := .code yX1_sumUp cX1_sumUp 6 none :: ((wsX1_sumUp_r1 ++ wsX1_sumUp_r2) ++ wsX10 ++ wsX90)
def wsX9_limb : List Cond := .code yX9_limb cX9_limb 2 (some .long) :: ([.fieldLink RX9 9 "BoundDraws$Wide" "limbs" "[J"] ++ wsX90)
def wsX1_limbOfAbove_r1 : List Cond := [Cond.fieldLink RX1 10 "BoundDraws$Hits" "sum" "LBoundDraws$Wide;", Cond.methodLink RX1 22 yX1_sumUp, Cond.instanceMethod yX1_sumUp, Cond.selects RX1 yX1_sumUp yX1_sumUp, Cond.initialized RX1, Cond.code yX1_sumUp cX1_sumUp 6 none, Cond.methodLink RX1 51 yX1_sumOfAtLeast, Cond.instanceMethod yX1_sumOfAtLeast, Cond.selects RX1 yX1_sumOfAtLeast yX1_sumOfAtLeast, Cond.code yX1_sumOfAtLeast cX1_sumOfAtLeast 8 none, Cond.fieldLink RX1 16 "BoundDraws$Hits" "power" "LBoundDraws$Wide;", Cond.methodLink RX1 30 yX9_become, Cond.instanceMethod yX9_become, Cond.selects RX9 yX9_become yX9_become, Cond.initialized RX9, Cond.code yX9_become cX9_become 4 none, Cond.fieldLink RX9 9 "BoundDraws$Wide" "limbs" "[J", Cond.constantLong RX9 17 (4294967295), Cond.fieldLink RX9 13 "BoundDraws$Wide" "used" "I", Cond.methodLink RX1 38 yX9_multiply, Cond.instanceMethod yX9_multiply, Cond.selects RX9 yX9_multiply yX9_multiply, Cond.code yX9_multiply cX9_multiply 8 none, Cond.methodLink RX1 55 yX9_addTimes]
def wsX1_limbOfAbove_r2 : List Cond := [Cond.instanceMethod yX9_addTimes, Cond.selects RX9 yX9_addTimes yX9_addTimes, Cond.code yX9_addTimes cX9_addTimes 10 none, Cond.methodLink RX9 23 Lib.Math.max.name, Cond.static Lib.Math.max.name, Cond.initialized "java/lang/Math", Cond.code Lib.Math.max.name Lib.Math.max.code 2 (some .int), Cond.methodLink RX9 29 Lib.Math.min.name, Cond.static Lib.Math.min.name, Cond.code Lib.Math.min.name Lib.Math.min.code 2 (some .int), Cond.methodLink RX1 34 yX9_multiplyOften, Cond.instanceMethod yX9_multiplyOften, Cond.selects RX9 yX9_multiplyOften yX9_multiplyOften, Cond.code yX9_multiplyOften cX9_multiplyOften 5 none, Cond.methodLink RX9 19 yX9_multiply, Cond.methodLink RX1 26 yX9_limb, Cond.instanceMethod yX9_limb, Cond.selects RX9 yX9_limb yX9_limb, Cond.code yX9_limb cX9_limb 2 (some .long)]
def wsX1_limbOfAbove : List Cond := .code yX1_limbOfAbove cX1_limbOfAbove 7 (some .long) :: ((wsX1_limbOfAbove_r1 ++ wsX1_limbOfAbove_r2) ++ wsX10 ++ wsX90)
def wsX9_against : List Cond := .code yX9_against cX9_against 3 (some .int) :: ([.fieldLink RX9 9 "BoundDraws$Wide" "limbs" "[J"] ++ wsX90)
def wsX1_oddsAgainst_r1 : List Cond := [Cond.fieldLink RX1 19 "BoundDraws$Hits" "measure" "LBoundDraws$Wide;", Cond.fieldLink RX1 10 "BoundDraws$Hits" "sum" "LBoundDraws$Wide;", Cond.methodLink RX1 30 yX9_become, Cond.instanceMethod yX9_become, Cond.selects RX9 yX9_become yX9_become, Cond.initialized RX9, Cond.code yX9_become cX9_become 4 none, Cond.fieldLink RX9 9 "BoundDraws$Wide" "limbs" "[J", Cond.constantLong RX9 17 (4294967295), Cond.fieldLink RX9 13 "BoundDraws$Wide" "used" "I", Cond.methodLink RX1 34 yX9_multiplyOften, Cond.instanceMethod yX9_multiplyOften, Cond.selects RX9 yX9_multiplyOften yX9_multiplyOften, Cond.code yX9_multiplyOften cX9_multiplyOften 5 none, Cond.methodLink RX9 19 yX9_multiply, Cond.instanceMethod yX9_multiply, Cond.selects RX9 yX9_multiply yX9_multiply, Cond.code yX9_multiply cX9_multiply 8 none, Cond.methodLink RX1 22 yX1_sumUp, Cond.instanceMethod yX1_sumUp, Cond.selects RX1 yX1_sumUp yX1_sumUp, Cond.initialized RX1, Cond.code yX1_sumUp cX1_sumUp 6 none, Cond.methodLink RX1 51 yX1_sumOfAtLeast]
def wsX1_oddsAgainst_r2 : List Cond := [Cond.instanceMethod yX1_sumOfAtLeast, Cond.selects RX1 yX1_sumOfAtLeast yX1_sumOfAtLeast, Cond.code yX1_sumOfAtLeast cX1_sumOfAtLeast 8 none, Cond.fieldLink RX1 16 "BoundDraws$Hits" "power" "LBoundDraws$Wide;", Cond.methodLink RX1 38 yX9_multiply, Cond.methodLink RX1 55 yX9_addTimes, Cond.instanceMethod yX9_addTimes, Cond.selects RX9 yX9_addTimes yX9_addTimes, Cond.code yX9_addTimes cX9_addTimes 10 none, Cond.methodLink RX9 23 Lib.Math.max.name, Cond.static Lib.Math.max.name, Cond.initialized "java/lang/Math", Cond.code Lib.Math.max.name Lib.Math.max.code 2 (some .int), Cond.methodLink RX9 29 Lib.Math.min.name, Cond.static Lib.Math.min.name, Cond.code Lib.Math.min.name Lib.Math.min.code 2 (some .int), Cond.methodLink RX1 41 yX9_against, Cond.instanceMethod yX9_against, Cond.selects RX9 yX9_against yX9_against, Cond.code yX9_against cX9_against 3 (some .int)]
def wsX1_oddsAgainst : List Cond := .code yX1_oddsAgainst cX1_oddsAgainst 8 (some .int) :: ((wsX1_oddsAgainst_r1 ++ wsX1_oddsAgainst_r2) ++ wsX10 ++ wsX90)
def wsX1_upper_r1 : List Cond := [Cond.fieldLink RX1 19 "BoundDraws$Hits" "measure" "LBoundDraws$Wide;", Cond.constantLong RX1 45 (1000), Cond.fieldLink RX1 10 "BoundDraws$Hits" "sum" "LBoundDraws$Wide;", Cond.methodLink RX1 30 yX9_become, Cond.instanceMethod yX9_become, Cond.selects RX9 yX9_become yX9_become, Cond.initialized RX9, Cond.code yX9_become cX9_become 4 none, Cond.fieldLink RX9 9 "BoundDraws$Wide" "limbs" "[J", Cond.constantLong RX9 17 (4294967295), Cond.fieldLink RX9 13 "BoundDraws$Wide" "used" "I", Cond.methodLink RX1 34 yX9_multiplyOften, Cond.instanceMethod yX9_multiplyOften, Cond.selects RX9 yX9_multiplyOften yX9_multiplyOften, Cond.code yX9_multiplyOften cX9_multiplyOften 5 none, Cond.methodLink RX9 19 yX9_multiply, Cond.instanceMethod yX9_multiply, Cond.selects RX9 yX9_multiply yX9_multiply, Cond.code yX9_multiply cX9_multiply 8 none, Cond.methodLink RX1 22 yX1_sumUp, Cond.instanceMethod yX1_sumUp, Cond.selects RX1 yX1_sumUp yX1_sumUp, Cond.initialized RX1, Cond.code yX1_sumUp cX1_sumUp 6 none]
def wsX1_upper_r2 : List Cond := [Cond.methodLink RX1 51 yX1_sumOfAtLeast, Cond.instanceMethod yX1_sumOfAtLeast, Cond.selects RX1 yX1_sumOfAtLeast yX1_sumOfAtLeast, Cond.code yX1_sumOfAtLeast cX1_sumOfAtLeast 8 none, Cond.fieldLink RX1 16 "BoundDraws$Hits" "power" "LBoundDraws$Wide;", Cond.methodLink RX1 38 yX9_multiply, Cond.methodLink RX1 55 yX9_addTimes, Cond.instanceMethod yX9_addTimes, Cond.selects RX9 yX9_addTimes yX9_addTimes, Cond.code yX9_addTimes cX9_addTimes 10 none, Cond.methodLink RX9 23 Lib.Math.max.name, Cond.static Lib.Math.max.name, Cond.initialized "java/lang/Math", Cond.code Lib.Math.max.name Lib.Math.max.code 2 (some .int), Cond.methodLink RX9 29 Lib.Math.min.name, Cond.static Lib.Math.min.name, Cond.code Lib.Math.min.name Lib.Math.min.code 2 (some .int), Cond.methodLink RX1 41 yX9_against, Cond.instanceMethod yX9_against, Cond.selects RX9 yX9_against yX9_against, Cond.code yX9_against cX9_against 3 (some .int)]
def wsX1_upper : List Cond := .code yX1_upper cX1_upper 9 (some .int) :: ((wsX1_upper_r1 ++ wsX1_upper_r2) ++ wsX10 ++ wsX90)
def wsX1_lower_r1 : List Cond := [Cond.methodLink RX1 47 yX1_upper, Cond.instanceMethod yX1_upper, Cond.selects RX1 yX1_upper yX1_upper, Cond.initialized RX1, Cond.code yX1_upper cX1_upper 9 (some .int), Cond.fieldLink RX1 19 "BoundDraws$Hits" "measure" "LBoundDraws$Wide;", Cond.constantLong RX1 45 (1000), Cond.fieldLink RX1 10 "BoundDraws$Hits" "sum" "LBoundDraws$Wide;", Cond.methodLink RX1 30 yX9_become, Cond.instanceMethod yX9_become, Cond.selects RX9 yX9_become yX9_become, Cond.initialized RX9, Cond.code yX9_become cX9_become 4 none, Cond.fieldLink RX9 9 "BoundDraws$Wide" "limbs" "[J", Cond.constantLong RX9 17 (4294967295), Cond.fieldLink RX9 13 "BoundDraws$Wide" "used" "I", Cond.methodLink RX1 34 yX9_multiplyOften, Cond.instanceMethod yX9_multiplyOften, Cond.selects RX9 yX9_multiplyOften yX9_multiplyOften, Cond.code yX9_multiplyOften cX9_multiplyOften 5 none, Cond.methodLink RX9 19 yX9_multiply, Cond.instanceMethod yX9_multiply, Cond.selects RX9 yX9_multiply yX9_multiply, Cond.code yX9_multiply cX9_multiply 8 none]
def wsX1_lower_r2 : List Cond := [Cond.methodLink RX1 22 yX1_sumUp, Cond.instanceMethod yX1_sumUp, Cond.selects RX1 yX1_sumUp yX1_sumUp, Cond.code yX1_sumUp cX1_sumUp 6 none, Cond.methodLink RX1 51 yX1_sumOfAtLeast, Cond.instanceMethod yX1_sumOfAtLeast, Cond.selects RX1 yX1_sumOfAtLeast yX1_sumOfAtLeast, Cond.code yX1_sumOfAtLeast cX1_sumOfAtLeast 8 none, Cond.fieldLink RX1 16 "BoundDraws$Hits" "power" "LBoundDraws$Wide;", Cond.methodLink RX1 38 yX9_multiply, Cond.methodLink RX1 55 yX9_addTimes, Cond.instanceMethod yX9_addTimes, Cond.selects RX9 yX9_addTimes yX9_addTimes, Cond.code yX9_addTimes cX9_addTimes 10 none, Cond.methodLink RX9 23 Lib.Math.max.name, Cond.static Lib.Math.max.name, Cond.initialized "java/lang/Math", Cond.code Lib.Math.max.name Lib.Math.max.code 2 (some .int), Cond.methodLink RX9 29 Lib.Math.min.name, Cond.static Lib.Math.min.name, Cond.code Lib.Math.min.name Lib.Math.min.code 2 (some .int), Cond.methodLink RX1 41 yX9_against, Cond.instanceMethod yX9_against, Cond.selects RX9 yX9_against yX9_against]
def wsX1_lower_r3 : List Cond := [Cond.code yX9_against cX9_against 3 (some .int)]
def wsX1_lower : List Cond := .code yX1_lower cX1_lower 5 (some .int) :: ((wsX1_lower_r1 ++ (wsX1_lower_r2 ++ wsX1_lower_r3)) ++ wsX10 ++ wsX90)
def wsX4_init : List Cond := .code yX4_init cX4_init 1 none :: ([.methodLink RX4 1 objectInit, .instanceMethod objectInit, .code objectInit ⟨#[0xb1]⟩ 1 none, .fieldLink RX4 7 "BoundDraws$Ratio" "upper" "J", .fieldLink RX4 13 "BoundDraws$Ratio" "lower" "J"] ++ wsX40)
def wsX2_init : List Cond := .code yX2_init cX2_init 1 none :: ([.methodLink RX2 1 objectInit, .instanceMethod objectInit, .code objectInit ⟨#[0xb1]⟩ 1 none, .arrayClass .long, .fieldLink RX2 9 "BoundDraws$Means" "uppers" "[J", .fieldLink RX2 13 "BoundDraws$Means" "lowers" "[J", .classLink RX2 16 RX4, .instantiable RX4 2, .initialized RX4, .fieldLink RX2 19 "BoundDraws$Means" "mean" "LBoundDraws$Ratio;", .fieldLink RX2 23 "BoundDraws$Means" "used" "I", .methodLink RX2 18 yX4_init, .instanceMethod yX4_init, .code yX4_init cX4_init 1 none, .methodLink RX4 1 objectInit, .fieldLink RX4 7 "BoundDraws$Ratio" "upper" "J", .fieldLink RX4 13 "BoundDraws$Ratio" "lower" "J"] ++ wsX20 ++ wsX40)
def wsX2_size : List Cond := .code yX2_size cX2_size 1 (some .int) :: ([.fieldLink RX2 23 "BoundDraws$Means" "used" "I"] ++ wsX20)
def wsX2_empty : List Cond := .code yX2_empty cX2_empty 1 none :: ([.fieldLink RX2 23 "BoundDraws$Means" "used" "I"] ++ wsX20)
def wsX8_size : List Cond := .code yX8_size cX8_size 1 (some .int) :: ([.fieldLink RX8 18 "BoundDraws$Units" "used" "I"] ++ wsX80)
def wsX8_difference : List Cond := .code yX8_difference cX8_difference 2 (some .int) :: ([.fieldLink RX8 18 "BoundDraws$Units" "used" "I", .fieldLink RX8 9 "BoundDraws$Units" "differences" "[I"] ++ wsX80)
def wsX8_rowsOf : List Cond := .code yX8_rowsOf cX8_rowsOf 2 (some .int) :: ([.fieldLink RX8 18 "BoundDraws$Units" "used" "I", .fieldLink RX8 15 "BoundDraws$Units" "sizes" "[I"] ++ wsX80)
def wsX4_told : List Cond := .code yX4_told cX4_told 2 (some .long) :: ([.fieldLink RX4 7 "BoundDraws$Ratio" "upper" "J", .fieldLink RX4 13 "BoundDraws$Ratio" "lower" "J"] ++ wsX40)
def wsX2_insertMean : List Cond := .code yX2_insertMean cX2_insertMean 2 none :: ([.fieldLink RX2 23 "BoundDraws$Means" "used" "I", .fieldLink RX2 19 "BoundDraws$Means" "mean" "LBoundDraws$Ratio;", .fieldLink RX2 9 "BoundDraws$Means" "uppers" "[J", .fieldLink RX2 13 "BoundDraws$Means" "lowers" "[J", .methodLink RX2 51 yX4_isBelow, .instanceMethod yX4_isBelow, .selects RX4 yX4_isBelow yX4_isBelow, .initialized RX4, .code yX4_isBelow cX4_isBelow 5 (some .boolean), .fieldLink RX4 7 "BoundDraws$Ratio" "upper" "J", .fieldLink RX4 13 "BoundDraws$Ratio" "lower" "J", .methodLink RX2 55 yX4_told, .instanceMethod yX4_told, .selects RX4 yX4_told yX4_told, .code yX4_told cX4_told 2 (some .long)] ++ wsX20 ++ wsX40)
def wsX2_drawAnew_r1 : List Cond := [Cond.fieldLink RX2 23 "BoundDraws$Means" "used" "I", Cond.constantLong RX2 33 (6364136223846793005), Cond.constantLong RX2 35 (1442695040888963407), Cond.fieldLink RX2 19 "BoundDraws$Means" "mean" "LBoundDraws$Ratio;", Cond.methodLink RX2 27 yX8_size, Cond.instanceMethod yX8_size, Cond.selects RX8 yX8_size yX8_size, Cond.initialized RX8, Cond.code yX8_size cX8_size 1 (some .int), Cond.fieldLink RX8 18 "BoundDraws$Units" "used" "I", Cond.methodLink RX2 37 yX8_difference, Cond.instanceMethod yX8_difference, Cond.selects RX8 yX8_difference yX8_difference, Cond.code yX8_difference cX8_difference 2 (some .int), Cond.fieldLink RX8 9 "BoundDraws$Units" "differences" "[I", Cond.methodLink RX2 41 yX8_rowsOf, Cond.instanceMethod yX8_rowsOf, Cond.selects RX8 yX8_rowsOf yX8_rowsOf, Cond.code yX8_rowsOf cX8_rowsOf 2 (some .int), Cond.fieldLink RX8 15 "BoundDraws$Units" "sizes" "[I", Cond.methodLink RX2 44 yX4_become, Cond.instanceMethod yX4_become, Cond.selects RX4 yX4_become yX4_become, Cond.initialized RX4]
def wsX2_drawAnew_r2 : List Cond := [Cond.code yX4_become cX4_become 7 none, Cond.methodLink RX4 16 Lib.MathLoose.abs_long.x, Cond.static Lib.MathLoose.abs_long.x, Cond.initialized "java/lang/Math", Cond.code Lib.MathLoose.abs_long.x Lib.MathLoose.abs_long.code 2 (some .long), Cond.fieldLink RX4 7 "BoundDraws$Ratio" "upper" "J", Cond.fieldLink RX4 13 "BoundDraws$Ratio" "lower" "J", Cond.methodLink RX4 22 yX3_commonDivisor, Cond.static yX3_commonDivisor, Cond.initialized RX3, Cond.code yX3_commonDivisor cX3_commonDivisor 11 (some .long), Cond.methodLink RX2 48 yX2_insertMean, Cond.instanceMethod yX2_insertMean, Cond.selects RX2 yX2_insertMean yX2_insertMean, Cond.initialized RX2, Cond.code yX2_insertMean cX2_insertMean 2 none, Cond.fieldLink RX2 9 "BoundDraws$Means" "uppers" "[J", Cond.fieldLink RX2 13 "BoundDraws$Means" "lowers" "[J", Cond.methodLink RX2 51 yX4_isBelow, Cond.instanceMethod yX4_isBelow, Cond.selects RX4 yX4_isBelow yX4_isBelow, Cond.code yX4_isBelow cX4_isBelow 5 (some .boolean), Cond.methodLink RX2 55 yX4_told, Cond.instanceMethod yX4_told]
def wsX2_drawAnew_r3 : List Cond := [Cond.selects RX4 yX4_told yX4_told, Cond.code yX4_told cX4_told 2 (some .long)]
def wsX2_drawAnew : List Cond := .code yX2_drawAnew cX2_drawAnew 15 none :: ((wsX2_drawAnew_r1 ++ (wsX2_drawAnew_r2 ++ wsX2_drawAnew_r3)) ++ wsX20 ++ wsX80 ++ wsX40)
end
section
def wsX2_told : List Cond := .code yX2_told cX2_told 3 (some .long) :: ([.fieldLink RX2 23 "BoundDraws$Means" "used" "I", .fieldLink RX2 9 "BoundDraws$Means" "uppers" "[J", .fieldLink RX2 13 "BoundDraws$Means" "lowers" "[J"] ++ wsX20)
def wsX2_aboveZero : List Cond := .code yX2_aboveZero cX2_aboveZero 3 (some .int) :: ([.fieldLink RX2 23 "BoundDraws$Means" "used" "I", .fieldLink RX2 9 "BoundDraws$Means" "uppers" "[J"] ++ wsX20)
def wsX3_within : List Cond := .code yX3_within cX3_within 3 (some .boolean) :: ([])
def wsX3_setsOutOf : List Cond := .code yX3_setsOutOf cX3_setsOutOf 5 (some .long) :: ([])
def wsX4_capAtOne : List Cond := .code yX4_capAtOne cX4_capAtOne 1 none :: ([.fieldLink RX4 7 "BoundDraws$Ratio" "upper" "J", .fieldLink RX4 13 "BoundDraws$Ratio" "lower" "J", .methodLink RX4 28 yX4_become, .instanceMethod yX4_become, .selects RX4 yX4_become yX4_become, .initialized RX4, .code yX4_become cX4_become 7 none, .methodLink RX4 16 Lib.MathLoose.abs_long.x, .static Lib.MathLoose.abs_long.x, .initialized "java/lang/Math", .code Lib.MathLoose.abs_long.x Lib.MathLoose.abs_long.code 2 (some .long), .methodLink RX4 22 yX3_commonDivisor, .static yX3_commonDivisor, .initialized RX3, .code yX3_commonDivisor cX3_commonDivisor 11 (some .long)] ++ wsX40)
def wsX5_init : List Cond := .code yX5_init cX5_init 1 none :: ([.methodLink RX5 1 objectInit, .instanceMethod objectInit, .code objectInit ⟨#[0xb1]⟩ 1 none, .arrayClass .int, .fieldLink RX5 9 "BoundDraws$Rows" "groups" "[I", .fieldLink RX5 13 "BoundDraws$Rows" "xs" "[I", .fieldLink RX5 16 "BoundDraws$Rows" "ys" "[I", .fieldLink RX5 19 "BoundDraws$Rows" "used" "I"] ++ wsX50)
def wsX5_size : List Cond := .code yX5_size cX5_size 1 (some .int) :: ([.fieldLink RX5 19 "BoundDraws$Rows" "used" "I"] ++ wsX50)
def wsX5_isFull : List Cond := .code yX5_isFull cX5_isFull 1 (some .boolean) :: ([.fieldLink RX5 19 "BoundDraws$Rows" "used" "I"] ++ wsX50)
def wsX5_add : List Cond := .code yX5_add cX5_add 4 none :: ([.fieldLink RX5 9 "BoundDraws$Rows" "groups" "[I", .fieldLink RX5 19 "BoundDraws$Rows" "used" "I", .fieldLink RX5 13 "BoundDraws$Rows" "xs" "[I", .fieldLink RX5 16 "BoundDraws$Rows" "ys" "[I", .methodLink RX5 23 yX5_isFull, .instanceMethod yX5_isFull, .selects RX5 yX5_isFull yX5_isFull, .initialized RX5, .code yX5_isFull cX5_isFull 1 (some .boolean)] ++ wsX50)
def wsX5_removeLast : List Cond := .code yX5_removeLast cX5_removeLast 1 none :: ([.fieldLink RX5 19 "BoundDraws$Rows" "used" "I"] ++ wsX50)
def wsX5_empty : List Cond := .code yX5_empty cX5_empty 1 none :: ([.fieldLink RX5 19 "BoundDraws$Rows" "used" "I"] ++ wsX50)
def wsX5_difference : List Cond := .code yX5_difference cX5_difference 2 (some .int) :: ([.fieldLink RX5 19 "BoundDraws$Rows" "used" "I", .fieldLink RX5 13 "BoundDraws$Rows" "xs" "[I", .fieldLink RX5 16 "BoundDraws$Rows" "ys" "[I"] ++ wsX50)
def wsX5_sizeOfGroup : List Cond := .code yX5_sizeOfGroup cX5_sizeOfGroup 4 (some .int) :: ([.fieldLink RX5 19 "BoundDraws$Rows" "used" "I", .fieldLink RX5 9 "BoundDraws$Rows" "groups" "[I"] ++ wsX50)
def wsX5_differenceOfGroup : List Cond := .code yX5_differenceOfGroup cX5_differenceOfGroup 4 (some .int) :: ([.fieldLink RX5 19 "BoundDraws$Rows" "used" "I", .fieldLink RX5 9 "BoundDraws$Rows" "groups" "[I", .fieldLink RX5 13 "BoundDraws$Rows" "xs" "[I", .fieldLink RX5 16 "BoundDraws$Rows" "ys" "[I"] ++ wsX50)
def wsX5_groupsWithRows : List Cond := .code yX5_groupsWithRows cX5_groupsWithRows 3 (some .int) :: ([.methodLink RX5 27 yX5_sizeOfGroup, .instanceMethod yX5_sizeOfGroup, .selects RX5 yX5_sizeOfGroup yX5_sizeOfGroup, .initialized RX5, .code yX5_sizeOfGroup cX5_sizeOfGroup 4 (some .int), .fieldLink RX5 19 "BoundDraws$Rows" "used" "I", .fieldLink RX5 9 "BoundDraws$Rows" "groups" "[I"] ++ wsX50)
def wsX5_reachedAlone : List Cond := .code yX5_reachedAlone cX5_reachedAlone 6 (some .int) :: ([.fieldLink RX5 19 "BoundDraws$Rows" "used" "I"] ++ wsX50)
def wsX5_winsBy : List Cond := .code yX5_winsBy cX5_winsBy 2 (some .int) :: ([.fieldLink RX5 13 "BoundDraws$Rows" "xs" "[I", .fieldLink RX5 16 "BoundDraws$Rows" "ys" "[I", .methodLink RX5 31 yX5_reachedAlone, .instanceMethod yX5_reachedAlone, .selects RX5 yX5_reachedAlone yX5_reachedAlone, .initialized RX5, .code yX5_reachedAlone cX5_reachedAlone 6 (some .int), .fieldLink RX5 19 "BoundDraws$Rows" "used" "I"] ++ wsX50)
def wsX5_lossesBy : List Cond := .code yX5_lossesBy cX5_lossesBy 2 (some .int) :: ([.fieldLink RX5 16 "BoundDraws$Rows" "ys" "[I", .fieldLink RX5 13 "BoundDraws$Rows" "xs" "[I", .methodLink RX5 31 yX5_reachedAlone, .instanceMethod yX5_reachedAlone, .selects RX5 yX5_reachedAlone yX5_reachedAlone, .initialized RX5, .code yX5_reachedAlone cX5_reachedAlone 6 (some .int), .fieldLink RX5 19 "BoundDraws$Rows" "used" "I"] ++ wsX50)
def wsX6_init : List Cond := .code yX6_init cX6_init 1 none :: ([.methodLink RX6 1 objectInit, .instanceMethod objectInit, .code objectInit ⟨#[0xb1]⟩ 1 none, .classLink RX6 7 RX9, .instantiable RX9 2, .initialized RX9, .fieldLink RX6 10 "BoundDraws$Trial" "ofAll" "LBoundDraws$Wide;", .fieldLink RX6 16 "BoundDraws$Trial" "ofThese" "LBoundDraws$Wide;", .methodLink RX6 9 yX9_init, .instanceMethod yX9_init, .code yX9_init cX9_init 1 none, .methodLink RX9 1 objectInit, .arrayClass .long, .fieldLink RX9 9 "BoundDraws$Wide" "limbs" "[J", .fieldLink RX9 13 "BoundDraws$Wide" "used" "I"] ++ wsX90 ++ wsX60)
def wsX6_start : List Cond := .code yX6_start cX6_start 5 none :: ([.fieldLink RX6 19 "BoundDraws$Trial" "on" "Z", .fieldLink RX6 23 "BoundDraws$Trial" "up" "I", .fieldLink RX6 27 "BoundDraws$Trial" "down" "I", .fieldLink RX6 30 "BoundDraws$Trial" "a" "I", .fieldLink RX6 33 "BoundDraws$Trial" "b" "I", .fieldLink RX6 36 "BoundDraws$Trial" "tries" "I", .fieldLink RX6 39 "BoundDraws$Trial" "hits" "I", .fieldLink RX6 42 "BoundDraws$Trial" "rejectedBehind" "I"] ++ wsX60)
def wsX6_stop : List Cond := .code yX6_stop cX6_stop 1 none :: ([.fieldLink RX6 19 "BoundDraws$Trial" "on" "Z"] ++ wsX60)
def wsX6_isOn : List Cond := .code yX6_isOn cX6_isOn 1 (some .boolean) :: ([.fieldLink RX6 19 "BoundDraws$Trial" "on" "Z"] ++ wsX60)
def wsX6_isFull : List Cond := .code yX6_isFull cX6_isFull 1 (some .boolean) :: ([.fieldLink RX6 36 "BoundDraws$Trial" "tries" "I"] ++ wsX60)
def wsX6_isRich_r1 : List Cond := [Cond.fieldLink RX6 10 "BoundDraws$Trial" "ofAll" "LBoundDraws$Wide;", Cond.fieldLink RX6 30 "BoundDraws$Trial" "a" "I", Cond.fieldLink RX6 27 "BoundDraws$Trial" "down" "I", Cond.fieldLink RX6 36 "BoundDraws$Trial" "tries" "I", Cond.fieldLink RX6 16 "BoundDraws$Trial" "ofThese" "LBoundDraws$Wide;", Cond.fieldLink RX6 39 "BoundDraws$Trial" "hits" "I", Cond.fieldLink RX6 33 "BoundDraws$Trial" "b" "I", Cond.fieldLink RX6 23 "BoundDraws$Trial" "up" "I", Cond.methodLink RX6 52 yX9_become, Cond.instanceMethod yX9_become, Cond.selects RX9 yX9_become yX9_become, Cond.initialized RX9, Cond.code yX9_become cX9_become 4 none, Cond.fieldLink RX9 9 "BoundDraws$Wide" "limbs" "[J", Cond.constantLong RX9 17 (4294967295), Cond.fieldLink RX9 13 "BoundDraws$Wide" "used" "I", Cond.methodLink RX6 56 yX9_multiplyOften, Cond.instanceMethod yX9_multiplyOften, Cond.selects RX9 yX9_multiplyOften yX9_multiplyOften, Cond.code yX9_multiplyOften cX9_multiplyOften 5 none, Cond.methodLink RX9 19 yX9_multiply, Cond.instanceMethod yX9_multiply, Cond.selects RX9 yX9_multiply yX9_multiply, Cond.code yX9_multiply cX9_multiply 8 none]
def wsX6_isRich_r2 : List Cond := [Cond.methodLink RX6 60 yX3_setsOutOf, Cond.static yX3_setsOutOf, Cond.initialized RX3, Cond.code yX3_setsOutOf cX3_setsOutOf 5 (some .long), Cond.methodLink RX6 66 yX9_multiply, Cond.methodLink RX6 69 yX9_against, Cond.instanceMethod yX9_against, Cond.selects RX9 yX9_against yX9_against, Cond.code yX9_against cX9_against 3 (some .int)]
def wsX6_isRich : List Cond := .code yX6_isRich cX6_isRich 1 (some .boolean) :: ((wsX6_isRich_r1 ++ wsX6_isRich_r2) ++ wsX60 ++ wsX90)
def wsX6_take_r1 : List Cond := [Cond.fieldLink RX6 36 "BoundDraws$Trial" "tries" "I", Cond.fieldLink RX6 39 "BoundDraws$Trial" "hits" "I", Cond.fieldLink RX6 42 "BoundDraws$Trial" "rejectedBehind" "I", Cond.methodLink RX6 45 yX6_isFull, Cond.instanceMethod yX6_isFull, Cond.selects RX6 yX6_isFull yX6_isFull, Cond.initialized RX6, Cond.code yX6_isFull cX6_isFull 1 (some .boolean), Cond.methodLink RX6 49 yX6_isRich, Cond.instanceMethod yX6_isRich, Cond.selects RX6 yX6_isRich yX6_isRich, Cond.code yX6_isRich cX6_isRich 1 (some .boolean), Cond.fieldLink RX6 10 "BoundDraws$Trial" "ofAll" "LBoundDraws$Wide;", Cond.fieldLink RX6 30 "BoundDraws$Trial" "a" "I", Cond.fieldLink RX6 27 "BoundDraws$Trial" "down" "I", Cond.fieldLink RX6 16 "BoundDraws$Trial" "ofThese" "LBoundDraws$Wide;", Cond.fieldLink RX6 33 "BoundDraws$Trial" "b" "I", Cond.fieldLink RX6 23 "BoundDraws$Trial" "up" "I", Cond.methodLink RX6 52 yX9_become, Cond.instanceMethod yX9_become, Cond.selects RX9 yX9_become yX9_become, Cond.initialized RX9, Cond.code yX9_become cX9_become 4 none, Cond.fieldLink RX9 9 "BoundDraws$Wide" "limbs" "[J"]
def wsX6_take_r2 : List Cond := [Cond.constantLong RX9 17 (4294967295), Cond.fieldLink RX9 13 "BoundDraws$Wide" "used" "I", Cond.methodLink RX6 56 yX9_multiplyOften, Cond.instanceMethod yX9_multiplyOften, Cond.selects RX9 yX9_multiplyOften yX9_multiplyOften, Cond.code yX9_multiplyOften cX9_multiplyOften 5 none, Cond.methodLink RX9 19 yX9_multiply, Cond.instanceMethod yX9_multiply, Cond.selects RX9 yX9_multiply yX9_multiply, Cond.code yX9_multiply cX9_multiply 8 none, Cond.methodLink RX6 60 yX3_setsOutOf, Cond.static yX3_setsOutOf, Cond.initialized RX3, Cond.code yX3_setsOutOf cX3_setsOutOf 5 (some .long), Cond.methodLink RX6 66 yX9_multiply, Cond.methodLink RX6 69 yX9_against, Cond.instanceMethod yX9_against, Cond.selects RX9 yX9_against yX9_against, Cond.code yX9_against cX9_against 3 (some .int)]
def wsX6_take : List Cond := .code yX6_take cX6_take 2 none :: ((wsX6_take_r1 ++ wsX6_take_r2) ++ wsX60 ++ wsX90)
def wsX6_tries : List Cond := .code yX6_tries cX6_tries 1 (some .int) :: ([.fieldLink RX6 36 "BoundDraws$Trial" "tries" "I"] ++ wsX60)
def wsX6_hits : List Cond := .code yX6_hits cX6_hits 1 (some .int) :: ([.fieldLink RX6 39 "BoundDraws$Trial" "hits" "I"] ++ wsX60)
def wsX6_rejectedBehind : List Cond := .code yX6_rejectedBehind cX6_rejectedBehind 1 (some .int) :: ([.fieldLink RX6 42 "BoundDraws$Trial" "rejectedBehind" "I"] ++ wsX60)
def wsX7_init : List Cond := .code yX7_init cX7_init 1 none :: ([.methodLink RX7 1 objectInit, .instanceMethod objectInit, .code objectInit ⟨#[0xb1]⟩ 1 none, .arrayClass .long, .fieldLink RX7 9 "BoundDraws$Turns" "waysByMinus" "[J", .fieldLink RX7 13 "BoundDraws$Turns" "signs" "I", .fieldLink RX7 17 "BoundDraws$Turns" "rises" "I", .fieldLink RX7 20 "BoundDraws$Turns" "falls" "I"] ++ wsX70)
def wsX7_measure : List Cond := .code yX7_measure cX7_measure 4 none :: ([.fieldLink RX7 13 "BoundDraws$Turns" "signs" "I", .fieldLink RX7 17 "BoundDraws$Turns" "rises" "I", .fieldLink RX7 20 "BoundDraws$Turns" "falls" "I", .methodLink RX7 53 Lib.Math.max.name, .static Lib.Math.max.name, .initialized "java/lang/Math", .code Lib.Math.max.name Lib.Math.max.code 2 (some .int), .methodLink RX7 31 yX8_size, .instanceMethod yX8_size, .selects RX8 yX8_size yX8_size, .initialized RX8, .code yX8_size cX8_size 1 (some .int), .fieldLink RX8 18 "BoundDraws$Units" "used" "I", .methodLink RX7 36 yX8_difference, .instanceMethod yX8_difference, .selects RX8 yX8_difference yX8_difference, .code yX8_difference cX8_difference 2 (some .int), .fieldLink RX8 9 "BoundDraws$Units" "differences" "[I"] ++ wsX70 ++ wsX80)
def wsX7_reach : List Cond := .code yX7_reach cX7_reach 1 (some .int) :: ([.fieldLink RX7 17 "BoundDraws$Turns" "rises" "I", .fieldLink RX7 20 "BoundDraws$Turns" "falls" "I", .methodLink RX7 45 Lib.Math.min.name, .static Lib.Math.min.name, .initialized "java/lang/Math", .code Lib.Math.min.name Lib.Math.min.code 2 (some .int)] ++ wsX70)
def wsX7_takeSign : List Cond := .code yX7_takeSign cX7_takeSign 4 none :: ([.fieldLink RX7 9 "BoundDraws$Turns" "waysByMinus" "[J"] ++ wsX70)
def wsX7_take_r1 : List Cond := [Cond.fieldLink RX7 9 "BoundDraws$Turns" "waysByMinus" "[J", Cond.methodLink RX7 40 Lib.Math.abs.name, Cond.static Lib.Math.abs.name, Cond.initialized "java/lang/Math", Cond.code Lib.Math.abs.name Lib.Math.abs.code 1 (some .int), Cond.methodLink RX7 45 Lib.Math.min.name, Cond.static Lib.Math.min.name, Cond.code Lib.Math.min.name Lib.Math.min.code 2 (some .int), Cond.methodLink RX7 23 yX7_measure, Cond.instanceMethod yX7_measure, Cond.selects RX7 yX7_measure yX7_measure, Cond.initialized RX7, Cond.code yX7_measure cX7_measure 4 none, Cond.fieldLink RX7 13 "BoundDraws$Turns" "signs" "I", Cond.fieldLink RX7 17 "BoundDraws$Turns" "rises" "I", Cond.fieldLink RX7 20 "BoundDraws$Turns" "falls" "I", Cond.methodLink RX7 53 Lib.Math.max.name, Cond.static Lib.Math.max.name, Cond.code Lib.Math.max.name Lib.Math.max.code 2 (some .int), Cond.methodLink RX7 31 yX8_size, Cond.instanceMethod yX8_size, Cond.selects RX8 yX8_size yX8_size, Cond.initialized RX8, Cond.code yX8_size cX8_size 1 (some .int)]
def wsX7_take_r2 : List Cond := [Cond.fieldLink RX8 18 "BoundDraws$Units" "used" "I", Cond.methodLink RX7 36 yX8_difference, Cond.instanceMethod yX8_difference, Cond.selects RX8 yX8_difference yX8_difference, Cond.code yX8_difference cX8_difference 2 (some .int), Cond.fieldLink RX8 9 "BoundDraws$Units" "differences" "[I", Cond.methodLink RX7 27 yX7_reach, Cond.instanceMethod yX7_reach, Cond.selects RX7 yX7_reach yX7_reach, Cond.code yX7_reach cX7_reach 1 (some .int), Cond.methodLink RX7 49 yX7_takeSign, Cond.instanceMethod yX7_takeSign, Cond.selects RX7 yX7_takeSign yX7_takeSign, Cond.code yX7_takeSign cX7_takeSign 4 none]
def wsX7_take : List Cond := .code yX7_take cX7_take 6 none :: ((wsX7_take_r1 ++ wsX7_take_r2) ++ wsX70 ++ wsX80)
def wsX7_signs : List Cond := .code yX7_signs cX7_signs 1 (some .int) :: ([.fieldLink RX7 13 "BoundDraws$Turns" "signs" "I"] ++ wsX70)
def wsX7_waysUpTo : List Cond := .code yX7_waysUpTo cX7_waysUpTo 6 (some .long) :: ([.methodLink RX7 45 Lib.Math.min.name, .static Lib.Math.min.name, .initialized "java/lang/Math", .code Lib.Math.min.name Lib.Math.min.code 2 (some .int), .fieldLink RX7 9 "BoundDraws$Turns" "waysByMinus" "[J"] ++ wsX70)
def wsX7_allWays : List Cond := .code yX7_allWays cX7_allWays 1 (some .long) :: ([.fieldLink RX7 13 "BoundDraws$Turns" "signs" "I"] ++ wsX70)
def wsX7_waysAtLeast : List Cond := .code yX7_waysAtLeast cX7_waysAtLeast 1 (some .long) :: ([.fieldLink RX7 17 "BoundDraws$Turns" "rises" "I", .fieldLink RX7 20 "BoundDraws$Turns" "falls" "I", .methodLink RX7 56 yX7_waysUpTo, .instanceMethod yX7_waysUpTo, .selects RX7 yX7_waysUpTo yX7_waysUpTo, .initialized RX7, .code yX7_waysUpTo cX7_waysUpTo 6 (some .long), .methodLink RX7 45 Lib.Math.min.name, .static Lib.Math.min.name, .initialized "java/lang/Math", .code Lib.Math.min.name Lib.Math.min.code 2 (some .int), .fieldLink RX7 9 "BoundDraws$Turns" "waysByMinus" "[J", .methodLink RX7 60 yX7_allWays, .instanceMethod yX7_allWays, .selects RX7 yX7_allWays yX7_allWays, .code yX7_allWays cX7_allWays 1 (some .long), .fieldLink RX7 13 "BoundDraws$Turns" "signs" "I"] ++ wsX70)
def wsX7_waysAsFar : List Cond := .code yX7_waysAsFar cX7_waysAsFar 1 (some .long) :: ([.fieldLink RX7 17 "BoundDraws$Turns" "rises" "I", .fieldLink RX7 20 "BoundDraws$Turns" "falls" "I", .constantLong RX7 64 (2), .methodLink RX7 60 yX7_allWays, .instanceMethod yX7_allWays, .selects RX7 yX7_allWays yX7_allWays, .initialized RX7, .code yX7_allWays cX7_allWays 1 (some .long), .fieldLink RX7 13 "BoundDraws$Turns" "signs" "I", .methodLink RX7 27 yX7_reach, .instanceMethod yX7_reach, .selects RX7 yX7_reach yX7_reach, .code yX7_reach cX7_reach 1 (some .int), .methodLink RX7 45 Lib.Math.min.name, .static Lib.Math.min.name, .initialized "java/lang/Math", .code Lib.Math.min.name Lib.Math.min.code 2 (some .int), .methodLink RX7 56 yX7_waysUpTo, .instanceMethod yX7_waysUpTo, .selects RX7 yX7_waysUpTo yX7_waysUpTo, .code yX7_waysUpTo cX7_waysUpTo 6 (some .long), .fieldLink RX7 9 "BoundDraws$Turns" "waysByMinus" "[J"] ++ wsX70)
def wsX8_init : List Cond := .code yX8_init cX8_init 1 none :: ([.methodLink RX8 1 objectInit, .instanceMethod objectInit, .code objectInit ⟨#[0xb1]⟩ 1 none, .arrayClass .int, .fieldLink RX8 9 "BoundDraws$Units" "differences" "[I", .fieldLink RX8 15 "BoundDraws$Units" "sizes" "[I", .fieldLink RX8 18 "BoundDraws$Units" "used" "I"] ++ wsX80)
def wsX8_add : List Cond := .code yX8_add cX8_add 3 none :: ([.fieldLink RX8 18 "BoundDraws$Units" "used" "I", .fieldLink RX8 9 "BoundDraws$Units" "differences" "[I", .fieldLink RX8 15 "BoundDraws$Units" "sizes" "[I"] ++ wsX80)
def wsX8_takeGroups : List Cond := .code yX8_takeGroups cX8_takeGroups 4 none :: ([.methodLink RX8 41 yX5_sizeOfGroup, .instanceMethod yX5_sizeOfGroup, .selects RX5 yX5_sizeOfGroup yX5_sizeOfGroup, .initialized RX5, .code yX5_sizeOfGroup cX5_sizeOfGroup 4 (some .int), .fieldLink RX5 19 "BoundDraws$Rows" "used" "I", .fieldLink RX5 9 "BoundDraws$Rows" "groups" "[I", .methodLink RX8 44 yX5_differenceOfGroup, .instanceMethod yX5_differenceOfGroup, .selects RX5 yX5_differenceOfGroup yX5_differenceOfGroup, .code yX5_differenceOfGroup cX5_differenceOfGroup 4 (some .int), .fieldLink RX5 13 "BoundDraws$Rows" "xs" "[I", .fieldLink RX5 16 "BoundDraws$Rows" "ys" "[I", .methodLink RX8 37 yX8_add, .instanceMethod yX8_add, .selects RX8 yX8_add yX8_add, .initialized RX8, .code yX8_add cX8_add 3 none, .fieldLink RX8 18 "BoundDraws$Units" "used" "I", .fieldLink RX8 9 "BoundDraws$Units" "differences" "[I", .fieldLink RX8 15 "BoundDraws$Units" "sizes" "[I"] ++ wsX50 ++ wsX80)
def wsX8_takeRows : List Cond := .code yX8_takeRows cX8_takeRows 3 none :: ([.methodLink RX8 29 yX5_size, .instanceMethod yX5_size, .selects RX5 yX5_size yX5_size, .initialized RX5, .code yX5_size cX5_size 1 (some .int), .fieldLink RX5 19 "BoundDraws$Rows" "used" "I", .methodLink RX8 33 yX5_difference, .instanceMethod yX5_difference, .selects RX5 yX5_difference yX5_difference, .code yX5_difference cX5_difference 2 (some .int), .fieldLink RX5 13 "BoundDraws$Rows" "xs" "[I", .fieldLink RX5 16 "BoundDraws$Rows" "ys" "[I", .methodLink RX8 37 yX8_add, .instanceMethod yX8_add, .selects RX8 yX8_add yX8_add, .initialized RX8, .code yX8_add cX8_add 3 none, .fieldLink RX8 18 "BoundDraws$Units" "used" "I", .fieldLink RX8 9 "BoundDraws$Units" "differences" "[I", .fieldLink RX8 15 "BoundDraws$Units" "sizes" "[I"] ++ wsX50 ++ wsX80)
def wsX8_take_r1 : List Cond := [Cond.fieldLink RX8 18 "BoundDraws$Units" "used" "I", Cond.methodLink RX8 22 yX8_takeGroups, Cond.instanceMethod yX8_takeGroups, Cond.selects RX8 yX8_takeGroups yX8_takeGroups, Cond.initialized RX8, Cond.code yX8_takeGroups cX8_takeGroups 4 none, Cond.methodLink RX8 41 yX5_sizeOfGroup, Cond.instanceMethod yX5_sizeOfGroup, Cond.selects RX5 yX5_sizeOfGroup yX5_sizeOfGroup, Cond.initialized RX5, Cond.code yX5_sizeOfGroup cX5_sizeOfGroup 4 (some .int), Cond.fieldLink RX5 19 "BoundDraws$Rows" "used" "I", Cond.fieldLink RX5 9 "BoundDraws$Rows" "groups" "[I", Cond.methodLink RX8 44 yX5_differenceOfGroup, Cond.instanceMethod yX5_differenceOfGroup, Cond.selects RX5 yX5_differenceOfGroup yX5_differenceOfGroup, Cond.code yX5_differenceOfGroup cX5_differenceOfGroup 4 (some .int), Cond.fieldLink RX5 13 "BoundDraws$Rows" "xs" "[I", Cond.fieldLink RX5 16 "BoundDraws$Rows" "ys" "[I", Cond.methodLink RX8 37 yX8_add, Cond.instanceMethod yX8_add, Cond.selects RX8 yX8_add yX8_add, Cond.code yX8_add cX8_add 3 none, Cond.fieldLink RX8 9 "BoundDraws$Units" "differences" "[I"]
def wsX8_take_r2 : List Cond := [Cond.fieldLink RX8 15 "BoundDraws$Units" "sizes" "[I", Cond.methodLink RX8 26 yX8_takeRows, Cond.instanceMethod yX8_takeRows, Cond.selects RX8 yX8_takeRows yX8_takeRows, Cond.code yX8_takeRows cX8_takeRows 3 none, Cond.methodLink RX8 29 yX5_size, Cond.instanceMethod yX5_size, Cond.selects RX5 yX5_size yX5_size, Cond.code yX5_size cX5_size 1 (some .int), Cond.methodLink RX8 33 yX5_difference, Cond.instanceMethod yX5_difference, Cond.selects RX5 yX5_difference yX5_difference, Cond.code yX5_difference cX5_difference 2 (some .int)]
def wsX8_take : List Cond := .code yX8_take cX8_take 3 none :: ((wsX8_take_r1 ++ wsX8_take_r2) ++ wsX80 ++ wsX50)
def wsX10_init_r1 : List Cond := [Cond.methodLink RX10 1 objectInit, Cond.instanceMethod objectInit, Cond.code objectInit ⟨#[0xb1]⟩ 1 none, Cond.classLink RX10 7 RX1, Cond.instantiable RX1 3, Cond.initialized RX1, Cond.fieldLink RX10 10 "BoundDraws" "hits" "LBoundDraws$Hits;", Cond.classLink RX10 16 RX5, Cond.instantiable RX5 4, Cond.initialized RX5, Cond.fieldLink RX10 19 "BoundDraws" "rows" "LBoundDraws$Rows;", Cond.classLink RX10 23 RX8, Cond.instantiable RX8 3, Cond.initialized RX8, Cond.fieldLink RX10 26 "BoundDraws" "units" "LBoundDraws$Units;", Cond.classLink RX10 30 RX7, Cond.instantiable RX7 4, Cond.initialized RX7, Cond.fieldLink RX10 33 "BoundDraws" "turns" "LBoundDraws$Turns;", Cond.classLink RX10 37 RX2, Cond.instantiable RX2 4, Cond.initialized RX2, Cond.fieldLink RX10 40 "BoundDraws" "means" "LBoundDraws$Means;", Cond.classLink RX10 44 RX0]
def wsX10_init_r2 : List Cond := [Cond.instantiable RX0 3, Cond.initialized RX0, Cond.fieldLink RX10 47 "BoundDraws" "compares" "LBoundDraws$Compares;", Cond.classLink RX10 51 RX6, Cond.instantiable RX6 10, Cond.initialized RX6, Cond.fieldLink RX10 54 "BoundDraws" "trial" "LBoundDraws$Trial;", Cond.classLink RX10 58 RX4, Cond.instantiable RX4 2, Cond.initialized RX4, Cond.fieldLink RX10 61 "BoundDraws" "answer" "LBoundDraws$Ratio;", Cond.methodLink RX10 9 yX1_init, Cond.instanceMethod yX1_init, Cond.code yX1_init cX1_init 1 none, Cond.methodLink RX1 1 objectInit, Cond.classLink RX1 7 RX9, Cond.instantiable RX9 2, Cond.initialized RX9, Cond.fieldLink RX1 10 "BoundDraws$Hits" "sum" "LBoundDraws$Wide;", Cond.fieldLink RX1 16 "BoundDraws$Hits" "power" "LBoundDraws$Wide;", Cond.fieldLink RX1 19 "BoundDraws$Hits" "measure" "LBoundDraws$Wide;", Cond.methodLink RX1 9 yX9_init, Cond.instanceMethod yX9_init, Cond.code yX9_init cX9_init 1 none]
def wsX10_init_r3 : List Cond := [Cond.methodLink RX9 1 objectInit, Cond.arrayClass .long, Cond.fieldLink RX9 9 "BoundDraws$Wide" "limbs" "[J", Cond.fieldLink RX9 13 "BoundDraws$Wide" "used" "I", Cond.methodLink RX10 18 yX5_init, Cond.instanceMethod yX5_init, Cond.code yX5_init cX5_init 1 none, Cond.methodLink RX5 1 objectInit, Cond.arrayClass .int, Cond.fieldLink RX5 9 "BoundDraws$Rows" "groups" "[I", Cond.fieldLink RX5 13 "BoundDraws$Rows" "xs" "[I", Cond.fieldLink RX5 16 "BoundDraws$Rows" "ys" "[I", Cond.fieldLink RX5 19 "BoundDraws$Rows" "used" "I", Cond.methodLink RX10 25 yX8_init, Cond.instanceMethod yX8_init, Cond.code yX8_init cX8_init 1 none, Cond.methodLink RX8 1 objectInit, Cond.fieldLink RX8 9 "BoundDraws$Units" "differences" "[I", Cond.fieldLink RX8 15 "BoundDraws$Units" "sizes" "[I", Cond.fieldLink RX8 18 "BoundDraws$Units" "used" "I", Cond.methodLink RX10 32 yX7_init, Cond.instanceMethod yX7_init, Cond.code yX7_init cX7_init 1 none, Cond.methodLink RX7 1 objectInit]
def wsX10_init_r4 : List Cond := [Cond.fieldLink RX7 9 "BoundDraws$Turns" "waysByMinus" "[J", Cond.fieldLink RX7 13 "BoundDraws$Turns" "signs" "I", Cond.fieldLink RX7 17 "BoundDraws$Turns" "rises" "I", Cond.fieldLink RX7 20 "BoundDraws$Turns" "falls" "I", Cond.methodLink RX10 39 yX2_init, Cond.instanceMethod yX2_init, Cond.code yX2_init cX2_init 1 none, Cond.methodLink RX2 1 objectInit, Cond.fieldLink RX2 9 "BoundDraws$Means" "uppers" "[J", Cond.fieldLink RX2 13 "BoundDraws$Means" "lowers" "[J", Cond.classLink RX2 16 RX4, Cond.fieldLink RX2 19 "BoundDraws$Means" "mean" "LBoundDraws$Ratio;", Cond.fieldLink RX2 23 "BoundDraws$Means" "used" "I", Cond.methodLink RX2 18 yX4_init, Cond.instanceMethod yX4_init, Cond.code yX4_init cX4_init 1 none, Cond.methodLink RX4 1 objectInit, Cond.fieldLink RX4 7 "BoundDraws$Ratio" "upper" "J", Cond.fieldLink RX4 13 "BoundDraws$Ratio" "lower" "J", Cond.methodLink RX10 46 yX0_init, Cond.instanceMethod yX0_init, Cond.code yX0_init cX0_init 1 none, Cond.methodLink RX0 1 objectInit, Cond.fieldLink RX0 9 "BoundDraws$Compares" "ups" "[I"]
def wsX10_init_r5 : List Cond := [Cond.fieldLink RX0 13 "BoundDraws$Compares" "downs" "[I", Cond.fieldLink RX0 16 "BoundDraws$Compares" "used" "I", Cond.methodLink RX10 53 yX6_init, Cond.instanceMethod yX6_init, Cond.code yX6_init cX6_init 1 none, Cond.methodLink RX6 1 objectInit, Cond.classLink RX6 7 RX9, Cond.fieldLink RX6 10 "BoundDraws$Trial" "ofAll" "LBoundDraws$Wide;", Cond.fieldLink RX6 16 "BoundDraws$Trial" "ofThese" "LBoundDraws$Wide;", Cond.methodLink RX6 9 yX9_init, Cond.methodLink RX10 60 yX4_init]
def wsX10_init : List Cond := .code yX10_init cX10_init 1 none :: ((wsX10_init_r1 ++ (wsX10_init_r2 ++ (wsX10_init_r3 ++ (wsX10_init_r4 ++ wsX10_init_r5)))) ++ wsX10 ++ wsX100 ++ wsX50 ++ wsX80 ++ wsX70 ++ wsX20 ++ wsX00 ++ wsX60 ++ wsX40 ++ wsX90)
def wsX10_isSide : List Cond := .code yX10_isSide cX10_isSide 1 (some .boolean) :: ([])
def wsX10_areHits : List Cond := .code yX10_areHits cX10_areHits 5 (some .boolean) :: ([.methodLink RX10 69 yX3_within, .static yX3_within, .initialized RX3, .code yX3_within cX3_within 3 (some .boolean), .methodLink RX10 85 yX10_isSide, .static yX10_isSide, .initialized RX10, .code yX10_isSide cX10_isSide 1 (some .boolean)])
def wsX10_above_r1 : List Cond := [Cond.constantLong RX10 75 (-1), Cond.fieldLink RX10 10 "BoundDraws" "hits" "LBoundDraws$Hits;", Cond.methodLink RX10 65 yX10_areHits, Cond.static yX10_areHits, Cond.initialized RX10, Cond.code yX10_areHits cX10_areHits 5 (some .boolean), Cond.methodLink RX10 69 yX3_within, Cond.static yX3_within, Cond.initialized RX3, Cond.code yX3_within cX3_within 3 (some .boolean), Cond.methodLink RX10 85 yX10_isSide, Cond.static yX10_isSide, Cond.code yX10_isSide cX10_isSide 1 (some .boolean), Cond.methodLink RX10 77 yX1_limbOfAbove, Cond.instanceMethod yX1_limbOfAbove, Cond.selects RX1 yX1_limbOfAbove yX1_limbOfAbove, Cond.initialized RX1, Cond.code yX1_limbOfAbove cX1_limbOfAbove 7 (some .long), Cond.fieldLink RX1 10 "BoundDraws$Hits" "sum" "LBoundDraws$Wide;", Cond.methodLink RX1 22 yX1_sumUp, Cond.instanceMethod yX1_sumUp, Cond.selects RX1 yX1_sumUp yX1_sumUp, Cond.code yX1_sumUp cX1_sumUp 6 none, Cond.methodLink RX1 51 yX1_sumOfAtLeast]
def wsX10_above_r2 : List Cond := [Cond.instanceMethod yX1_sumOfAtLeast, Cond.selects RX1 yX1_sumOfAtLeast yX1_sumOfAtLeast, Cond.code yX1_sumOfAtLeast cX1_sumOfAtLeast 8 none, Cond.fieldLink RX1 16 "BoundDraws$Hits" "power" "LBoundDraws$Wide;", Cond.methodLink RX1 30 yX9_become, Cond.instanceMethod yX9_become, Cond.selects RX9 yX9_become yX9_become, Cond.initialized RX9, Cond.code yX9_become cX9_become 4 none, Cond.fieldLink RX9 9 "BoundDraws$Wide" "limbs" "[J", Cond.constantLong RX9 17 (4294967295), Cond.fieldLink RX9 13 "BoundDraws$Wide" "used" "I", Cond.methodLink RX1 38 yX9_multiply, Cond.instanceMethod yX9_multiply, Cond.selects RX9 yX9_multiply yX9_multiply, Cond.code yX9_multiply cX9_multiply 8 none, Cond.methodLink RX1 55 yX9_addTimes, Cond.instanceMethod yX9_addTimes, Cond.selects RX9 yX9_addTimes yX9_addTimes, Cond.code yX9_addTimes cX9_addTimes 10 none, Cond.methodLink RX9 23 Lib.Math.max.name, Cond.static Lib.Math.max.name, Cond.initialized "java/lang/Math", Cond.code Lib.Math.max.name Lib.Math.max.code 2 (some .int)]
def wsX10_above_r3 : List Cond := [Cond.methodLink RX9 29 Lib.Math.min.name, Cond.static Lib.Math.min.name, Cond.code Lib.Math.min.name Lib.Math.min.code 2 (some .int), Cond.methodLink RX1 34 yX9_multiplyOften, Cond.instanceMethod yX9_multiplyOften, Cond.selects RX9 yX9_multiplyOften yX9_multiplyOften, Cond.code yX9_multiplyOften cX9_multiplyOften 5 none, Cond.methodLink RX9 19 yX9_multiply, Cond.methodLink RX1 26 yX9_limb, Cond.instanceMethod yX9_limb, Cond.selects RX9 yX9_limb yX9_limb, Cond.code yX9_limb cX9_limb 2 (some .long)]
def wsX10_above : List Cond := .code yX10_above cX10_above 7 (some .long) :: ((wsX10_above_r1 ++ (wsX10_above_r2 ++ wsX10_above_r3)) ++ wsX100 ++ wsX10 ++ wsX90)
def wsX10_odds_r1 : List Cond := [Cond.fieldLink RX10 10 "BoundDraws" "hits" "LBoundDraws$Hits;", Cond.methodLink RX10 65 yX10_areHits, Cond.static yX10_areHits, Cond.initialized RX10, Cond.code yX10_areHits cX10_areHits 5 (some .boolean), Cond.methodLink RX10 69 yX3_within, Cond.static yX3_within, Cond.initialized RX3, Cond.code yX3_within cX3_within 3 (some .boolean), Cond.methodLink RX10 85 yX10_isSide, Cond.static yX10_isSide, Cond.code yX10_isSide cX10_isSide 1 (some .boolean), Cond.methodLink RX10 81 yX1_oddsAgainst, Cond.instanceMethod yX1_oddsAgainst, Cond.selects RX1 yX1_oddsAgainst yX1_oddsAgainst, Cond.initialized RX1, Cond.code yX1_oddsAgainst cX1_oddsAgainst 8 (some .int), Cond.fieldLink RX1 19 "BoundDraws$Hits" "measure" "LBoundDraws$Wide;", Cond.fieldLink RX1 10 "BoundDraws$Hits" "sum" "LBoundDraws$Wide;", Cond.methodLink RX1 30 yX9_become, Cond.instanceMethod yX9_become, Cond.selects RX9 yX9_become yX9_become, Cond.initialized RX9, Cond.code yX9_become cX9_become 4 none]
def wsX10_odds_r2 : List Cond := [Cond.fieldLink RX9 9 "BoundDraws$Wide" "limbs" "[J", Cond.constantLong RX9 17 (4294967295), Cond.fieldLink RX9 13 "BoundDraws$Wide" "used" "I", Cond.methodLink RX1 34 yX9_multiplyOften, Cond.instanceMethod yX9_multiplyOften, Cond.selects RX9 yX9_multiplyOften yX9_multiplyOften, Cond.code yX9_multiplyOften cX9_multiplyOften 5 none, Cond.methodLink RX9 19 yX9_multiply, Cond.instanceMethod yX9_multiply, Cond.selects RX9 yX9_multiply yX9_multiply, Cond.code yX9_multiply cX9_multiply 8 none, Cond.methodLink RX1 22 yX1_sumUp, Cond.instanceMethod yX1_sumUp, Cond.selects RX1 yX1_sumUp yX1_sumUp, Cond.code yX1_sumUp cX1_sumUp 6 none, Cond.methodLink RX1 51 yX1_sumOfAtLeast, Cond.instanceMethod yX1_sumOfAtLeast, Cond.selects RX1 yX1_sumOfAtLeast yX1_sumOfAtLeast, Cond.code yX1_sumOfAtLeast cX1_sumOfAtLeast 8 none, Cond.fieldLink RX1 16 "BoundDraws$Hits" "power" "LBoundDraws$Wide;", Cond.methodLink RX1 38 yX9_multiply, Cond.methodLink RX1 55 yX9_addTimes, Cond.instanceMethod yX9_addTimes, Cond.selects RX9 yX9_addTimes yX9_addTimes]
def wsX10_odds_r3 : List Cond := [Cond.code yX9_addTimes cX9_addTimes 10 none, Cond.methodLink RX9 23 Lib.Math.max.name, Cond.static Lib.Math.max.name, Cond.initialized "java/lang/Math", Cond.code Lib.Math.max.name Lib.Math.max.code 2 (some .int), Cond.methodLink RX9 29 Lib.Math.min.name, Cond.static Lib.Math.min.name, Cond.code Lib.Math.min.name Lib.Math.min.code 2 (some .int), Cond.methodLink RX1 41 yX9_against, Cond.instanceMethod yX9_against, Cond.selects RX9 yX9_against yX9_against, Cond.code yX9_against cX9_against 3 (some .int)]
def wsX10_odds : List Cond := .code yX10_odds cX10_odds 8 (some .int) :: ((wsX10_odds_r1 ++ (wsX10_odds_r2 ++ wsX10_odds_r3)) ++ wsX100 ++ wsX10 ++ wsX90)
def wsX10_isTrust : List Cond := .code yX10_isTrust cX10_isTrust 2 (some .boolean) :: ([.methodLink RX10 69 yX3_within, .static yX3_within, .initialized RX3, .code yX3_within cX3_within 3 (some .boolean)])
def wsX10_bound_r1 : List Cond := [Cond.classLink RX10 93 "java/lang/IllegalArgumentException", Cond.initialized "java/lang/IllegalArgumentException", Cond.fieldLink RX10 10 "BoundDraws" "hits" "LBoundDraws$Hits;", Cond.methodLink RX10 69 yX3_within, Cond.static yX3_within, Cond.initialized RX3, Cond.code yX3_within cX3_within 3 (some .boolean), Cond.methodLink RX10 85 yX10_isSide, Cond.static yX10_isSide, Cond.initialized RX10, Cond.code yX10_isSide cX10_isSide 1 (some .boolean), Cond.methodLink RX10 89 yX10_isTrust, Cond.static yX10_isTrust, Cond.code yX10_isTrust cX10_isTrust 2 (some .boolean), Cond.methodLink RX10 100 yX1_upper, Cond.instanceMethod yX1_upper, Cond.selects RX1 yX1_upper yX1_upper, Cond.initialized RX1, Cond.code yX1_upper cX1_upper 9 (some .int), Cond.fieldLink RX1 19 "BoundDraws$Hits" "measure" "LBoundDraws$Wide;", Cond.constantLong RX1 45 (1000), Cond.fieldLink RX1 10 "BoundDraws$Hits" "sum" "LBoundDraws$Wide;", Cond.methodLink RX1 30 yX9_become, Cond.instanceMethod yX9_become]
def wsX10_bound_r2 : List Cond := [Cond.selects RX9 yX9_become yX9_become, Cond.initialized RX9, Cond.code yX9_become cX9_become 4 none, Cond.fieldLink RX9 9 "BoundDraws$Wide" "limbs" "[J", Cond.constantLong RX9 17 (4294967295), Cond.fieldLink RX9 13 "BoundDraws$Wide" "used" "I", Cond.methodLink RX1 34 yX9_multiplyOften, Cond.instanceMethod yX9_multiplyOften, Cond.selects RX9 yX9_multiplyOften yX9_multiplyOften, Cond.code yX9_multiplyOften cX9_multiplyOften 5 none, Cond.methodLink RX9 19 yX9_multiply, Cond.instanceMethod yX9_multiply, Cond.selects RX9 yX9_multiply yX9_multiply, Cond.code yX9_multiply cX9_multiply 8 none, Cond.methodLink RX1 22 yX1_sumUp, Cond.instanceMethod yX1_sumUp, Cond.selects RX1 yX1_sumUp yX1_sumUp, Cond.code yX1_sumUp cX1_sumUp 6 none, Cond.methodLink RX1 51 yX1_sumOfAtLeast, Cond.instanceMethod yX1_sumOfAtLeast, Cond.selects RX1 yX1_sumOfAtLeast yX1_sumOfAtLeast, Cond.code yX1_sumOfAtLeast cX1_sumOfAtLeast 8 none, Cond.fieldLink RX1 16 "BoundDraws$Hits" "power" "LBoundDraws$Wide;", Cond.methodLink RX1 38 yX9_multiply]
def wsX10_bound_r3 : List Cond := [Cond.methodLink RX1 55 yX9_addTimes, Cond.instanceMethod yX9_addTimes, Cond.selects RX9 yX9_addTimes yX9_addTimes, Cond.code yX9_addTimes cX9_addTimes 10 none, Cond.methodLink RX9 23 Lib.Math.max.name, Cond.static Lib.Math.max.name, Cond.initialized "java/lang/Math", Cond.code Lib.Math.max.name Lib.Math.max.code 2 (some .int), Cond.methodLink RX9 29 Lib.Math.min.name, Cond.static Lib.Math.min.name, Cond.code Lib.Math.min.name Lib.Math.min.code 2 (some .int), Cond.methodLink RX1 41 yX9_against, Cond.instanceMethod yX9_against, Cond.selects RX9 yX9_against yX9_against, Cond.code yX9_against cX9_against 3 (some .int), Cond.methodLink RX10 104 yX1_lower, Cond.instanceMethod yX1_lower, Cond.selects RX1 yX1_lower yX1_lower, Cond.code yX1_lower cX1_lower 5 (some .int), Cond.methodLink RX1 47 yX1_upper]
def wsX10_bound : List Cond := .code yX10_bound cX10_bound 6 (some .int) :: ((wsX10_bound_r1 ++ (wsX10_bound_r2 ++ wsX10_bound_r3)) ++ wsX100 ++ wsX10 ++ wsX90 ++ (vx_atS RX10 97 "java/lang/IllegalArgumentException" ["java/lang/RuntimeException", "java/lang/Exception"]).filter goodWord)
def wsX10_row : List Cond := .code yX10_row cX10_row 4 (some .int) :: ([.fieldLink RX10 19 "BoundDraws" "rows" "LBoundDraws$Rows;", .methodLink RX10 69 yX3_within, .static yX3_within, .initialized RX3, .code yX3_within cX3_within 3 (some .boolean), .methodLink RX10 107 yX5_isFull, .instanceMethod yX5_isFull, .selects RX5 yX5_isFull yX5_isFull, .initialized RX5, .code yX5_isFull cX5_isFull 1 (some .boolean), .fieldLink RX5 19 "BoundDraws$Rows" "used" "I", .methodLink RX10 111 yX5_add, .instanceMethod yX5_add, .selects RX5 yX5_add yX5_add, .code yX5_add cX5_add 4 none, .fieldLink RX5 9 "BoundDraws$Rows" "groups" "[I", .fieldLink RX5 13 "BoundDraws$Rows" "xs" "[I", .fieldLink RX5 16 "BoundDraws$Rows" "ys" "[I", .methodLink RX5 23 yX5_isFull, .methodLink RX10 115 yX5_size, .instanceMethod yX5_size, .selects RX5 yX5_size yX5_size, .code yX5_size cX5_size 1 (some .int)] ++ wsX100 ++ wsX50)
def wsX10_drop : List Cond := .code yX10_drop cX10_drop 1 (some .int) :: ([.fieldLink RX10 19 "BoundDraws" "rows" "LBoundDraws$Rows;", .methodLink RX10 115 yX5_size, .instanceMethod yX5_size, .selects RX5 yX5_size yX5_size, .initialized RX5, .code yX5_size cX5_size 1 (some .int), .fieldLink RX5 19 "BoundDraws$Rows" "used" "I", .methodLink RX10 119 yX5_removeLast, .instanceMethod yX5_removeLast, .selects RX5 yX5_removeLast yX5_removeLast, .code yX5_removeLast cX5_removeLast 1 none] ++ wsX100 ++ wsX50)
def wsX10_turned_r1 : List Cond := [Cond.constantLong RX10 75 (-1), Cond.fieldLink RX10 26 "BoundDraws" "units" "LBoundDraws$Units;", Cond.fieldLink RX10 19 "BoundDraws" "rows" "LBoundDraws$Rows;", Cond.fieldLink RX10 33 "BoundDraws" "turns" "LBoundDraws$Turns;", Cond.methodLink RX10 69 yX3_within, Cond.static yX3_within, Cond.initialized RX3, Cond.code yX3_within cX3_within 3 (some .boolean), Cond.methodLink RX10 122 yX8_take, Cond.instanceMethod yX8_take, Cond.selects RX8 yX8_take yX8_take, Cond.initialized RX8, Cond.code yX8_take cX8_take 3 none, Cond.fieldLink RX8 18 "BoundDraws$Units" "used" "I", Cond.methodLink RX8 22 yX8_takeGroups, Cond.instanceMethod yX8_takeGroups, Cond.selects RX8 yX8_takeGroups yX8_takeGroups, Cond.code yX8_takeGroups cX8_takeGroups 4 none, Cond.methodLink RX8 41 yX5_sizeOfGroup, Cond.instanceMethod yX5_sizeOfGroup, Cond.selects RX5 yX5_sizeOfGroup yX5_sizeOfGroup, Cond.initialized RX5, Cond.code yX5_sizeOfGroup cX5_sizeOfGroup 4 (some .int), Cond.fieldLink RX5 19 "BoundDraws$Rows" "used" "I"]
def wsX10_turned_r2 : List Cond := [Cond.fieldLink RX5 9 "BoundDraws$Rows" "groups" "[I", Cond.methodLink RX8 44 yX5_differenceOfGroup, Cond.instanceMethod yX5_differenceOfGroup, Cond.selects RX5 yX5_differenceOfGroup yX5_differenceOfGroup, Cond.code yX5_differenceOfGroup cX5_differenceOfGroup 4 (some .int), Cond.fieldLink RX5 13 "BoundDraws$Rows" "xs" "[I", Cond.fieldLink RX5 16 "BoundDraws$Rows" "ys" "[I", Cond.methodLink RX8 37 yX8_add, Cond.instanceMethod yX8_add, Cond.selects RX8 yX8_add yX8_add, Cond.code yX8_add cX8_add 3 none, Cond.fieldLink RX8 9 "BoundDraws$Units" "differences" "[I", Cond.fieldLink RX8 15 "BoundDraws$Units" "sizes" "[I", Cond.methodLink RX8 26 yX8_takeRows, Cond.instanceMethod yX8_takeRows, Cond.selects RX8 yX8_takeRows yX8_takeRows, Cond.code yX8_takeRows cX8_takeRows 3 none, Cond.methodLink RX8 29 yX5_size, Cond.instanceMethod yX5_size, Cond.selects RX5 yX5_size yX5_size, Cond.code yX5_size cX5_size 1 (some .int), Cond.methodLink RX8 33 yX5_difference, Cond.instanceMethod yX5_difference, Cond.selects RX5 yX5_difference yX5_difference]
def wsX10_turned_r3 : List Cond := [Cond.code yX5_difference cX5_difference 2 (some .int), Cond.methodLink RX10 126 yX7_take, Cond.instanceMethod yX7_take, Cond.selects RX7 yX7_take yX7_take, Cond.initialized RX7, Cond.code yX7_take cX7_take 6 none, Cond.fieldLink RX7 9 "BoundDraws$Turns" "waysByMinus" "[J", Cond.methodLink RX7 40 Lib.Math.abs.name, Cond.static Lib.Math.abs.name, Cond.initialized "java/lang/Math", Cond.code Lib.Math.abs.name Lib.Math.abs.code 1 (some .int), Cond.methodLink RX7 45 Lib.Math.min.name, Cond.static Lib.Math.min.name, Cond.code Lib.Math.min.name Lib.Math.min.code 2 (some .int), Cond.methodLink RX7 23 yX7_measure, Cond.instanceMethod yX7_measure, Cond.selects RX7 yX7_measure yX7_measure, Cond.code yX7_measure cX7_measure 4 none, Cond.fieldLink RX7 13 "BoundDraws$Turns" "signs" "I", Cond.fieldLink RX7 17 "BoundDraws$Turns" "rises" "I", Cond.fieldLink RX7 20 "BoundDraws$Turns" "falls" "I", Cond.methodLink RX7 53 Lib.Math.max.name, Cond.static Lib.Math.max.name, Cond.code Lib.Math.max.name Lib.Math.max.code 2 (some .int)]
def wsX10_turned_r4 : List Cond := [Cond.methodLink RX7 31 yX8_size, Cond.instanceMethod yX8_size, Cond.selects RX8 yX8_size yX8_size, Cond.code yX8_size cX8_size 1 (some .int), Cond.methodLink RX7 36 yX8_difference, Cond.instanceMethod yX8_difference, Cond.selects RX8 yX8_difference yX8_difference, Cond.code yX8_difference cX8_difference 2 (some .int), Cond.methodLink RX7 27 yX7_reach, Cond.instanceMethod yX7_reach, Cond.selects RX7 yX7_reach yX7_reach, Cond.code yX7_reach cX7_reach 1 (some .int), Cond.methodLink RX7 49 yX7_takeSign, Cond.instanceMethod yX7_takeSign, Cond.selects RX7 yX7_takeSign yX7_takeSign, Cond.code yX7_takeSign cX7_takeSign 4 none, Cond.methodLink RX10 129 yX7_signs, Cond.instanceMethod yX7_signs, Cond.selects RX7 yX7_signs yX7_signs, Cond.code yX7_signs cX7_signs 1 (some .int), Cond.methodLink RX10 132 yX7_waysAtLeast, Cond.instanceMethod yX7_waysAtLeast, Cond.selects RX7 yX7_waysAtLeast yX7_waysAtLeast, Cond.code yX7_waysAtLeast cX7_waysAtLeast 1 (some .long)]
def wsX10_turned_r5 : List Cond := [Cond.methodLink RX7 56 yX7_waysUpTo, Cond.instanceMethod yX7_waysUpTo, Cond.selects RX7 yX7_waysUpTo yX7_waysUpTo, Cond.code yX7_waysUpTo cX7_waysUpTo 6 (some .long), Cond.methodLink RX7 60 yX7_allWays, Cond.instanceMethod yX7_allWays, Cond.selects RX7 yX7_allWays yX7_allWays, Cond.code yX7_allWays cX7_allWays 1 (some .long), Cond.methodLink RX10 136 yX7_waysAsFar, Cond.instanceMethod yX7_waysAsFar, Cond.selects RX7 yX7_waysAsFar yX7_waysAsFar, Cond.code yX7_waysAsFar cX7_waysAsFar 1 (some .long), Cond.constantLong RX7 64 (2)]
def wsX10_turned : List Cond := .code yX10_turned cX10_turned 3 (some .long) :: ((wsX10_turned_r1 ++ (wsX10_turned_r2 ++ (wsX10_turned_r3 ++ (wsX10_turned_r4 ++ wsX10_turned_r5)))) ++ wsX100 ++ wsX80 ++ wsX50 ++ wsX70)
def wsX10_wins : List Cond := .code yX10_wins cX10_wins 3 (some .int) :: ([.fieldLink RX10 19 "BoundDraws" "rows" "LBoundDraws$Rows;", .methodLink RX10 69 yX3_within, .static yX3_within, .initialized RX3, .code yX3_within cX3_within 3 (some .boolean), .methodLink RX10 139 yX5_winsBy, .instanceMethod yX5_winsBy, .selects RX5 yX5_winsBy yX5_winsBy, .initialized RX5, .code yX5_winsBy cX5_winsBy 2 (some .int), .fieldLink RX5 13 "BoundDraws$Rows" "xs" "[I", .fieldLink RX5 16 "BoundDraws$Rows" "ys" "[I", .methodLink RX5 31 yX5_reachedAlone, .instanceMethod yX5_reachedAlone, .selects RX5 yX5_reachedAlone yX5_reachedAlone, .code yX5_reachedAlone cX5_reachedAlone 6 (some .int), .fieldLink RX5 19 "BoundDraws$Rows" "used" "I", .methodLink RX10 143 yX5_lossesBy, .instanceMethod yX5_lossesBy, .selects RX5 yX5_lossesBy yX5_lossesBy, .code yX5_lossesBy cX5_lossesBy 2 (some .int)] ++ wsX100 ++ wsX50)
def wsX10_takeOddsOf_r1 : List Cond := [Cond.methodLink RX10 229 Lib.Math.min.name, Cond.static Lib.Math.min.name, Cond.initialized "java/lang/Math", Cond.code Lib.Math.min.name Lib.Math.min.code 2 (some .int), Cond.fieldLink RX10 61 "BoundDraws" "answer" "LBoundDraws$Ratio;", Cond.constantLong RX10 235 (2), Cond.methodLink RX10 232 yX3_setsOutOf, Cond.static yX3_setsOutOf, Cond.initialized RX3, Cond.code yX3_setsOutOf cX3_setsOutOf 5 (some .long), Cond.methodLink RX10 237 yX4_become, Cond.instanceMethod yX4_become, Cond.selects RX4 yX4_become yX4_become, Cond.initialized RX4, Cond.code yX4_become cX4_become 7 none, Cond.methodLink RX4 16 Lib.MathLoose.abs_long.x, Cond.static Lib.MathLoose.abs_long.x, Cond.code Lib.MathLoose.abs_long.x Lib.MathLoose.abs_long.code 2 (some .long), Cond.fieldLink RX4 7 "BoundDraws$Ratio" "upper" "J", Cond.fieldLink RX4 13 "BoundDraws$Ratio" "lower" "J", Cond.methodLink RX4 22 yX3_commonDivisor, Cond.static yX3_commonDivisor, Cond.code yX3_commonDivisor cX3_commonDivisor 11 (some .long), Cond.methodLink RX10 193 yX4_capAtOne]
def wsX10_takeOddsOf_r2 : List Cond := [Cond.instanceMethod yX4_capAtOne, Cond.selects RX4 yX4_capAtOne yX4_capAtOne, Cond.code yX4_capAtOne cX4_capAtOne 1 none, Cond.methodLink RX4 28 yX4_become]
def wsX10_takeOddsOf : List Cond := .code yX10_takeOddsOf cX10_takeOddsOf 8 none :: ((wsX10_takeOddsOf_r1 ++ wsX10_takeOddsOf_r2) ++ wsX100 ++ wsX40)
def wsX10_even_r1 : List Cond := [Cond.constantLong RX10 75 (-1), Cond.fieldLink RX10 19 "BoundDraws" "rows" "LBoundDraws$Rows;", Cond.fieldLink RX10 61 "BoundDraws" "answer" "LBoundDraws$Ratio;", Cond.methodLink RX10 69 yX3_within, Cond.static yX3_within, Cond.initialized RX3, Cond.code yX3_within cX3_within 3 (some .boolean), Cond.methodLink RX10 85 yX10_isSide, Cond.static yX10_isSide, Cond.initialized RX10, Cond.code yX10_isSide cX10_isSide 1 (some .boolean), Cond.methodLink RX10 139 yX5_winsBy, Cond.instanceMethod yX5_winsBy, Cond.selects RX5 yX5_winsBy yX5_winsBy, Cond.initialized RX5, Cond.code yX5_winsBy cX5_winsBy 2 (some .int), Cond.fieldLink RX5 13 "BoundDraws$Rows" "xs" "[I", Cond.fieldLink RX5 16 "BoundDraws$Rows" "ys" "[I", Cond.methodLink RX5 31 yX5_reachedAlone, Cond.instanceMethod yX5_reachedAlone, Cond.selects RX5 yX5_reachedAlone yX5_reachedAlone, Cond.code yX5_reachedAlone cX5_reachedAlone 6 (some .int), Cond.fieldLink RX5 19 "BoundDraws$Rows" "used" "I", Cond.methodLink RX10 143 yX5_lossesBy]
def wsX10_even_r2 : List Cond := [Cond.instanceMethod yX5_lossesBy, Cond.selects RX5 yX5_lossesBy yX5_lossesBy, Cond.code yX5_lossesBy cX5_lossesBy 2 (some .int), Cond.methodLink RX10 146 yX10_takeOddsOf, Cond.instanceMethod yX10_takeOddsOf, Cond.selects RX10 yX10_takeOddsOf yX10_takeOddsOf, Cond.code yX10_takeOddsOf cX10_takeOddsOf 8 none, Cond.methodLink RX10 229 Lib.Math.min.name, Cond.static Lib.Math.min.name, Cond.initialized "java/lang/Math", Cond.code Lib.Math.min.name Lib.Math.min.code 2 (some .int), Cond.constantLong RX10 235 (2), Cond.methodLink RX10 232 yX3_setsOutOf, Cond.static yX3_setsOutOf, Cond.code yX3_setsOutOf cX3_setsOutOf 5 (some .long), Cond.methodLink RX10 237 yX4_become, Cond.instanceMethod yX4_become, Cond.selects RX4 yX4_become yX4_become, Cond.initialized RX4, Cond.code yX4_become cX4_become 7 none, Cond.methodLink RX4 16 Lib.MathLoose.abs_long.x, Cond.static Lib.MathLoose.abs_long.x, Cond.code Lib.MathLoose.abs_long.x Lib.MathLoose.abs_long.code 2 (some .long), Cond.fieldLink RX4 7 "BoundDraws$Ratio" "upper" "J"]
def wsX10_even_r3 : List Cond := [Cond.fieldLink RX4 13 "BoundDraws$Ratio" "lower" "J", Cond.methodLink RX4 22 yX3_commonDivisor, Cond.static yX3_commonDivisor, Cond.code yX3_commonDivisor cX3_commonDivisor 11 (some .long), Cond.methodLink RX10 193 yX4_capAtOne, Cond.instanceMethod yX4_capAtOne, Cond.selects RX4 yX4_capAtOne yX4_capAtOne, Cond.code yX4_capAtOne cX4_capAtOne 1 none, Cond.methodLink RX4 28 yX4_become, Cond.methodLink RX10 150 yX4_told, Cond.instanceMethod yX4_told, Cond.selects RX4 yX4_told yX4_told, Cond.code yX4_told cX4_told 2 (some .long)]
def wsX10_even : List Cond := .code yX10_even cX10_even 3 (some .long) :: ((wsX10_even_r1 ++ (wsX10_even_r2 ++ wsX10_even_r3)) ++ wsX100 ++ wsX50 ++ wsX40)
def wsX10_draw_r1 : List Cond := [Cond.fieldLink RX10 19 "BoundDraws" "rows" "LBoundDraws$Rows;", Cond.fieldLink RX10 26 "BoundDraws" "units" "LBoundDraws$Units;", Cond.fieldLink RX10 40 "BoundDraws" "means" "LBoundDraws$Means;", Cond.methodLink RX10 69 yX3_within, Cond.static yX3_within, Cond.initialized RX3, Cond.code yX3_within cX3_within 3 (some .boolean), Cond.methodLink RX10 115 yX5_size, Cond.instanceMethod yX5_size, Cond.selects RX5 yX5_size yX5_size, Cond.initialized RX5, Cond.code yX5_size cX5_size 1 (some .int), Cond.fieldLink RX5 19 "BoundDraws$Rows" "used" "I", Cond.methodLink RX10 122 yX8_take, Cond.instanceMethod yX8_take, Cond.selects RX8 yX8_take yX8_take, Cond.initialized RX8, Cond.code yX8_take cX8_take 3 none, Cond.fieldLink RX8 18 "BoundDraws$Units" "used" "I", Cond.methodLink RX8 22 yX8_takeGroups, Cond.instanceMethod yX8_takeGroups, Cond.selects RX8 yX8_takeGroups yX8_takeGroups, Cond.code yX8_takeGroups cX8_takeGroups 4 none, Cond.methodLink RX8 41 yX5_sizeOfGroup]
def wsX10_draw_r2 : List Cond := [Cond.instanceMethod yX5_sizeOfGroup, Cond.selects RX5 yX5_sizeOfGroup yX5_sizeOfGroup, Cond.code yX5_sizeOfGroup cX5_sizeOfGroup 4 (some .int), Cond.fieldLink RX5 9 "BoundDraws$Rows" "groups" "[I", Cond.methodLink RX8 44 yX5_differenceOfGroup, Cond.instanceMethod yX5_differenceOfGroup, Cond.selects RX5 yX5_differenceOfGroup yX5_differenceOfGroup, Cond.code yX5_differenceOfGroup cX5_differenceOfGroup 4 (some .int), Cond.fieldLink RX5 13 "BoundDraws$Rows" "xs" "[I", Cond.fieldLink RX5 16 "BoundDraws$Rows" "ys" "[I", Cond.methodLink RX8 37 yX8_add, Cond.instanceMethod yX8_add, Cond.selects RX8 yX8_add yX8_add, Cond.code yX8_add cX8_add 3 none, Cond.fieldLink RX8 9 "BoundDraws$Units" "differences" "[I", Cond.fieldLink RX8 15 "BoundDraws$Units" "sizes" "[I", Cond.methodLink RX8 26 yX8_takeRows, Cond.instanceMethod yX8_takeRows, Cond.selects RX8 yX8_takeRows yX8_takeRows, Cond.code yX8_takeRows cX8_takeRows 3 none, Cond.methodLink RX8 29 yX5_size, Cond.methodLink RX8 33 yX5_difference, Cond.instanceMethod yX5_difference, Cond.selects RX5 yX5_difference yX5_difference]
def wsX10_draw_r3 : List Cond := [Cond.code yX5_difference cX5_difference 2 (some .int), Cond.methodLink RX10 154 yX2_drawAnew, Cond.instanceMethod yX2_drawAnew, Cond.selects RX2 yX2_drawAnew yX2_drawAnew, Cond.initialized RX2, Cond.code yX2_drawAnew cX2_drawAnew 15 none, Cond.fieldLink RX2 23 "BoundDraws$Means" "used" "I", Cond.constantLong RX2 33 (6364136223846793005), Cond.constantLong RX2 35 (1442695040888963407), Cond.fieldLink RX2 19 "BoundDraws$Means" "mean" "LBoundDraws$Ratio;", Cond.methodLink RX2 27 yX8_size, Cond.instanceMethod yX8_size, Cond.selects RX8 yX8_size yX8_size, Cond.code yX8_size cX8_size 1 (some .int), Cond.methodLink RX2 37 yX8_difference, Cond.instanceMethod yX8_difference, Cond.selects RX8 yX8_difference yX8_difference, Cond.code yX8_difference cX8_difference 2 (some .int), Cond.methodLink RX2 41 yX8_rowsOf, Cond.instanceMethod yX8_rowsOf, Cond.selects RX8 yX8_rowsOf yX8_rowsOf, Cond.code yX8_rowsOf cX8_rowsOf 2 (some .int), Cond.methodLink RX2 44 yX4_become, Cond.instanceMethod yX4_become]
def wsX10_draw_r4 : List Cond := [Cond.selects RX4 yX4_become yX4_become, Cond.initialized RX4, Cond.code yX4_become cX4_become 7 none, Cond.methodLink RX4 16 Lib.MathLoose.abs_long.x, Cond.static Lib.MathLoose.abs_long.x, Cond.initialized "java/lang/Math", Cond.code Lib.MathLoose.abs_long.x Lib.MathLoose.abs_long.code 2 (some .long), Cond.fieldLink RX4 7 "BoundDraws$Ratio" "upper" "J", Cond.fieldLink RX4 13 "BoundDraws$Ratio" "lower" "J", Cond.methodLink RX4 22 yX3_commonDivisor, Cond.static yX3_commonDivisor, Cond.code yX3_commonDivisor cX3_commonDivisor 11 (some .long), Cond.methodLink RX2 48 yX2_insertMean, Cond.instanceMethod yX2_insertMean, Cond.selects RX2 yX2_insertMean yX2_insertMean, Cond.code yX2_insertMean cX2_insertMean 2 none, Cond.fieldLink RX2 9 "BoundDraws$Means" "uppers" "[J", Cond.fieldLink RX2 13 "BoundDraws$Means" "lowers" "[J", Cond.methodLink RX2 51 yX4_isBelow, Cond.instanceMethod yX4_isBelow, Cond.selects RX4 yX4_isBelow yX4_isBelow, Cond.code yX4_isBelow cX4_isBelow 5 (some .boolean), Cond.methodLink RX2 55 yX4_told, Cond.instanceMethod yX4_told]
def wsX10_draw_r5 : List Cond := [Cond.selects RX4 yX4_told yX4_told, Cond.code yX4_told cX4_told 2 (some .long), Cond.methodLink RX10 158 yX8_size]
def wsX10_draw : List Cond := .code yX10_draw cX10_draw 5 (some .int) :: ((wsX10_draw_r1 ++ (wsX10_draw_r2 ++ (wsX10_draw_r3 ++ (wsX10_draw_r4 ++ wsX10_draw_r5)))) ++ wsX100 ++ wsX50 ++ wsX80 ++ wsX20 ++ wsX40)
def wsX10_drawn : List Cond := .code yX10_drawn cX10_drawn 3 (some .long) :: ([.classLink RX10 160 "java/lang/IndexOutOfBoundsException", .initialized "java/lang/IndexOutOfBoundsException", .constantLong RX10 75 (-1), .fieldLink RX10 40 "BoundDraws" "means" "LBoundDraws$Means;", .methodLink RX10 85 yX10_isSide, .static yX10_isSide, .initialized RX10, .code yX10_isSide cX10_isSide 1 (some .boolean), .methodLink RX10 159 yX2_size, .instanceMethod yX2_size, .selects RX2 yX2_size yX2_size, .initialized RX2, .code yX2_size cX2_size 1 (some .int), .fieldLink RX2 23 "BoundDraws$Means" "used" "I", .methodLink RX10 165 yX2_told, .instanceMethod yX2_told, .selects RX2 yX2_told yX2_told, .code yX2_told cX2_told 3 (some .long), .fieldLink RX2 9 "BoundDraws$Means" "uppers" "[J", .fieldLink RX2 13 "BoundDraws$Means" "lowers" "[J"] ++ wsX100 ++ wsX20 ++ (vx_atS RX10 164 "java/lang/IndexOutOfBoundsException" ["java/lang/RuntimeException", "java/lang/Exception"]).filter goodWord)
def wsX10_percentile_r1 : List Cond := [Cond.constantLong RX10 75 (-1), Cond.fieldLink RX10 40 "BoundDraws" "means" "LBoundDraws$Means;", Cond.constantLong RX10 168 (-3), Cond.methodLink RX10 170 Lib.Math.max.name, Cond.static Lib.Math.max.name, Cond.initialized "java/lang/Math", Cond.code Lib.Math.max.name Lib.Math.max.code 2 (some .int), Cond.methodLink RX10 69 yX3_within, Cond.static yX3_within, Cond.initialized RX3, Cond.code yX3_within cX3_within 3 (some .boolean), Cond.methodLink RX10 85 yX10_isSide, Cond.static yX10_isSide, Cond.initialized RX10, Cond.code yX10_isSide cX10_isSide 1 (some .boolean), Cond.methodLink RX10 159 yX2_size, Cond.instanceMethod yX2_size, Cond.selects RX2 yX2_size yX2_size, Cond.initialized RX2, Cond.code yX2_size cX2_size 1 (some .int), Cond.fieldLink RX2 23 "BoundDraws$Means" "used" "I", Cond.methodLink RX10 165 yX2_told, Cond.instanceMethod yX2_told, Cond.selects RX2 yX2_told yX2_told]
def wsX10_percentile_r2 : List Cond := [Cond.code yX2_told cX2_told 3 (some .long), Cond.fieldLink RX2 9 "BoundDraws$Means" "uppers" "[J", Cond.fieldLink RX2 13 "BoundDraws$Means" "lowers" "[J"]
def wsX10_percentile : List Cond := .code yX10_percentile cX10_percentile 5 (some .long) :: ((wsX10_percentile_r1 ++ wsX10_percentile_r2) ++ wsX100 ++ wsX20)
def wsX10_share : List Cond := .code yX10_share cX10_share 2 (some .int) :: ([.classLink RX10 176 "java/lang/ArithmeticException", .initialized "java/lang/ArithmeticException", .fieldLink RX10 40 "BoundDraws" "means" "LBoundDraws$Means;", .methodLink RX10 159 yX2_size, .instanceMethod yX2_size, .selects RX2 yX2_size yX2_size, .initialized RX2, .code yX2_size cX2_size 1 (some .int), .fieldLink RX2 23 "BoundDraws$Means" "used" "I", .methodLink RX10 181 yX2_aboveZero, .instanceMethod yX2_aboveZero, .selects RX2 yX2_aboveZero yX2_aboveZero, .code yX2_aboveZero cX2_aboveZero 3 (some .int), .fieldLink RX2 9 "BoundDraws$Means" "uppers" "[J"] ++ wsX100 ++ wsX20 ++ (vx_atS RX10 180 "java/lang/ArithmeticException" ["java/lang/RuntimeException", "java/lang/Exception"]).filter goodWord)
def wsX10_compare : List Cond := .code yX10_compare cX10_compare 3 (some .int) :: ([.constant RX10 184 (100000), .fieldLink RX10 47 "BoundDraws" "compares" "LBoundDraws$Compares;", .methodLink RX10 69 yX3_within, .static yX3_within, .initialized RX3, .code yX3_within cX3_within 3 (some .boolean), .methodLink RX10 185 yX0_isFull, .instanceMethod yX0_isFull, .selects RX0 yX0_isFull yX0_isFull, .initialized RX0, .code yX0_isFull cX0_isFull 1 (some .boolean), .fieldLink RX0 16 "BoundDraws$Compares" "used" "I", .methodLink RX10 186 yX0_add, .instanceMethod yX0_add, .selects RX0 yX0_add yX0_add, .code yX0_add cX0_add 3 none, .fieldLink RX0 9 "BoundDraws$Compares" "ups" "[I", .fieldLink RX0 13 "BoundDraws$Compares" "downs" "[I", .methodLink RX0 20 yX0_isFull, .methodLink RX10 188 yX0_size, .instanceMethod yX0_size, .selects RX0 yX0_size yX0_size, .code yX0_size cX0_size 1 (some .int)] ++ wsX100 ++ wsX00)
def wsX10_raised_r1 : List Cond := [Cond.constantLong RX10 75 (-1), Cond.fieldLink RX10 47 "BoundDraws" "compares" "LBoundDraws$Compares;", Cond.constantLong RX10 168 (-3), Cond.fieldLink RX10 61 "BoundDraws" "answer" "LBoundDraws$Ratio;", Cond.methodLink RX10 69 yX3_within, Cond.static yX3_within, Cond.initialized RX3, Cond.code yX3_within cX3_within 3 (some .boolean), Cond.methodLink RX10 85 yX10_isSide, Cond.static yX10_isSide, Cond.initialized RX10, Cond.code yX10_isSide cX10_isSide 1 (some .boolean), Cond.methodLink RX10 188 yX0_size, Cond.instanceMethod yX0_size, Cond.selects RX0 yX0_size yX0_size, Cond.initialized RX0, Cond.code yX0_size cX0_size 1 (some .int), Cond.fieldLink RX0 16 "BoundDraws$Compares" "used" "I", Cond.methodLink RX10 189 yX0_raise, Cond.instanceMethod yX0_raise, Cond.selects RX0 yX0_raise yX0_raise, Cond.code yX0_raise cX0_raise 4 none, Cond.fieldLink RX0 9 "BoundDraws$Compares" "ups" "[I", Cond.fieldLink RX0 13 "BoundDraws$Compares" "downs" "[I"]
def wsX10_raised_r2 : List Cond := [Cond.methodLink RX0 24 yX4_become, Cond.instanceMethod yX4_become, Cond.selects RX4 yX4_become yX4_become, Cond.initialized RX4, Cond.code yX4_become cX4_become 7 none, Cond.methodLink RX4 16 Lib.MathLoose.abs_long.x, Cond.static Lib.MathLoose.abs_long.x, Cond.initialized "java/lang/Math", Cond.code Lib.MathLoose.abs_long.x Lib.MathLoose.abs_long.code 2 (some .long), Cond.fieldLink RX4 7 "BoundDraws$Ratio" "upper" "J", Cond.fieldLink RX4 13 "BoundDraws$Ratio" "lower" "J", Cond.methodLink RX4 22 yX3_commonDivisor, Cond.static yX3_commonDivisor, Cond.code yX3_commonDivisor cX3_commonDivisor 11 (some .long), Cond.methodLink RX0 30 yX0_placeOf, Cond.instanceMethod yX0_placeOf, Cond.selects RX0 yX0_placeOf yX0_placeOf, Cond.code yX0_placeOf cX0_placeOf 4 (some .int), Cond.methodLink RX0 48 yX0_standsAhead, Cond.instanceMethod yX0_standsAhead, Cond.selects RX0 yX0_standsAhead yX0_standsAhead, Cond.code yX0_standsAhead cX0_standsAhead 7 (some .boolean), Cond.methodLink RX0 34 yX0_raiseByGreatest, Cond.instanceMethod yX0_raiseByGreatest]
def wsX10_raised_r3 : List Cond := [Cond.selects RX0 yX0_raiseByGreatest yX0_raiseByGreatest, Cond.code yX0_raiseByGreatest cX0_raiseByGreatest 7 none, Cond.methodLink RX0 41 yX4_isBelow, Cond.instanceMethod yX4_isBelow, Cond.selects RX4 yX4_isBelow yX4_isBelow, Cond.code yX4_isBelow cX4_isBelow 5 (some .boolean), Cond.methodLink RX0 38 yX0_raiseByLeast, Cond.instanceMethod yX0_raiseByLeast, Cond.selects RX0 yX0_raiseByLeast yX0_raiseByLeast, Cond.code yX0_raiseByLeast cX0_raiseByLeast 9 none, Cond.methodLink RX0 45 yX4_isAbove, Cond.instanceMethod yX4_isAbove, Cond.selects RX4 yX4_isAbove yX4_isAbove, Cond.code yX4_isAbove cX4_isAbove 5 (some .boolean), Cond.methodLink RX10 193 yX4_capAtOne, Cond.instanceMethod yX4_capAtOne, Cond.selects RX4 yX4_capAtOne yX4_capAtOne, Cond.code yX4_capAtOne cX4_capAtOne 1 none, Cond.methodLink RX4 28 yX4_become, Cond.methodLink RX10 150 yX4_told, Cond.instanceMethod yX4_told, Cond.selects RX4 yX4_told yX4_told, Cond.code yX4_told cX4_told 2 (some .long)]
def wsX10_raised : List Cond := .code yX10_raised cX10_raised 4 (some .long) :: ((wsX10_raised_r1 ++ (wsX10_raised_r2 ++ wsX10_raised_r3)) ++ wsX100 ++ wsX00 ++ wsX40)
def wsX10_forget : List Cond := .code yX10_forget cX10_forget 2 (some .int) :: ([.fieldLink RX10 47 "BoundDraws" "compares" "LBoundDraws$Compares;", .methodLink RX10 188 yX0_size, .instanceMethod yX0_size, .selects RX0 yX0_size yX0_size, .initialized RX0, .code yX0_size cX0_size 1 (some .int), .fieldLink RX0 16 "BoundDraws$Compares" "used" "I", .methodLink RX10 196 yX0_empty, .instanceMethod yX0_empty, .selects RX0 yX0_empty yX0_empty, .code yX0_empty cX0_empty 1 none] ++ wsX100 ++ wsX00)
def wsX10_begin : List Cond := .code yX10_begin cX10_begin 5 (some .int) :: ([.classLink RX10 93 "java/lang/IllegalArgumentException", .initialized "java/lang/IllegalArgumentException", .fieldLink RX10 54 "BoundDraws" "trial" "LBoundDraws$Trial;", .methodLink RX10 69 yX3_within, .static yX3_within, .initialized RX3, .code yX3_within cX3_within 3 (some .boolean), .methodLink RX10 89 yX10_isTrust, .static yX10_isTrust, .initialized RX10, .code yX10_isTrust cX10_isTrust 2 (some .boolean), .methodLink RX10 199 yX6_start, .instanceMethod yX6_start, .selects RX6 yX6_start yX6_start, .initialized RX6, .code yX6_start cX6_start 5 none, .fieldLink RX6 19 "BoundDraws$Trial" "on" "Z", .fieldLink RX6 23 "BoundDraws$Trial" "up" "I", .fieldLink RX6 27 "BoundDraws$Trial" "down" "I", .fieldLink RX6 30 "BoundDraws$Trial" "a" "I", .fieldLink RX6 33 "BoundDraws$Trial" "b" "I", .fieldLink RX6 36 "BoundDraws$Trial" "tries" "I", .fieldLink RX6 39 "BoundDraws$Trial" "hits" "I", .fieldLink RX6 42 "BoundDraws$Trial" "rejectedBehind" "I"] ++ wsX100 ++ wsX60 ++ (vx_atS RX10 97 "java/lang/IllegalArgumentException" ["java/lang/RuntimeException", "java/lang/Exception"]).filter goodWord)
def wsX10_hit_r1 : List Cond := [Cond.fieldLink RX10 54 "BoundDraws" "trial" "LBoundDraws$Trial;", Cond.methodLink RX10 203 yX6_isOn, Cond.instanceMethod yX6_isOn, Cond.selects RX6 yX6_isOn yX6_isOn, Cond.initialized RX6, Cond.code yX6_isOn cX6_isOn 1 (some .boolean), Cond.fieldLink RX6 19 "BoundDraws$Trial" "on" "Z", Cond.methodLink RX10 206 yX6_isFull, Cond.instanceMethod yX6_isFull, Cond.selects RX6 yX6_isFull yX6_isFull, Cond.code yX6_isFull cX6_isFull 1 (some .boolean), Cond.fieldLink RX6 36 "BoundDraws$Trial" "tries" "I", Cond.methodLink RX10 207 yX6_take, Cond.instanceMethod yX6_take, Cond.selects RX6 yX6_take yX6_take, Cond.code yX6_take cX6_take 2 none, Cond.fieldLink RX6 39 "BoundDraws$Trial" "hits" "I", Cond.fieldLink RX6 42 "BoundDraws$Trial" "rejectedBehind" "I", Cond.methodLink RX6 45 yX6_isFull, Cond.methodLink RX6 49 yX6_isRich, Cond.instanceMethod yX6_isRich, Cond.selects RX6 yX6_isRich yX6_isRich, Cond.code yX6_isRich cX6_isRich 1 (some .boolean), Cond.fieldLink RX6 10 "BoundDraws$Trial" "ofAll" "LBoundDraws$Wide;"]
def wsX10_hit_r2 : List Cond := [Cond.fieldLink RX6 30 "BoundDraws$Trial" "a" "I", Cond.fieldLink RX6 27 "BoundDraws$Trial" "down" "I", Cond.fieldLink RX6 16 "BoundDraws$Trial" "ofThese" "LBoundDraws$Wide;", Cond.fieldLink RX6 33 "BoundDraws$Trial" "b" "I", Cond.fieldLink RX6 23 "BoundDraws$Trial" "up" "I", Cond.methodLink RX6 52 yX9_become, Cond.instanceMethod yX9_become, Cond.selects RX9 yX9_become yX9_become, Cond.initialized RX9, Cond.code yX9_become cX9_become 4 none, Cond.fieldLink RX9 9 "BoundDraws$Wide" "limbs" "[J", Cond.constantLong RX9 17 (4294967295), Cond.fieldLink RX9 13 "BoundDraws$Wide" "used" "I", Cond.methodLink RX6 56 yX9_multiplyOften, Cond.instanceMethod yX9_multiplyOften, Cond.selects RX9 yX9_multiplyOften yX9_multiplyOften, Cond.code yX9_multiplyOften cX9_multiplyOften 5 none, Cond.methodLink RX9 19 yX9_multiply, Cond.instanceMethod yX9_multiply, Cond.selects RX9 yX9_multiply yX9_multiply, Cond.code yX9_multiply cX9_multiply 8 none, Cond.methodLink RX6 60 yX3_setsOutOf, Cond.static yX3_setsOutOf, Cond.initialized RX3]
def wsX10_hit_r3 : List Cond := [Cond.code yX3_setsOutOf cX3_setsOutOf 5 (some .long), Cond.methodLink RX6 66 yX9_multiply, Cond.methodLink RX6 69 yX9_against, Cond.instanceMethod yX9_against, Cond.selects RX9 yX9_against yX9_against, Cond.code yX9_against cX9_against 3 (some .int), Cond.methodLink RX10 210 yX6_rejectedBehind, Cond.instanceMethod yX6_rejectedBehind, Cond.selects RX6 yX6_rejectedBehind yX6_rejectedBehind, Cond.code yX6_rejectedBehind cX6_rejectedBehind 1 (some .int)]
def wsX10_hit : List Cond := .code yX10_hit cX10_hit 2 (some .int) :: ((wsX10_hit_r1 ++ (wsX10_hit_r2 ++ wsX10_hit_r3)) ++ wsX100 ++ wsX60 ++ wsX90)
def wsX10_test_r1 : List Cond := [Cond.fieldLink RX10 54 "BoundDraws" "trial" "LBoundDraws$Trial;", Cond.methodLink RX10 203 yX6_isOn, Cond.instanceMethod yX6_isOn, Cond.selects RX6 yX6_isOn yX6_isOn, Cond.initialized RX6, Cond.code yX6_isOn cX6_isOn 1 (some .boolean), Cond.fieldLink RX6 19 "BoundDraws$Trial" "on" "Z", Cond.methodLink RX10 213 yX6_tries, Cond.instanceMethod yX6_tries, Cond.selects RX6 yX6_tries yX6_tries, Cond.code yX6_tries cX6_tries 1 (some .int), Cond.fieldLink RX6 36 "BoundDraws$Trial" "tries" "I", Cond.methodLink RX10 216 yX6_hits, Cond.instanceMethod yX6_hits, Cond.selects RX6 yX6_hits yX6_hits, Cond.code yX6_hits cX6_hits 1 (some .int), Cond.fieldLink RX6 39 "BoundDraws$Trial" "hits" "I", Cond.methodLink RX10 210 yX6_rejectedBehind, Cond.instanceMethod yX6_rejectedBehind, Cond.selects RX6 yX6_rejectedBehind yX6_rejectedBehind, Cond.code yX6_rejectedBehind cX6_rejectedBehind 1 (some .int), Cond.fieldLink RX6 42 "BoundDraws$Trial" "rejectedBehind" "I", Cond.methodLink RX10 218 yX6_isRich, Cond.instanceMethod yX6_isRich]
def wsX10_test_r2 : List Cond := [Cond.selects RX6 yX6_isRich yX6_isRich, Cond.code yX6_isRich cX6_isRich 1 (some .boolean), Cond.fieldLink RX6 10 "BoundDraws$Trial" "ofAll" "LBoundDraws$Wide;", Cond.fieldLink RX6 30 "BoundDraws$Trial" "a" "I", Cond.fieldLink RX6 27 "BoundDraws$Trial" "down" "I", Cond.fieldLink RX6 16 "BoundDraws$Trial" "ofThese" "LBoundDraws$Wide;", Cond.fieldLink RX6 33 "BoundDraws$Trial" "b" "I", Cond.fieldLink RX6 23 "BoundDraws$Trial" "up" "I", Cond.methodLink RX6 52 yX9_become, Cond.instanceMethod yX9_become, Cond.selects RX9 yX9_become yX9_become, Cond.initialized RX9, Cond.code yX9_become cX9_become 4 none, Cond.fieldLink RX9 9 "BoundDraws$Wide" "limbs" "[J", Cond.constantLong RX9 17 (4294967295), Cond.fieldLink RX9 13 "BoundDraws$Wide" "used" "I", Cond.methodLink RX6 56 yX9_multiplyOften, Cond.instanceMethod yX9_multiplyOften, Cond.selects RX9 yX9_multiplyOften yX9_multiplyOften, Cond.code yX9_multiplyOften cX9_multiplyOften 5 none, Cond.methodLink RX9 19 yX9_multiply, Cond.instanceMethod yX9_multiply, Cond.selects RX9 yX9_multiply yX9_multiply, Cond.code yX9_multiply cX9_multiply 8 none]
def wsX10_test_r3 : List Cond := [Cond.methodLink RX6 60 yX3_setsOutOf, Cond.static yX3_setsOutOf, Cond.initialized RX3, Cond.code yX3_setsOutOf cX3_setsOutOf 5 (some .long), Cond.methodLink RX6 66 yX9_multiply, Cond.methodLink RX6 69 yX9_against, Cond.instanceMethod yX9_against, Cond.selects RX9 yX9_against yX9_against, Cond.code yX9_against cX9_against 3 (some .int)]
def wsX10_test : List Cond := .code yX10_test cX10_test 2 (some .int) :: ((wsX10_test_r1 ++ (wsX10_test_r2 ++ wsX10_test_r3)) ++ wsX100 ++ wsX60 ++ wsX90)
def wsX10_count_r1 : List Cond := [Cond.fieldLink RX10 19 "BoundDraws" "rows" "LBoundDraws$Rows;", Cond.fieldLink RX10 40 "BoundDraws" "means" "LBoundDraws$Means;", Cond.fieldLink RX10 47 "BoundDraws" "compares" "LBoundDraws$Compares;", Cond.methodLink RX10 115 yX5_size, Cond.instanceMethod yX5_size, Cond.selects RX5 yX5_size yX5_size, Cond.initialized RX5, Cond.code yX5_size cX5_size 1 (some .int), Cond.fieldLink RX5 19 "BoundDraws$Rows" "used" "I", Cond.methodLink RX10 221 yX5_groupsWithRows, Cond.instanceMethod yX5_groupsWithRows, Cond.selects RX5 yX5_groupsWithRows yX5_groupsWithRows, Cond.code yX5_groupsWithRows cX5_groupsWithRows 3 (some .int), Cond.methodLink RX5 27 yX5_sizeOfGroup, Cond.instanceMethod yX5_sizeOfGroup, Cond.selects RX5 yX5_sizeOfGroup yX5_sizeOfGroup, Cond.code yX5_sizeOfGroup cX5_sizeOfGroup 4 (some .int), Cond.fieldLink RX5 9 "BoundDraws$Rows" "groups" "[I", Cond.methodLink RX10 159 yX2_size, Cond.instanceMethod yX2_size, Cond.selects RX2 yX2_size yX2_size, Cond.initialized RX2, Cond.code yX2_size cX2_size 1 (some .int), Cond.fieldLink RX2 23 "BoundDraws$Means" "used" "I"]
def wsX10_count_r2 : List Cond := [Cond.methodLink RX10 188 yX0_size, Cond.instanceMethod yX0_size, Cond.selects RX0 yX0_size yX0_size, Cond.initialized RX0, Cond.code yX0_size cX0_size 1 (some .int), Cond.fieldLink RX0 16 "BoundDraws$Compares" "used" "I"]
def wsX10_count : List Cond := .code yX10_count cX10_count 2 (some .int) :: ((wsX10_count_r1 ++ wsX10_count_r2) ++ wsX100 ++ wsX50 ++ wsX20 ++ wsX00)
def wsX10_clear_r1 : List Cond := [Cond.fieldLink RX10 19 "BoundDraws" "rows" "LBoundDraws$Rows;", Cond.fieldLink RX10 40 "BoundDraws" "means" "LBoundDraws$Means;", Cond.fieldLink RX10 47 "BoundDraws" "compares" "LBoundDraws$Compares;", Cond.fieldLink RX10 54 "BoundDraws" "trial" "LBoundDraws$Trial;", Cond.methodLink RX10 115 yX5_size, Cond.instanceMethod yX5_size, Cond.selects RX5 yX5_size yX5_size, Cond.initialized RX5, Cond.code yX5_size cX5_size 1 (some .int), Cond.fieldLink RX5 19 "BoundDraws$Rows" "used" "I", Cond.methodLink RX10 224 yX5_empty, Cond.instanceMethod yX5_empty, Cond.selects RX5 yX5_empty yX5_empty, Cond.code yX5_empty cX5_empty 1 none, Cond.methodLink RX10 225 yX2_empty, Cond.instanceMethod yX2_empty, Cond.selects RX2 yX2_empty yX2_empty, Cond.initialized RX2, Cond.code yX2_empty cX2_empty 1 none, Cond.fieldLink RX2 23 "BoundDraws$Means" "used" "I", Cond.methodLink RX10 196 yX0_empty, Cond.instanceMethod yX0_empty, Cond.selects RX0 yX0_empty yX0_empty, Cond.initialized RX0]
def wsX10_clear_r2 : List Cond := [Cond.code yX0_empty cX0_empty 1 none, Cond.fieldLink RX0 16 "BoundDraws$Compares" "used" "I", Cond.methodLink RX10 226 yX6_stop, Cond.instanceMethod yX6_stop, Cond.selects RX6 yX6_stop yX6_stop, Cond.initialized RX6, Cond.code yX6_stop cX6_stop 1 none, Cond.fieldLink RX6 19 "BoundDraws$Trial" "on" "Z"]
def wsX10_clear : List Cond := .code yX10_clear cX10_clear 2 (some .int) :: ((wsX10_clear_r1 ++ wsX10_clear_r2) ++ wsX100 ++ wsX50 ++ wsX20 ++ wsX00 ++ wsX60)
def wsX11_init : List Cond := .code yX11_init cX11_init 1 none :: ([.methodLink RX11 1 objectInit, .instanceMethod objectInit, .code objectInit ⟨#[0xb1]⟩ 1 none, .arrayClass .int, .fieldLink RX11 7 "BoundDrawsModel" "sum" "[I", .fieldLink RX11 13 "BoundDrawsModel" "one" "[I", .fieldLink RX11 16 "BoundDrawsModel" "groupOf" "[I", .fieldLink RX11 19 "BoundDrawsModel" "xOf" "[I", .fieldLink RX11 22 "BoundDrawsModel" "yOf" "[I", .fieldLink RX11 25 "BoundDrawsModel" "difference" "[I", .fieldLink RX11 28 "BoundDrawsModel" "size" "[I", .arrayClass .long, .fieldLink RX11 31 "BoundDrawsModel" "ways" "[J", .fieldLink RX11 35 "BoundDrawsModel" "more" "[J", .fieldLink RX11 38 "BoundDrawsModel" "above" "[I", .fieldLink RX11 41 "BoundDrawsModel" "below" "[I", .fieldLink RX11 44 "BoundDrawsModel" "upOf" "[I", .fieldLink RX11 47 "BoundDrawsModel" "downOf" "[I"] ++ wsX110)
def wsX11_thrown : List Cond := .code yX11_thrown cX11_thrown 1 (some .int) :: ([.fieldLink RX11 50 "BoundDrawsModel" "thrown" "I"] ++ wsX110)
def wsX11_in : List Cond := .code yX11_in cX11_in 6 (some .boolean) :: ([])
def wsX11_small : List Cond := .code yX11_small cX11_small 3 none :: ([.constant RX11 54 (65535)])
def wsX11_times : List Cond := .code yX11_times cX11_times 6 none :: ([.constantLong RX11 55 (65535)])
def wsX11_over : List Cond := .code yX11_over cX11_over 5 none :: ([])
def wsX11_plus : List Cond := .code yX11_plus cX11_plus 4 none :: ([.constant RX11 54 (65535)])
def wsX11_compared : List Cond := .code yX11_compared cX11_compared 3 (some .int) :: ([])
def wsX11_term : List Cond := .code yX11_term cX11_term 6 none :: ([.methodLink RX11 57 yX11_small, .static yX11_small, .initialized RX11, .code yX11_small cX11_small 3 none, .constant RX11 54 (65535), .methodLink RX11 61 yX11_times, .static yX11_times, .code yX11_times cX11_times 6 none, .constantLong RX11 55 (65535), .methodLink RX11 65 yX11_over, .static yX11_over, .code yX11_over cX11_over 5 none])
def wsX11_power : List Cond := .code yX11_power cX11_power 4 none :: ([.methodLink RX11 57 yX11_small, .static yX11_small, .initialized RX11, .code yX11_small cX11_small 3 none, .constant RX11 54 (65535), .methodLink RX11 61 yX11_times, .static yX11_times, .code yX11_times cX11_times 6 none, .constantLong RX11 55 (65535)])
def wsX11_sumUp : List Cond := .code yX11_sumUp cX11_sumUp 9 none :: ([.fieldLink RX11 7 "BoundDrawsModel" "sum" "[I", .fieldLink RX11 13 "BoundDrawsModel" "one" "[I", .methodLink RX11 57 yX11_small, .static yX11_small, .initialized RX11, .code yX11_small cX11_small 3 none, .constant RX11 54 (65535), .methodLink RX11 68 yX11_term, .static yX11_term, .code yX11_term cX11_term 6 none, .methodLink RX11 61 yX11_times, .static yX11_times, .code yX11_times cX11_times 6 none, .constantLong RX11 55 (65535), .methodLink RX11 65 yX11_over, .static yX11_over, .code yX11_over cX11_over 5 none, .methodLink RX11 72 yX11_plus, .static yX11_plus, .code yX11_plus cX11_plus 4 none] ++ wsX110)
def wsX11_isHits : List Cond := .code yX11_isHits cX11_isHits 5 (some .boolean) :: ([.constantLong RX11 76 (30), .constantLong RX11 82 (1000), .methodLink RX11 78 yX11_in, .static yX11_in, .initialized RX11, .code yX11_in cX11_in 6 (some .boolean)])
def wsX11_above_r1 : List Cond := [Cond.fieldLink RX11 50 "BoundDrawsModel" "thrown" "I", Cond.constantLong RX11 88 (10), Cond.constantLong RX11 90 (-1), Cond.fieldLink RX11 7 "BoundDrawsModel" "sum" "[I", Cond.methodLink RX11 84 yX11_isHits, Cond.static yX11_isHits, Cond.initialized RX11, Cond.code yX11_isHits cX11_isHits 5 (some .boolean), Cond.constantLong RX11 76 (30), Cond.constantLong RX11 82 (1000), Cond.methodLink RX11 78 yX11_in, Cond.static yX11_in, Cond.code yX11_in cX11_in 6 (some .boolean), Cond.methodLink RX11 92 yX11_sumUp, Cond.instanceMethod yX11_sumUp, Cond.selects RX11 yX11_sumUp yX11_sumUp, Cond.code yX11_sumUp cX11_sumUp 9 none, Cond.fieldLink RX11 13 "BoundDrawsModel" "one" "[I", Cond.methodLink RX11 57 yX11_small, Cond.static yX11_small, Cond.code yX11_small cX11_small 3 none, Cond.constant RX11 54 (65535), Cond.methodLink RX11 68 yX11_term, Cond.static yX11_term]
def wsX11_above_r2 : List Cond := [Cond.code yX11_term cX11_term 6 none, Cond.methodLink RX11 61 yX11_times, Cond.static yX11_times, Cond.code yX11_times cX11_times 6 none, Cond.constantLong RX11 55 (65535), Cond.methodLink RX11 65 yX11_over, Cond.static yX11_over, Cond.code yX11_over cX11_over 5 none, Cond.methodLink RX11 72 yX11_plus, Cond.static yX11_plus, Cond.code yX11_plus cX11_plus 4 none]
def wsX11_above : List Cond := .code yX11_above cX11_above 7 (some .long) :: ((wsX11_above_r1 ++ wsX11_above_r2) ++ wsX110)
def wsX11_beside_r1 : List Cond := [Cond.fieldLink RX11 7 "BoundDrawsModel" "sum" "[I", Cond.fieldLink RX11 13 "BoundDrawsModel" "one" "[I", Cond.methodLink RX11 92 yX11_sumUp, Cond.instanceMethod yX11_sumUp, Cond.selects RX11 yX11_sumUp yX11_sumUp, Cond.initialized RX11, Cond.code yX11_sumUp cX11_sumUp 9 none, Cond.methodLink RX11 57 yX11_small, Cond.static yX11_small, Cond.code yX11_small cX11_small 3 none, Cond.constant RX11 54 (65535), Cond.methodLink RX11 68 yX11_term, Cond.static yX11_term, Cond.code yX11_term cX11_term 6 none, Cond.methodLink RX11 61 yX11_times, Cond.static yX11_times, Cond.code yX11_times cX11_times 6 none, Cond.constantLong RX11 55 (65535), Cond.methodLink RX11 65 yX11_over, Cond.static yX11_over, Cond.code yX11_over cX11_over 5 none, Cond.methodLink RX11 72 yX11_plus, Cond.static yX11_plus, Cond.code yX11_plus cX11_plus 4 none]
def wsX11_beside_r2 : List Cond := [Cond.methodLink RX11 96 yX11_power, Cond.static yX11_power, Cond.code yX11_power cX11_power 4 none, Cond.methodLink RX11 100 yX11_compared, Cond.static yX11_compared, Cond.code yX11_compared cX11_compared 3 (some .int)]
def wsX11_beside : List Cond := .code yX11_beside cX11_beside 8 (some .int) :: ((wsX11_beside_r1 ++ wsX11_beside_r2) ++ wsX110)
def wsX11_odds_r1 : List Cond := [Cond.fieldLink RX11 50 "BoundDrawsModel" "thrown" "I", Cond.constantLong RX11 82 (1000), Cond.methodLink RX11 84 yX11_isHits, Cond.static yX11_isHits, Cond.initialized RX11, Cond.code yX11_isHits cX11_isHits 5 (some .boolean), Cond.constantLong RX11 76 (30), Cond.methodLink RX11 78 yX11_in, Cond.static yX11_in, Cond.code yX11_in cX11_in 6 (some .boolean), Cond.methodLink RX11 104 yX11_beside, Cond.instanceMethod yX11_beside, Cond.selects RX11 yX11_beside yX11_beside, Cond.code yX11_beside cX11_beside 8 (some .int), Cond.fieldLink RX11 7 "BoundDrawsModel" "sum" "[I", Cond.fieldLink RX11 13 "BoundDrawsModel" "one" "[I", Cond.methodLink RX11 92 yX11_sumUp, Cond.instanceMethod yX11_sumUp, Cond.selects RX11 yX11_sumUp yX11_sumUp, Cond.code yX11_sumUp cX11_sumUp 9 none, Cond.methodLink RX11 57 yX11_small, Cond.static yX11_small, Cond.code yX11_small cX11_small 3 none, Cond.constant RX11 54 (65535)]
def wsX11_odds_r2 : List Cond := [Cond.methodLink RX11 68 yX11_term, Cond.static yX11_term, Cond.code yX11_term cX11_term 6 none, Cond.methodLink RX11 61 yX11_times, Cond.static yX11_times, Cond.code yX11_times cX11_times 6 none, Cond.constantLong RX11 55 (65535), Cond.methodLink RX11 65 yX11_over, Cond.static yX11_over, Cond.code yX11_over cX11_over 5 none, Cond.methodLink RX11 72 yX11_plus, Cond.static yX11_plus, Cond.code yX11_plus cX11_plus 4 none, Cond.methodLink RX11 96 yX11_power, Cond.static yX11_power, Cond.code yX11_power cX11_power 4 none, Cond.methodLink RX11 100 yX11_compared, Cond.static yX11_compared, Cond.code yX11_compared cX11_compared 3 (some .int)]
def wsX11_odds : List Cond := .code yX11_odds cX11_odds 8 (some .int) :: ((wsX11_odds_r1 ++ wsX11_odds_r2) ++ wsX110)
def wsX11_isTrust : List Cond := .code yX11_isTrust cX11_isTrust 2 (some .boolean) :: ([.constantLong RX11 108 (2), .constantLong RX11 82 (1000), .methodLink RX11 78 yX11_in, .static yX11_in, .initialized RX11, .code yX11_in cX11_in 6 (some .boolean)])
def wsX11_bound_r1 : List Cond := [Cond.fieldLink RX11 50 "BoundDrawsModel" "thrown" "I", Cond.constantLong RX11 76 (30), Cond.methodLink RX11 78 yX11_in, Cond.static yX11_in, Cond.initialized RX11, Cond.code yX11_in cX11_in 6 (some .boolean), Cond.methodLink RX11 110 yX11_isTrust, Cond.static yX11_isTrust, Cond.code yX11_isTrust cX11_isTrust 2 (some .boolean), Cond.constantLong RX11 108 (2), Cond.constantLong RX11 82 (1000), Cond.methodLink RX11 104 yX11_beside, Cond.instanceMethod yX11_beside, Cond.selects RX11 yX11_beside yX11_beside, Cond.code yX11_beside cX11_beside 8 (some .int), Cond.fieldLink RX11 7 "BoundDrawsModel" "sum" "[I", Cond.fieldLink RX11 13 "BoundDrawsModel" "one" "[I", Cond.methodLink RX11 92 yX11_sumUp, Cond.instanceMethod yX11_sumUp, Cond.selects RX11 yX11_sumUp yX11_sumUp, Cond.code yX11_sumUp cX11_sumUp 9 none, Cond.methodLink RX11 57 yX11_small, Cond.static yX11_small, Cond.code yX11_small cX11_small 3 none]
def wsX11_bound_r2 : List Cond := [Cond.constant RX11 54 (65535), Cond.methodLink RX11 68 yX11_term, Cond.static yX11_term, Cond.code yX11_term cX11_term 6 none, Cond.methodLink RX11 61 yX11_times, Cond.static yX11_times, Cond.code yX11_times cX11_times 6 none, Cond.constantLong RX11 55 (65535), Cond.methodLink RX11 65 yX11_over, Cond.static yX11_over, Cond.code yX11_over cX11_over 5 none, Cond.methodLink RX11 72 yX11_plus, Cond.static yX11_plus, Cond.code yX11_plus cX11_plus 4 none, Cond.methodLink RX11 96 yX11_power, Cond.static yX11_power, Cond.code yX11_power cX11_power 4 none, Cond.methodLink RX11 100 yX11_compared, Cond.static yX11_compared, Cond.code yX11_compared cX11_compared 3 (some .int)]
def wsX11_bound : List Cond := .code yX11_bound cX11_bound 10 (some .int) :: ((wsX11_bound_r1 ++ wsX11_bound_r2) ++ wsX110)
def wsX11_unite : List Cond := .code yX11_unite cX11_unite 6 none :: ([.fieldLink RX11 114 "BoundDrawsModel" "units" "I", .fieldLink RX11 117 "BoundDrawsModel" "rows" "I", .fieldLink RX11 16 "BoundDrawsModel" "groupOf" "[I", .fieldLink RX11 19 "BoundDrawsModel" "xOf" "[I", .fieldLink RX11 22 "BoundDrawsModel" "yOf" "[I", .fieldLink RX11 25 "BoundDrawsModel" "difference" "[I", .fieldLink RX11 28 "BoundDrawsModel" "size" "[I"] ++ wsX110)
def wsX11_row : List Cond := .code yX11_row cX11_row 4 (some .int) :: ([.fieldLink RX11 50 "BoundDrawsModel" "thrown" "I", .constantLong RX11 120 (7), .constantLong RX11 122 (100), .fieldLink RX11 117 "BoundDrawsModel" "rows" "I", .fieldLink RX11 16 "BoundDrawsModel" "groupOf" "[I", .fieldLink RX11 19 "BoundDrawsModel" "xOf" "[I", .fieldLink RX11 22 "BoundDrawsModel" "yOf" "[I", .methodLink RX11 78 yX11_in, .static yX11_in, .initialized RX11, .code yX11_in cX11_in 6 (some .boolean)] ++ wsX110)
def wsX11_drop : List Cond := .code yX11_drop cX11_drop 1 (some .int) :: ([.fieldLink RX11 50 "BoundDrawsModel" "thrown" "I", .fieldLink RX11 117 "BoundDrawsModel" "rows" "I"] ++ wsX110)
def wsX11_turned : List Cond := .code yX11_turned cX11_turned 10 (some .long) :: ([.fieldLink RX11 50 "BoundDrawsModel" "thrown" "I", .constantLong RX11 108 (2), .constantLong RX11 90 (-1), .fieldLink RX11 31 "BoundDrawsModel" "ways" "[J", .fieldLink RX11 114 "BoundDrawsModel" "units" "I", .fieldLink RX11 25 "BoundDrawsModel" "difference" "[I", .fieldLink RX11 35 "BoundDrawsModel" "more" "[J", .constantLong RX11 128 (6000), .methodLink RX11 78 yX11_in, .static yX11_in, .initialized RX11, .code yX11_in cX11_in 6 (some .boolean), .methodLink RX11 124 yX11_unite, .instanceMethod yX11_unite, .selects RX11 yX11_unite yX11_unite, .code yX11_unite cX11_unite 6 none, .fieldLink RX11 117 "BoundDrawsModel" "rows" "I", .fieldLink RX11 16 "BoundDrawsModel" "groupOf" "[I", .fieldLink RX11 19 "BoundDrawsModel" "xOf" "[I", .fieldLink RX11 22 "BoundDrawsModel" "yOf" "[I", .fieldLink RX11 28 "BoundDrawsModel" "size" "[I"] ++ wsX110)
def wsX11_count : List Cond := .code yX11_count cX11_count 7 (some .int) :: ([.fieldLink RX11 117 "BoundDrawsModel" "rows" "I", .fieldLink RX11 19 "BoundDrawsModel" "xOf" "[I", .fieldLink RX11 22 "BoundDrawsModel" "yOf" "[I"] ++ wsX110)
def wsX11_wins : List Cond := .code yX11_wins cX11_wins 3 (some .int) :: ([.fieldLink RX11 50 "BoundDrawsModel" "thrown" "I", .constantLong RX11 130 (101), .methodLink RX11 78 yX11_in, .static yX11_in, .initialized RX11, .code yX11_in cX11_in 6 (some .boolean), .methodLink RX11 132 yX11_count, .instanceMethod yX11_count, .selects RX11 yX11_count yX11_count, .code yX11_count cX11_count 7 (some .int), .fieldLink RX11 117 "BoundDrawsModel" "rows" "I", .fieldLink RX11 19 "BoundDrawsModel" "xOf" "[I", .fieldLink RX11 22 "BoundDrawsModel" "yOf" "[I"] ++ wsX110)
def wsX11_common : List Cond := .code yX11_common cX11_common 10 (some .long) :: ([])
def wsX11_told : List Cond := .code yX11_told cX11_told 7 (some .long) :: ([.methodLink RX11 136 yX11_common, .static yX11_common, .initialized RX11, .code yX11_common cX11_common 10 (some .long)])
def wsX11_even : List Cond := .code yX11_even cX11_even 12 (some .long) :: ([.fieldLink RX11 50 "BoundDrawsModel" "thrown" "I", .constantLong RX11 130 (101), .constantLong RX11 90 (-1), .constantLong RX11 108 (2), .methodLink RX11 78 yX11_in, .static yX11_in, .initialized RX11, .code yX11_in cX11_in 6 (some .boolean), .methodLink RX11 132 yX11_count, .instanceMethod yX11_count, .selects RX11 yX11_count yX11_count, .code yX11_count cX11_count 7 (some .int), .fieldLink RX11 117 "BoundDrawsModel" "rows" "I", .fieldLink RX11 19 "BoundDrawsModel" "xOf" "[I", .fieldLink RX11 22 "BoundDrawsModel" "yOf" "[I", .methodLink RX11 140 yX11_told, .static yX11_told, .code yX11_told cX11_told 7 (some .long), .methodLink RX11 136 yX11_common, .static yX11_common, .code yX11_common cX11_common 10 (some .long)] ++ wsX110)
def wsX11_draw : List Cond := .code yX11_draw cX11_draw 12 (some .int) :: ([.fieldLink RX11 50 "BoundDrawsModel" "thrown" "I", .constantLong RX11 144 (60), .fieldLink RX11 117 "BoundDrawsModel" "rows" "I", .fieldLink RX11 146 "BoundDrawsModel" "means" "I", .fieldLink RX11 114 "BoundDrawsModel" "units" "I", .constantLong RX11 149 (6364136223846793005), .constantLong RX11 151 (1442695040888963407), .fieldLink RX11 25 "BoundDrawsModel" "difference" "[I", .fieldLink RX11 28 "BoundDrawsModel" "size" "[I", .fieldLink RX11 38 "BoundDrawsModel" "above" "[I", .fieldLink RX11 41 "BoundDrawsModel" "below" "[I", .methodLink RX11 78 yX11_in, .static yX11_in, .initialized RX11, .code yX11_in cX11_in 6 (some .boolean), .methodLink RX11 124 yX11_unite, .instanceMethod yX11_unite, .selects RX11 yX11_unite yX11_unite, .code yX11_unite cX11_unite 6 none, .fieldLink RX11 16 "BoundDrawsModel" "groupOf" "[I", .fieldLink RX11 19 "BoundDrawsModel" "xOf" "[I", .fieldLink RX11 22 "BoundDrawsModel" "yOf" "[I"] ++ wsX110)
def wsX11_drawn : List Cond := .code yX11_drawn cX11_drawn 3 (some .long) :: ([.fieldLink RX11 50 "BoundDrawsModel" "thrown" "I", .constantLong RX11 90 (-1), .fieldLink RX11 146 "BoundDrawsModel" "means" "I", .fieldLink RX11 38 "BoundDrawsModel" "above" "[I", .fieldLink RX11 41 "BoundDrawsModel" "below" "[I", .methodLink RX11 78 yX11_in, .static yX11_in, .initialized RX11, .code yX11_in cX11_in 6 (some .boolean), .methodLink RX11 140 yX11_told, .static yX11_told, .code yX11_told cX11_told 7 (some .long), .methodLink RX11 136 yX11_common, .static yX11_common, .code yX11_common cX11_common 10 (some .long)] ++ wsX110)
def wsX11_percentile : List Cond := .code yX11_percentile cX11_percentile 5 (some .long) :: ([.fieldLink RX11 50 "BoundDrawsModel" "thrown" "I", .constantLong RX11 82 (1000), .constantLong RX11 90 (-1), .fieldLink RX11 146 "BoundDrawsModel" "means" "I", .constantLong RX11 153 (-3), .fieldLink RX11 38 "BoundDrawsModel" "above" "[I", .fieldLink RX11 41 "BoundDrawsModel" "below" "[I", .methodLink RX11 78 yX11_in, .static yX11_in, .initialized RX11, .code yX11_in cX11_in 6 (some .boolean), .methodLink RX11 140 yX11_told, .static yX11_told, .code yX11_told cX11_told 7 (some .long), .methodLink RX11 136 yX11_common, .static yX11_common, .code yX11_common cX11_common 10 (some .long)] ++ wsX110)
def wsX11_share : List Cond := .code yX11_share cX11_share 3 (some .int) :: ([.fieldLink RX11 146 "BoundDrawsModel" "means" "I", .fieldLink RX11 50 "BoundDrawsModel" "thrown" "I", .fieldLink RX11 38 "BoundDrawsModel" "above" "[I"] ++ wsX110)
def wsX11_compare : List Cond := .code yX11_compare cX11_compare 3 (some .int) :: ([.fieldLink RX11 50 "BoundDrawsModel" "thrown" "I", .constantLong RX11 155 (100000), .fieldLink RX11 157 "BoundDrawsModel" "compares" "I", .fieldLink RX11 44 "BoundDrawsModel" "upOf" "[I", .fieldLink RX11 47 "BoundDrawsModel" "downOf" "[I", .methodLink RX11 78 yX11_in, .static yX11_in, .initialized RX11, .code yX11_in cX11_in 6 (some .boolean)] ++ wsX110)
def wsX11_placeOf : List Cond := .code yX11_placeOf cX11_placeOf 8 (some .int) :: ([.fieldLink RX11 157 "BoundDrawsModel" "compares" "I", .fieldLink RX11 44 "BoundDrawsModel" "upOf" "[I", .fieldLink RX11 47 "BoundDrawsModel" "downOf" "[I"] ++ wsX110)
def wsX11_raised : List Cond := .code yX11_raised cX11_raised 17 (some .long) :: ([.fieldLink RX11 50 "BoundDrawsModel" "thrown" "I", .constantLong RX11 108 (2), .constantLong RX11 90 (-1), .fieldLink RX11 157 "BoundDrawsModel" "compares" "I", .constantLong RX11 153 (-3), .fieldLink RX11 44 "BoundDrawsModel" "upOf" "[I", .fieldLink RX11 47 "BoundDrawsModel" "downOf" "[I", .methodLink RX11 78 yX11_in, .static yX11_in, .initialized RX11, .code yX11_in cX11_in 6 (some .boolean), .methodLink RX11 160 yX11_placeOf, .instanceMethod yX11_placeOf, .selects RX11 yX11_placeOf yX11_placeOf, .code yX11_placeOf cX11_placeOf 8 (some .int), .methodLink RX11 140 yX11_told, .static yX11_told, .code yX11_told cX11_told 7 (some .long), .methodLink RX11 136 yX11_common, .static yX11_common, .code yX11_common cX11_common 10 (some .long)] ++ wsX110)
def wsX11_forget : List Cond := .code yX11_forget cX11_forget 2 (some .int) :: ([.fieldLink RX11 50 "BoundDrawsModel" "thrown" "I", .fieldLink RX11 157 "BoundDrawsModel" "compares" "I"] ++ wsX110)
def wsX11_begin : List Cond := .code yX11_begin cX11_begin 5 (some .int) :: ([.fieldLink RX11 50 "BoundDrawsModel" "thrown" "I", .constantLong RX11 108 (2), .constantLong RX11 122 (100), .fieldLink RX11 164 "BoundDrawsModel" "hasTest" "Z", .fieldLink RX11 168 "BoundDrawsModel" "testUp" "I", .fieldLink RX11 171 "BoundDrawsModel" "testDown" "I", .fieldLink RX11 174 "BoundDrawsModel" "trustUp" "I", .fieldLink RX11 177 "BoundDrawsModel" "trustDown" "I", .fieldLink RX11 180 "BoundDrawsModel" "tries" "I", .fieldLink RX11 183 "BoundDrawsModel" "hits" "I", .fieldLink RX11 186 "BoundDrawsModel" "rejected" "I", .methodLink RX11 78 yX11_in, .static yX11_in, .initialized RX11, .code yX11_in cX11_in 6 (some .boolean), .methodLink RX11 110 yX11_isTrust, .static yX11_isTrust, .code yX11_isTrust cX11_isTrust 2 (some .boolean), .constantLong RX11 82 (1000)] ++ wsX110)
def wsX11_isRich_r1 : List Cond := [Cond.fieldLink RX11 7 "BoundDrawsModel" "sum" "[I", Cond.fieldLink RX11 171 "BoundDrawsModel" "testDown" "I", Cond.fieldLink RX11 180 "BoundDrawsModel" "tries" "I", Cond.fieldLink RX11 174 "BoundDrawsModel" "trustUp" "I", Cond.fieldLink RX11 13 "BoundDrawsModel" "one" "[I", Cond.fieldLink RX11 183 "BoundDrawsModel" "hits" "I", Cond.fieldLink RX11 168 "BoundDrawsModel" "testUp" "I", Cond.fieldLink RX11 177 "BoundDrawsModel" "trustDown" "I", Cond.methodLink RX11 96 yX11_power, Cond.static yX11_power, Cond.initialized RX11, Cond.code yX11_power cX11_power 4 none, Cond.methodLink RX11 57 yX11_small, Cond.static yX11_small, Cond.code yX11_small cX11_small 3 none, Cond.constant RX11 54 (65535), Cond.methodLink RX11 61 yX11_times, Cond.static yX11_times, Cond.code yX11_times cX11_times 6 none, Cond.constantLong RX11 55 (65535), Cond.methodLink RX11 68 yX11_term, Cond.static yX11_term, Cond.code yX11_term cX11_term 6 none, Cond.methodLink RX11 65 yX11_over]
def wsX11_isRich_r2 : List Cond := [Cond.static yX11_over, Cond.code yX11_over cX11_over 5 none, Cond.methodLink RX11 100 yX11_compared, Cond.static yX11_compared, Cond.code yX11_compared cX11_compared 3 (some .int)]
def wsX11_isRich : List Cond := .code yX11_isRich cX11_isRich 1 (some .boolean) :: ((wsX11_isRich_r1 ++ wsX11_isRich_r2) ++ wsX110)
def wsX11_hit_r1 : List Cond := [Cond.fieldLink RX11 50 "BoundDrawsModel" "thrown" "I", Cond.fieldLink RX11 164 "BoundDrawsModel" "hasTest" "Z", Cond.fieldLink RX11 180 "BoundDrawsModel" "tries" "I", Cond.fieldLink RX11 183 "BoundDrawsModel" "hits" "I", Cond.fieldLink RX11 186 "BoundDrawsModel" "rejected" "I", Cond.methodLink RX11 189 yX11_isRich, Cond.instanceMethod yX11_isRich, Cond.selects RX11 yX11_isRich yX11_isRich, Cond.initialized RX11, Cond.code yX11_isRich cX11_isRich 1 (some .boolean), Cond.fieldLink RX11 7 "BoundDrawsModel" "sum" "[I", Cond.fieldLink RX11 171 "BoundDrawsModel" "testDown" "I", Cond.fieldLink RX11 174 "BoundDrawsModel" "trustUp" "I", Cond.fieldLink RX11 13 "BoundDrawsModel" "one" "[I", Cond.fieldLink RX11 168 "BoundDrawsModel" "testUp" "I", Cond.fieldLink RX11 177 "BoundDrawsModel" "trustDown" "I", Cond.methodLink RX11 96 yX11_power, Cond.static yX11_power, Cond.code yX11_power cX11_power 4 none, Cond.methodLink RX11 57 yX11_small, Cond.static yX11_small, Cond.code yX11_small cX11_small 3 none, Cond.constant RX11 54 (65535), Cond.methodLink RX11 61 yX11_times]
def wsX11_hit_r2 : List Cond := [Cond.static yX11_times, Cond.code yX11_times cX11_times 6 none, Cond.constantLong RX11 55 (65535), Cond.methodLink RX11 68 yX11_term, Cond.static yX11_term, Cond.code yX11_term cX11_term 6 none, Cond.methodLink RX11 65 yX11_over, Cond.static yX11_over, Cond.code yX11_over cX11_over 5 none, Cond.methodLink RX11 100 yX11_compared, Cond.static yX11_compared, Cond.code yX11_compared cX11_compared 3 (some .int)]
def wsX11_hit : List Cond := .code yX11_hit cX11_hit 2 (some .int) :: ((wsX11_hit_r1 ++ wsX11_hit_r2) ++ wsX110)
def wsX11_test_r1 : List Cond := [Cond.fieldLink RX11 50 "BoundDrawsModel" "thrown" "I", Cond.fieldLink RX11 164 "BoundDrawsModel" "hasTest" "Z", Cond.fieldLink RX11 180 "BoundDrawsModel" "tries" "I", Cond.fieldLink RX11 183 "BoundDrawsModel" "hits" "I", Cond.fieldLink RX11 186 "BoundDrawsModel" "rejected" "I", Cond.methodLink RX11 189 yX11_isRich, Cond.instanceMethod yX11_isRich, Cond.selects RX11 yX11_isRich yX11_isRich, Cond.initialized RX11, Cond.code yX11_isRich cX11_isRich 1 (some .boolean), Cond.fieldLink RX11 7 "BoundDrawsModel" "sum" "[I", Cond.fieldLink RX11 171 "BoundDrawsModel" "testDown" "I", Cond.fieldLink RX11 174 "BoundDrawsModel" "trustUp" "I", Cond.fieldLink RX11 13 "BoundDrawsModel" "one" "[I", Cond.fieldLink RX11 168 "BoundDrawsModel" "testUp" "I", Cond.fieldLink RX11 177 "BoundDrawsModel" "trustDown" "I", Cond.methodLink RX11 96 yX11_power, Cond.static yX11_power, Cond.code yX11_power cX11_power 4 none, Cond.methodLink RX11 57 yX11_small, Cond.static yX11_small, Cond.code yX11_small cX11_small 3 none, Cond.constant RX11 54 (65535), Cond.methodLink RX11 61 yX11_times]
def wsX11_test_r2 : List Cond := [Cond.static yX11_times, Cond.code yX11_times cX11_times 6 none, Cond.constantLong RX11 55 (65535), Cond.methodLink RX11 68 yX11_term, Cond.static yX11_term, Cond.code yX11_term cX11_term 6 none, Cond.methodLink RX11 65 yX11_over, Cond.static yX11_over, Cond.code yX11_over cX11_over 5 none, Cond.methodLink RX11 100 yX11_compared, Cond.static yX11_compared, Cond.code yX11_compared cX11_compared 3 (some .int)]
def wsX11_test : List Cond := .code yX11_test cX11_test 2 (some .int) :: ((wsX11_test_r1 ++ wsX11_test_r2) ++ wsX110)
def wsX11_count_ : List Cond := .code yX11_count_ cX11_count_ 2 (some .int) :: ([.fieldLink RX11 50 "BoundDrawsModel" "thrown" "I", .fieldLink RX11 117 "BoundDrawsModel" "rows" "I", .fieldLink RX11 114 "BoundDrawsModel" "units" "I", .fieldLink RX11 146 "BoundDrawsModel" "means" "I", .fieldLink RX11 157 "BoundDrawsModel" "compares" "I", .methodLink RX11 124 yX11_unite, .instanceMethod yX11_unite, .selects RX11 yX11_unite yX11_unite, .initialized RX11, .code yX11_unite cX11_unite 6 none, .fieldLink RX11 16 "BoundDrawsModel" "groupOf" "[I", .fieldLink RX11 19 "BoundDrawsModel" "xOf" "[I", .fieldLink RX11 22 "BoundDrawsModel" "yOf" "[I", .fieldLink RX11 25 "BoundDrawsModel" "difference" "[I", .fieldLink RX11 28 "BoundDrawsModel" "size" "[I"] ++ wsX110)
def wsX11_clear : List Cond := .code yX11_clear cX11_clear 2 (some .int) :: ([.fieldLink RX11 50 "BoundDrawsModel" "thrown" "I", .fieldLink RX11 117 "BoundDrawsModel" "rows" "I", .fieldLink RX11 146 "BoundDrawsModel" "means" "I", .fieldLink RX11 157 "BoundDrawsModel" "compares" "I", .fieldLink RX11 164 "BoundDrawsModel" "hasTest" "Z"] ++ wsX110)
def wsJ9_abs_0f7a4 : List Cond := .code yJ9_abs_0f7a4 cJ9_abs_0f7a4 1 (some .int) :: ([])
def wsJ9_abs_067f4 : List Cond := .code yJ9_abs_067f4 cJ9_abs_067f4 2 (some .long) :: ([])
def wsJ9_max_7cf53 : List Cond := .code yJ9_max_7cf53 cJ9_max_7cf53 2 (some .int) :: ([])
def wsJ9_min_7cf53 : List Cond := .code yJ9_min_7cf53 cJ9_min_7cf53 2 (some .int) :: ([])
def wsL_bound_r1 : List Cond := [Cond.classLink RL 13 "java/lang/IllegalArgumentException", Cond.methodLink RL 7 yX10_bound, Cond.instanceMethod yX10_bound, Cond.selects RX10 yX10_bound yX10_bound, Cond.initialized RX10, Cond.code yX10_bound cX10_bound 6 (some .int), Cond.classLink RX10 93 "java/lang/IllegalArgumentException", Cond.initialized "java/lang/IllegalArgumentException", Cond.fieldLink RX10 10 "BoundDraws" "hits" "LBoundDraws$Hits;", Cond.methodLink RX10 69 yX3_within, Cond.static yX3_within, Cond.initialized RX3, Cond.code yX3_within cX3_within 3 (some .boolean), Cond.methodLink RX10 85 yX10_isSide, Cond.static yX10_isSide, Cond.code yX10_isSide cX10_isSide 1 (some .boolean), Cond.methodLink RX10 89 yX10_isTrust, Cond.static yX10_isTrust, Cond.code yX10_isTrust cX10_isTrust 2 (some .boolean), Cond.methodLink RX10 100 yX1_upper, Cond.instanceMethod yX1_upper, Cond.selects RX1 yX1_upper yX1_upper, Cond.initialized RX1, Cond.code yX1_upper cX1_upper 9 (some .int)]
def wsL_bound_r2 : List Cond := [Cond.fieldLink RX1 19 "BoundDraws$Hits" "measure" "LBoundDraws$Wide;", Cond.constantLong RX1 45 (1000), Cond.fieldLink RX1 10 "BoundDraws$Hits" "sum" "LBoundDraws$Wide;", Cond.methodLink RX1 30 yX9_become, Cond.instanceMethod yX9_become, Cond.selects RX9 yX9_become yX9_become, Cond.initialized RX9, Cond.code yX9_become cX9_become 4 none, Cond.fieldLink RX9 9 "BoundDraws$Wide" "limbs" "[J", Cond.constantLong RX9 17 (4294967295), Cond.fieldLink RX9 13 "BoundDraws$Wide" "used" "I", Cond.methodLink RX1 34 yX9_multiplyOften, Cond.instanceMethod yX9_multiplyOften, Cond.selects RX9 yX9_multiplyOften yX9_multiplyOften, Cond.code yX9_multiplyOften cX9_multiplyOften 5 none, Cond.methodLink RX9 19 yX9_multiply, Cond.instanceMethod yX9_multiply, Cond.selects RX9 yX9_multiply yX9_multiply, Cond.code yX9_multiply cX9_multiply 8 none, Cond.methodLink RX1 22 yX1_sumUp, Cond.instanceMethod yX1_sumUp, Cond.selects RX1 yX1_sumUp yX1_sumUp, Cond.code yX1_sumUp cX1_sumUp 6 none, Cond.methodLink RX1 51 yX1_sumOfAtLeast]
def wsL_bound_r3 : List Cond := [Cond.instanceMethod yX1_sumOfAtLeast, Cond.selects RX1 yX1_sumOfAtLeast yX1_sumOfAtLeast, Cond.code yX1_sumOfAtLeast cX1_sumOfAtLeast 8 none, Cond.fieldLink RX1 16 "BoundDraws$Hits" "power" "LBoundDraws$Wide;", Cond.methodLink RX1 38 yX9_multiply, Cond.methodLink RX1 55 yX9_addTimes, Cond.instanceMethod yX9_addTimes, Cond.selects RX9 yX9_addTimes yX9_addTimes, Cond.code yX9_addTimes cX9_addTimes 10 none, Cond.methodLink RX9 23 Lib.Math.max.name, Cond.static Lib.Math.max.name, Cond.initialized "java/lang/Math", Cond.code Lib.Math.max.name Lib.Math.max.code 2 (some .int), Cond.methodLink RX9 29 Lib.Math.min.name, Cond.static Lib.Math.min.name, Cond.code Lib.Math.min.name Lib.Math.min.code 2 (some .int), Cond.methodLink RX1 41 yX9_against, Cond.instanceMethod yX9_against, Cond.selects RX9 yX9_against yX9_against, Cond.code yX9_against cX9_against 3 (some .int), Cond.methodLink RX10 104 yX1_lower, Cond.instanceMethod yX1_lower, Cond.selects RX1 yX1_lower yX1_lower, Cond.code yX1_lower cX1_lower 5 (some .int)]
def wsL_bound_r4 : List Cond := [Cond.methodLink RX1 47 yX1_upper]
def wsL_bound : List Cond := .codeWith yL_bound cL_bound 8 (some .int) [(0, 16, 19, 13)] :: ((wsL_bound_r1 ++ (wsL_bound_r2 ++ (wsL_bound_r3 ++ wsL_bound_r4))) ++ wsX100 ++ wsX10 ++ wsX90 ++ (vx_atS RX10 97 "java/lang/IllegalArgumentException" ["java/lang/RuntimeException", "java/lang/Exception"]).filter goodWord)
def wsL_drawn_r1 : List Cond := [Cond.classLink RL 19 "java/lang/IndexOutOfBoundsException", Cond.methodLink RL 15 yX10_drawn, Cond.instanceMethod yX10_drawn, Cond.selects RX10 yX10_drawn yX10_drawn, Cond.initialized RX10, Cond.code yX10_drawn cX10_drawn 3 (some .long), Cond.classLink RX10 160 "java/lang/IndexOutOfBoundsException", Cond.initialized "java/lang/IndexOutOfBoundsException", Cond.constantLong RX10 75 (-1), Cond.fieldLink RX10 40 "BoundDraws" "means" "LBoundDraws$Means;", Cond.methodLink RX10 85 yX10_isSide, Cond.static yX10_isSide, Cond.code yX10_isSide cX10_isSide 1 (some .boolean), Cond.methodLink RX10 159 yX2_size, Cond.instanceMethod yX2_size, Cond.selects RX2 yX2_size yX2_size, Cond.initialized RX2, Cond.code yX2_size cX2_size 1 (some .int), Cond.fieldLink RX2 23 "BoundDraws$Means" "used" "I", Cond.methodLink RX10 165 yX2_told, Cond.instanceMethod yX2_told, Cond.selects RX2 yX2_told yX2_told, Cond.code yX2_told cX2_told 3 (some .long), Cond.fieldLink RX2 9 "BoundDraws$Means" "uppers" "[J"]
def wsL_drawn_r2 : List Cond := [Cond.fieldLink RX2 13 "BoundDraws$Means" "lowers" "[J"]
def wsL_drawn : List Cond := .codeWith yL_drawn cL_drawn 5 (some .int) [(0, 9, 12, 19)] :: ((wsL_drawn_r1 ++ wsL_drawn_r2) ++ wsX100 ++ wsX20 ++ (vx_atS RX10 164 "java/lang/IndexOutOfBoundsException" ["java/lang/RuntimeException", "java/lang/Exception"]).filter goodWord)
def wsL_share : List Cond := .codeWith yL_share cL_share 3 (some .int) [(0, 8, 11, 25)] :: ([.classLink RL 25 "java/lang/ArithmeticException", .methodLink RL 21 yX10_share, .instanceMethod yX10_share, .selects RX10 yX10_share yX10_share, .initialized RX10, .code yX10_share cX10_share 2 (some .int), .classLink RX10 176 "java/lang/ArithmeticException", .initialized "java/lang/ArithmeticException", .fieldLink RX10 40 "BoundDraws" "means" "LBoundDraws$Means;", .methodLink RX10 159 yX2_size, .instanceMethod yX2_size, .selects RX2 yX2_size yX2_size, .initialized RX2, .code yX2_size cX2_size 1 (some .int), .fieldLink RX2 23 "BoundDraws$Means" "used" "I", .methodLink RX10 181 yX2_aboveZero, .instanceMethod yX2_aboveZero, .selects RX2 yX2_aboveZero yX2_aboveZero, .code yX2_aboveZero cX2_aboveZero 3 (some .int), .fieldLink RX2 9 "BoundDraws$Means" "uppers" "[J"] ++ wsX100 ++ wsX20 ++ (vx_atS RX10 180 "java/lang/ArithmeticException" ["java/lang/RuntimeException", "java/lang/Exception"]).filter goodWord)
def wsL_begin_r1 : List Cond := [Cond.classLink RL 13 "java/lang/IllegalArgumentException", Cond.methodLink RL 27 yX10_begin, Cond.instanceMethod yX10_begin, Cond.selects RX10 yX10_begin yX10_begin, Cond.initialized RX10, Cond.code yX10_begin cX10_begin 5 (some .int), Cond.classLink RX10 93 "java/lang/IllegalArgumentException", Cond.initialized "java/lang/IllegalArgumentException", Cond.fieldLink RX10 54 "BoundDraws" "trial" "LBoundDraws$Trial;", Cond.methodLink RX10 69 yX3_within, Cond.static yX3_within, Cond.initialized RX3, Cond.code yX3_within cX3_within 3 (some .boolean), Cond.methodLink RX10 89 yX10_isTrust, Cond.static yX10_isTrust, Cond.code yX10_isTrust cX10_isTrust 2 (some .boolean), Cond.methodLink RX10 199 yX6_start, Cond.instanceMethod yX6_start, Cond.selects RX6 yX6_start yX6_start, Cond.initialized RX6, Cond.code yX6_start cX6_start 5 none, Cond.fieldLink RX6 19 "BoundDraws$Trial" "on" "Z", Cond.fieldLink RX6 23 "BoundDraws$Trial" "up" "I", Cond.fieldLink RX6 27 "BoundDraws$Trial" "down" "I"]
def wsL_begin_r2 : List Cond := [Cond.fieldLink RX6 30 "BoundDraws$Trial" "a" "I", Cond.fieldLink RX6 33 "BoundDraws$Trial" "b" "I", Cond.fieldLink RX6 36 "BoundDraws$Trial" "tries" "I", Cond.fieldLink RX6 39 "BoundDraws$Trial" "hits" "I", Cond.fieldLink RX6 42 "BoundDraws$Trial" "rejectedBehind" "I"]
def wsL_begin : List Cond := .codeWith yL_begin cL_begin 7 (some .int) [(0, 14, 17, 13)] :: ((wsL_begin_r1 ++ wsL_begin_r2) ++ wsX100 ++ wsX60 ++ (vx_atS RX10 97 "java/lang/IllegalArgumentException" ["java/lang/RuntimeException", "java/lang/Exception"]).filter goodWord)
def wsL_law0_r1 : List Cond := [Cond.classLink RL 8 RX10, Cond.instantiable RX10 8, Cond.initialized RX10, Cond.classLink RL 32 RX11, Cond.instantiable RX11 26, Cond.initialized RX11, Cond.arrayClass .long, Cond.constantLong RL 77 (4294967295), Cond.methodLink RL 31 yX10_init, Cond.instanceMethod yX10_init, Cond.code yX10_init cX10_init 1 none, Cond.methodLink RX10 1 objectInit, Cond.instanceMethod objectInit, Cond.code objectInit ⟨#[0xb1]⟩ 1 none, Cond.classLink RX10 7 RX1, Cond.instantiable RX1 3, Cond.initialized RX1, Cond.fieldLink RX10 10 "BoundDraws" "hits" "LBoundDraws$Hits;", Cond.classLink RX10 16 RX5, Cond.instantiable RX5 4, Cond.initialized RX5, Cond.fieldLink RX10 19 "BoundDraws" "rows" "LBoundDraws$Rows;", Cond.classLink RX10 23 RX8, Cond.instantiable RX8 3]
def wsL_law0_r2 : List Cond := [Cond.initialized RX8, Cond.fieldLink RX10 26 "BoundDraws" "units" "LBoundDraws$Units;", Cond.classLink RX10 30 RX7, Cond.instantiable RX7 4, Cond.initialized RX7, Cond.fieldLink RX10 33 "BoundDraws" "turns" "LBoundDraws$Turns;", Cond.classLink RX10 37 RX2, Cond.instantiable RX2 4, Cond.initialized RX2, Cond.fieldLink RX10 40 "BoundDraws" "means" "LBoundDraws$Means;", Cond.classLink RX10 44 RX0, Cond.instantiable RX0 3, Cond.initialized RX0, Cond.fieldLink RX10 47 "BoundDraws" "compares" "LBoundDraws$Compares;", Cond.classLink RX10 51 RX6, Cond.instantiable RX6 10, Cond.initialized RX6, Cond.fieldLink RX10 54 "BoundDraws" "trial" "LBoundDraws$Trial;", Cond.classLink RX10 58 RX4, Cond.instantiable RX4 2, Cond.initialized RX4, Cond.fieldLink RX10 61 "BoundDraws" "answer" "LBoundDraws$Ratio;", Cond.methodLink RX10 9 yX1_init, Cond.instanceMethod yX1_init]
def wsL_law0_r3 : List Cond := [Cond.code yX1_init cX1_init 1 none, Cond.methodLink RX1 1 objectInit, Cond.classLink RX1 7 RX9, Cond.instantiable RX9 2, Cond.initialized RX9, Cond.fieldLink RX1 10 "BoundDraws$Hits" "sum" "LBoundDraws$Wide;", Cond.fieldLink RX1 16 "BoundDraws$Hits" "power" "LBoundDraws$Wide;", Cond.fieldLink RX1 19 "BoundDraws$Hits" "measure" "LBoundDraws$Wide;", Cond.methodLink RX1 9 yX9_init, Cond.instanceMethod yX9_init, Cond.code yX9_init cX9_init 1 none, Cond.methodLink RX9 1 objectInit, Cond.fieldLink RX9 9 "BoundDraws$Wide" "limbs" "[J", Cond.fieldLink RX9 13 "BoundDraws$Wide" "used" "I", Cond.methodLink RX10 18 yX5_init, Cond.instanceMethod yX5_init, Cond.code yX5_init cX5_init 1 none, Cond.methodLink RX5 1 objectInit, Cond.arrayClass .int, Cond.fieldLink RX5 9 "BoundDraws$Rows" "groups" "[I", Cond.fieldLink RX5 13 "BoundDraws$Rows" "xs" "[I", Cond.fieldLink RX5 16 "BoundDraws$Rows" "ys" "[I", Cond.fieldLink RX5 19 "BoundDraws$Rows" "used" "I", Cond.methodLink RX10 25 yX8_init]
def wsL_law0_r4 : List Cond := [Cond.instanceMethod yX8_init, Cond.code yX8_init cX8_init 1 none, Cond.methodLink RX8 1 objectInit, Cond.fieldLink RX8 9 "BoundDraws$Units" "differences" "[I", Cond.fieldLink RX8 15 "BoundDraws$Units" "sizes" "[I", Cond.fieldLink RX8 18 "BoundDraws$Units" "used" "I", Cond.methodLink RX10 32 yX7_init, Cond.instanceMethod yX7_init, Cond.code yX7_init cX7_init 1 none, Cond.methodLink RX7 1 objectInit, Cond.fieldLink RX7 9 "BoundDraws$Turns" "waysByMinus" "[J", Cond.fieldLink RX7 13 "BoundDraws$Turns" "signs" "I", Cond.fieldLink RX7 17 "BoundDraws$Turns" "rises" "I", Cond.fieldLink RX7 20 "BoundDraws$Turns" "falls" "I", Cond.methodLink RX10 39 yX2_init, Cond.instanceMethod yX2_init, Cond.code yX2_init cX2_init 1 none, Cond.methodLink RX2 1 objectInit, Cond.fieldLink RX2 9 "BoundDraws$Means" "uppers" "[J", Cond.fieldLink RX2 13 "BoundDraws$Means" "lowers" "[J", Cond.classLink RX2 16 RX4, Cond.fieldLink RX2 19 "BoundDraws$Means" "mean" "LBoundDraws$Ratio;", Cond.fieldLink RX2 23 "BoundDraws$Means" "used" "I", Cond.methodLink RX2 18 yX4_init]
def wsL_law0_r5 : List Cond := [Cond.instanceMethod yX4_init, Cond.code yX4_init cX4_init 1 none, Cond.methodLink RX4 1 objectInit, Cond.fieldLink RX4 7 "BoundDraws$Ratio" "upper" "J", Cond.fieldLink RX4 13 "BoundDraws$Ratio" "lower" "J", Cond.methodLink RX10 46 yX0_init, Cond.instanceMethod yX0_init, Cond.code yX0_init cX0_init 1 none, Cond.methodLink RX0 1 objectInit, Cond.fieldLink RX0 9 "BoundDraws$Compares" "ups" "[I", Cond.fieldLink RX0 13 "BoundDraws$Compares" "downs" "[I", Cond.fieldLink RX0 16 "BoundDraws$Compares" "used" "I", Cond.methodLink RX10 53 yX6_init, Cond.instanceMethod yX6_init, Cond.code yX6_init cX6_init 1 none, Cond.methodLink RX6 1 objectInit, Cond.classLink RX6 7 RX9, Cond.fieldLink RX6 10 "BoundDraws$Trial" "ofAll" "LBoundDraws$Wide;", Cond.fieldLink RX6 16 "BoundDraws$Trial" "ofThese" "LBoundDraws$Wide;", Cond.methodLink RX6 9 yX9_init, Cond.methodLink RX10 60 yX4_init, Cond.methodLink RL 34 yX11_init, Cond.instanceMethod yX11_init, Cond.code yX11_init cX11_init 1 none]
def wsL_law0_r6 : List Cond := [Cond.methodLink RX11 1 objectInit, Cond.fieldLink RX11 7 "BoundDrawsModel" "sum" "[I", Cond.fieldLink RX11 13 "BoundDrawsModel" "one" "[I", Cond.fieldLink RX11 16 "BoundDrawsModel" "groupOf" "[I", Cond.fieldLink RX11 19 "BoundDrawsModel" "xOf" "[I", Cond.fieldLink RX11 22 "BoundDrawsModel" "yOf" "[I", Cond.fieldLink RX11 25 "BoundDrawsModel" "difference" "[I", Cond.fieldLink RX11 28 "BoundDrawsModel" "size" "[I", Cond.fieldLink RX11 31 "BoundDrawsModel" "ways" "[J", Cond.fieldLink RX11 35 "BoundDrawsModel" "more" "[J", Cond.fieldLink RX11 38 "BoundDrawsModel" "above" "[I", Cond.fieldLink RX11 41 "BoundDrawsModel" "below" "[I", Cond.fieldLink RX11 44 "BoundDrawsModel" "upOf" "[I", Cond.fieldLink RX11 47 "BoundDrawsModel" "downOf" "[I", Cond.methodLink RL 35 yX10_above, Cond.instanceMethod yX10_above, Cond.selects RX10 yX10_above yX10_above, Cond.code yX10_above cX10_above 7 (some .long), Cond.constantLong RX10 75 (-1), Cond.methodLink RX10 65 yX10_areHits, Cond.static yX10_areHits, Cond.code yX10_areHits cX10_areHits 5 (some .boolean), Cond.methodLink RX10 69 yX3_within, Cond.static yX3_within]
def wsL_law0_r7 : List Cond := [Cond.initialized RX3, Cond.code yX3_within cX3_within 3 (some .boolean), Cond.methodLink RX10 85 yX10_isSide, Cond.static yX10_isSide, Cond.code yX10_isSide cX10_isSide 1 (some .boolean), Cond.methodLink RX10 77 yX1_limbOfAbove, Cond.instanceMethod yX1_limbOfAbove, Cond.selects RX1 yX1_limbOfAbove yX1_limbOfAbove, Cond.code yX1_limbOfAbove cX1_limbOfAbove 7 (some .long), Cond.methodLink RX1 22 yX1_sumUp, Cond.instanceMethod yX1_sumUp, Cond.selects RX1 yX1_sumUp yX1_sumUp, Cond.code yX1_sumUp cX1_sumUp 6 none, Cond.methodLink RX1 51 yX1_sumOfAtLeast, Cond.instanceMethod yX1_sumOfAtLeast, Cond.selects RX1 yX1_sumOfAtLeast yX1_sumOfAtLeast, Cond.code yX1_sumOfAtLeast cX1_sumOfAtLeast 8 none, Cond.methodLink RX1 30 yX9_become, Cond.instanceMethod yX9_become, Cond.selects RX9 yX9_become yX9_become, Cond.code yX9_become cX9_become 4 none, Cond.constantLong RX9 17 (4294967295), Cond.methodLink RX1 38 yX9_multiply, Cond.instanceMethod yX9_multiply]
def wsL_law0_r8 : List Cond := [Cond.selects RX9 yX9_multiply yX9_multiply, Cond.code yX9_multiply cX9_multiply 8 none, Cond.methodLink RX1 55 yX9_addTimes, Cond.instanceMethod yX9_addTimes, Cond.selects RX9 yX9_addTimes yX9_addTimes, Cond.code yX9_addTimes cX9_addTimes 10 none, Cond.methodLink RX9 23 Lib.Math.max.name, Cond.static Lib.Math.max.name, Cond.initialized "java/lang/Math", Cond.code Lib.Math.max.name Lib.Math.max.code 2 (some .int), Cond.methodLink RX9 29 Lib.Math.min.name, Cond.static Lib.Math.min.name, Cond.code Lib.Math.min.name Lib.Math.min.code 2 (some .int), Cond.methodLink RX1 34 yX9_multiplyOften, Cond.instanceMethod yX9_multiplyOften, Cond.selects RX9 yX9_multiplyOften yX9_multiplyOften, Cond.code yX9_multiplyOften cX9_multiplyOften 5 none, Cond.methodLink RX9 19 yX9_multiply, Cond.methodLink RX1 26 yX9_limb, Cond.instanceMethod yX9_limb, Cond.selects RX9 yX9_limb yX9_limb, Cond.code yX9_limb cX9_limb 2 (some .long), Cond.methodLink RL 39 yX11_above, Cond.instanceMethod yX11_above]
def wsL_law0_r9 : List Cond := [Cond.selects RX11 yX11_above yX11_above, Cond.code yX11_above cX11_above 7 (some .long), Cond.fieldLink RX11 50 "BoundDrawsModel" "thrown" "I", Cond.constantLong RX11 88 (10), Cond.constantLong RX11 90 (-1), Cond.methodLink RX11 84 yX11_isHits, Cond.static yX11_isHits, Cond.code yX11_isHits cX11_isHits 5 (some .boolean), Cond.constantLong RX11 76 (30), Cond.constantLong RX11 82 (1000), Cond.methodLink RX11 78 yX11_in, Cond.static yX11_in, Cond.code yX11_in cX11_in 6 (some .boolean), Cond.methodLink RX11 92 yX11_sumUp, Cond.instanceMethod yX11_sumUp, Cond.selects RX11 yX11_sumUp yX11_sumUp, Cond.code yX11_sumUp cX11_sumUp 9 none, Cond.methodLink RX11 57 yX11_small, Cond.static yX11_small, Cond.code yX11_small cX11_small 3 none, Cond.constant RX11 54 (65535), Cond.methodLink RX11 68 yX11_term, Cond.static yX11_term, Cond.code yX11_term cX11_term 6 none]
def wsL_law0_r10 : List Cond := [Cond.methodLink RX11 61 yX11_times, Cond.static yX11_times, Cond.code yX11_times cX11_times 6 none, Cond.constantLong RX11 55 (65535), Cond.methodLink RX11 65 yX11_over, Cond.static yX11_over, Cond.code yX11_over cX11_over 5 none, Cond.methodLink RX11 72 yX11_plus, Cond.static yX11_plus, Cond.code yX11_plus cX11_plus 4 none, Cond.methodLink RL 40 yX10_odds, Cond.instanceMethod yX10_odds, Cond.selects RX10 yX10_odds yX10_odds, Cond.code yX10_odds cX10_odds 8 (some .int), Cond.methodLink RX10 81 yX1_oddsAgainst, Cond.instanceMethod yX1_oddsAgainst, Cond.selects RX1 yX1_oddsAgainst yX1_oddsAgainst, Cond.code yX1_oddsAgainst cX1_oddsAgainst 8 (some .int), Cond.methodLink RX1 41 yX9_against, Cond.instanceMethod yX9_against, Cond.selects RX9 yX9_against yX9_against, Cond.code yX9_against cX9_against 3 (some .int), Cond.methodLink RL 44 yX11_odds, Cond.instanceMethod yX11_odds]
def wsL_law0_r11 : List Cond := [Cond.selects RX11 yX11_odds yX11_odds, Cond.code yX11_odds cX11_odds 8 (some .int), Cond.methodLink RX11 104 yX11_beside, Cond.instanceMethod yX11_beside, Cond.selects RX11 yX11_beside yX11_beside, Cond.code yX11_beside cX11_beside 8 (some .int), Cond.methodLink RX11 96 yX11_power, Cond.static yX11_power, Cond.code yX11_power cX11_power 4 none, Cond.methodLink RX11 100 yX11_compared, Cond.static yX11_compared, Cond.code yX11_compared cX11_compared 3 (some .int), Cond.methodLink RL 45 yL_bound, Cond.static yL_bound, Cond.initialized RL, Cond.codeWith yL_bound cL_bound 8 (some .int) [(0, 16, 19, 13)], Cond.classLink RL 13 "java/lang/IllegalArgumentException", Cond.methodLink RL 7 yX10_bound, Cond.instanceMethod yX10_bound, Cond.selects RX10 yX10_bound yX10_bound, Cond.code yX10_bound cX10_bound 6 (some .int), Cond.classLink RX10 93 "java/lang/IllegalArgumentException", Cond.initialized "java/lang/IllegalArgumentException", Cond.methodLink RX10 89 yX10_isTrust]
def wsL_law0_r12 : List Cond := [Cond.static yX10_isTrust, Cond.code yX10_isTrust cX10_isTrust 2 (some .boolean), Cond.methodLink RX10 100 yX1_upper, Cond.instanceMethod yX1_upper, Cond.selects RX1 yX1_upper yX1_upper, Cond.code yX1_upper cX1_upper 9 (some .int), Cond.constantLong RX1 45 (1000), Cond.methodLink RX10 104 yX1_lower, Cond.instanceMethod yX1_lower, Cond.selects RX1 yX1_lower yX1_lower, Cond.code yX1_lower cX1_lower 5 (some .int), Cond.methodLink RX1 47 yX1_upper, Cond.methodLink RL 50 yX11_bound, Cond.instanceMethod yX11_bound, Cond.selects RX11 yX11_bound yX11_bound, Cond.code yX11_bound cX11_bound 10 (some .int), Cond.methodLink RX11 110 yX11_isTrust, Cond.static yX11_isTrust, Cond.code yX11_isTrust cX11_isTrust 2 (some .boolean), Cond.constantLong RX11 108 (2), Cond.methodLink RL 51 yX11_thrown, Cond.instanceMethod yX11_thrown, Cond.selects RX11 yX11_thrown yX11_thrown, Cond.code yX11_thrown cX11_thrown 1 (some .int)]
def wsL_law0_r13 : List Cond := [Cond.methodLink RL 54 yX10_row, Cond.instanceMethod yX10_row, Cond.selects RX10 yX10_row yX10_row, Cond.code yX10_row cX10_row 4 (some .int), Cond.methodLink RX10 107 yX5_isFull, Cond.instanceMethod yX5_isFull, Cond.selects RX5 yX5_isFull yX5_isFull, Cond.code yX5_isFull cX5_isFull 1 (some .boolean), Cond.methodLink RX10 111 yX5_add, Cond.instanceMethod yX5_add, Cond.selects RX5 yX5_add yX5_add, Cond.code yX5_add cX5_add 4 none, Cond.methodLink RX5 23 yX5_isFull, Cond.methodLink RX10 115 yX5_size, Cond.instanceMethod yX5_size, Cond.selects RX5 yX5_size yX5_size, Cond.code yX5_size cX5_size 1 (some .int), Cond.methodLink RL 58 yX11_row, Cond.instanceMethod yX11_row, Cond.selects RX11 yX11_row yX11_row, Cond.code yX11_row cX11_row 4 (some .int), Cond.constantLong RX11 120 (7), Cond.constantLong RX11 122 (100), Cond.fieldLink RX11 117 "BoundDrawsModel" "rows" "I"]
def wsL_law0_r14 : List Cond := [Cond.methodLink RL 59 yX10_drop, Cond.instanceMethod yX10_drop, Cond.selects RX10 yX10_drop yX10_drop, Cond.code yX10_drop cX10_drop 1 (some .int), Cond.methodLink RX10 119 yX5_removeLast, Cond.instanceMethod yX5_removeLast, Cond.selects RX5 yX5_removeLast yX5_removeLast, Cond.code yX5_removeLast cX5_removeLast 1 none, Cond.methodLink RL 62 yX11_drop, Cond.instanceMethod yX11_drop, Cond.selects RX11 yX11_drop yX11_drop, Cond.code yX11_drop cX11_drop 1 (some .int), Cond.methodLink RL 63 yX10_turned, Cond.instanceMethod yX10_turned, Cond.selects RX10 yX10_turned yX10_turned, Cond.code yX10_turned cX10_turned 3 (some .long), Cond.methodLink RX10 122 yX8_take, Cond.instanceMethod yX8_take, Cond.selects RX8 yX8_take yX8_take, Cond.code yX8_take cX8_take 3 none, Cond.methodLink RX8 22 yX8_takeGroups, Cond.instanceMethod yX8_takeGroups, Cond.selects RX8 yX8_takeGroups yX8_takeGroups, Cond.code yX8_takeGroups cX8_takeGroups 4 none]
def wsL_law0_r15 : List Cond := [Cond.methodLink RX8 41 yX5_sizeOfGroup, Cond.instanceMethod yX5_sizeOfGroup, Cond.selects RX5 yX5_sizeOfGroup yX5_sizeOfGroup, Cond.code yX5_sizeOfGroup cX5_sizeOfGroup 4 (some .int), Cond.methodLink RX8 44 yX5_differenceOfGroup, Cond.instanceMethod yX5_differenceOfGroup, Cond.selects RX5 yX5_differenceOfGroup yX5_differenceOfGroup, Cond.code yX5_differenceOfGroup cX5_differenceOfGroup 4 (some .int), Cond.methodLink RX8 37 yX8_add, Cond.instanceMethod yX8_add, Cond.selects RX8 yX8_add yX8_add, Cond.code yX8_add cX8_add 3 none, Cond.methodLink RX8 26 yX8_takeRows, Cond.instanceMethod yX8_takeRows, Cond.selects RX8 yX8_takeRows yX8_takeRows, Cond.code yX8_takeRows cX8_takeRows 3 none, Cond.methodLink RX8 29 yX5_size, Cond.methodLink RX8 33 yX5_difference, Cond.instanceMethod yX5_difference, Cond.selects RX5 yX5_difference yX5_difference, Cond.code yX5_difference cX5_difference 2 (some .int), Cond.methodLink RX10 126 yX7_take, Cond.instanceMethod yX7_take, Cond.selects RX7 yX7_take yX7_take]
def wsL_law0_r16 : List Cond := [Cond.code yX7_take cX7_take 6 none, Cond.methodLink RX7 40 Lib.Math.abs.name, Cond.static Lib.Math.abs.name, Cond.code Lib.Math.abs.name Lib.Math.abs.code 1 (some .int), Cond.methodLink RX7 45 Lib.Math.min.name, Cond.methodLink RX7 23 yX7_measure, Cond.instanceMethod yX7_measure, Cond.selects RX7 yX7_measure yX7_measure, Cond.code yX7_measure cX7_measure 4 none, Cond.methodLink RX7 53 Lib.Math.max.name, Cond.methodLink RX7 31 yX8_size, Cond.instanceMethod yX8_size, Cond.selects RX8 yX8_size yX8_size, Cond.code yX8_size cX8_size 1 (some .int), Cond.methodLink RX7 36 yX8_difference, Cond.instanceMethod yX8_difference, Cond.selects RX8 yX8_difference yX8_difference, Cond.code yX8_difference cX8_difference 2 (some .int), Cond.methodLink RX7 27 yX7_reach, Cond.instanceMethod yX7_reach, Cond.selects RX7 yX7_reach yX7_reach, Cond.code yX7_reach cX7_reach 1 (some .int), Cond.methodLink RX7 49 yX7_takeSign, Cond.instanceMethod yX7_takeSign]
def wsL_law0_r17 : List Cond := [Cond.selects RX7 yX7_takeSign yX7_takeSign, Cond.code yX7_takeSign cX7_takeSign 4 none, Cond.methodLink RX10 129 yX7_signs, Cond.instanceMethod yX7_signs, Cond.selects RX7 yX7_signs yX7_signs, Cond.code yX7_signs cX7_signs 1 (some .int), Cond.methodLink RX10 132 yX7_waysAtLeast, Cond.instanceMethod yX7_waysAtLeast, Cond.selects RX7 yX7_waysAtLeast yX7_waysAtLeast, Cond.code yX7_waysAtLeast cX7_waysAtLeast 1 (some .long), Cond.methodLink RX7 56 yX7_waysUpTo, Cond.instanceMethod yX7_waysUpTo, Cond.selects RX7 yX7_waysUpTo yX7_waysUpTo, Cond.code yX7_waysUpTo cX7_waysUpTo 6 (some .long), Cond.methodLink RX7 60 yX7_allWays, Cond.instanceMethod yX7_allWays, Cond.selects RX7 yX7_allWays yX7_allWays, Cond.code yX7_allWays cX7_allWays 1 (some .long), Cond.methodLink RX10 136 yX7_waysAsFar, Cond.instanceMethod yX7_waysAsFar, Cond.selects RX7 yX7_waysAsFar yX7_waysAsFar, Cond.code yX7_waysAsFar cX7_waysAsFar 1 (some .long), Cond.constantLong RX7 64 (2), Cond.methodLink RL 67 yX11_turned]
def wsL_law0_r18 : List Cond := [Cond.instanceMethod yX11_turned, Cond.selects RX11 yX11_turned yX11_turned, Cond.code yX11_turned cX11_turned 10 (some .long), Cond.fieldLink RX11 114 "BoundDrawsModel" "units" "I", Cond.constantLong RX11 128 (6000), Cond.methodLink RX11 124 yX11_unite, Cond.instanceMethod yX11_unite, Cond.selects RX11 yX11_unite yX11_unite, Cond.code yX11_unite cX11_unite 6 none, Cond.methodLink RL 68 yX10_wins, Cond.instanceMethod yX10_wins, Cond.selects RX10 yX10_wins yX10_wins, Cond.code yX10_wins cX10_wins 3 (some .int), Cond.methodLink RX10 139 yX5_winsBy, Cond.instanceMethod yX5_winsBy, Cond.selects RX5 yX5_winsBy yX5_winsBy, Cond.code yX5_winsBy cX5_winsBy 2 (some .int), Cond.methodLink RX5 31 yX5_reachedAlone, Cond.instanceMethod yX5_reachedAlone, Cond.selects RX5 yX5_reachedAlone yX5_reachedAlone, Cond.code yX5_reachedAlone cX5_reachedAlone 6 (some .int), Cond.methodLink RX10 143 yX5_lossesBy, Cond.instanceMethod yX5_lossesBy, Cond.selects RX5 yX5_lossesBy yX5_lossesBy]
def wsL_law0_r19 : List Cond := [Cond.code yX5_lossesBy cX5_lossesBy 2 (some .int), Cond.methodLink RL 72 yX11_wins, Cond.instanceMethod yX11_wins, Cond.selects RX11 yX11_wins yX11_wins, Cond.code yX11_wins cX11_wins 3 (some .int), Cond.constantLong RX11 130 (101), Cond.methodLink RX11 132 yX11_count, Cond.instanceMethod yX11_count, Cond.selects RX11 yX11_count yX11_count, Cond.code yX11_count cX11_count 7 (some .int), Cond.methodLink RL 73 yX10_even, Cond.instanceMethod yX10_even, Cond.selects RX10 yX10_even yX10_even, Cond.code yX10_even cX10_even 3 (some .long), Cond.methodLink RX10 146 yX10_takeOddsOf, Cond.instanceMethod yX10_takeOddsOf, Cond.selects RX10 yX10_takeOddsOf yX10_takeOddsOf, Cond.code yX10_takeOddsOf cX10_takeOddsOf 8 none, Cond.methodLink RX10 229 Lib.Math.min.name, Cond.constantLong RX10 235 (2), Cond.methodLink RX10 232 yX3_setsOutOf, Cond.static yX3_setsOutOf, Cond.code yX3_setsOutOf cX3_setsOutOf 5 (some .long), Cond.methodLink RX10 237 yX4_become]
def wsL_law0_r20 : List Cond := [Cond.instanceMethod yX4_become, Cond.selects RX4 yX4_become yX4_become, Cond.code yX4_become cX4_become 7 none, Cond.methodLink RX4 16 Lib.MathLoose.abs_long.x, Cond.static Lib.MathLoose.abs_long.x, Cond.code Lib.MathLoose.abs_long.x Lib.MathLoose.abs_long.code 2 (some .long), Cond.methodLink RX4 22 yX3_commonDivisor, Cond.static yX3_commonDivisor, Cond.code yX3_commonDivisor cX3_commonDivisor 11 (some .long), Cond.methodLink RX10 193 yX4_capAtOne, Cond.instanceMethod yX4_capAtOne, Cond.selects RX4 yX4_capAtOne yX4_capAtOne, Cond.code yX4_capAtOne cX4_capAtOne 1 none, Cond.methodLink RX4 28 yX4_become, Cond.methodLink RX10 150 yX4_told, Cond.instanceMethod yX4_told, Cond.selects RX4 yX4_told yX4_told, Cond.code yX4_told cX4_told 2 (some .long), Cond.methodLink RL 76 yX11_even, Cond.instanceMethod yX11_even, Cond.selects RX11 yX11_even yX11_even, Cond.code yX11_even cX11_even 12 (some .long), Cond.methodLink RX11 140 yX11_told, Cond.static yX11_told]
def wsL_law0_r21 : List Cond := [Cond.code yX11_told cX11_told 7 (some .long), Cond.methodLink RX11 136 yX11_common, Cond.static yX11_common, Cond.code yX11_common cX11_common 10 (some .long), Cond.methodLink RL 79 yX10_draw, Cond.instanceMethod yX10_draw, Cond.selects RX10 yX10_draw yX10_draw, Cond.code yX10_draw cX10_draw 5 (some .int), Cond.methodLink RX10 154 yX2_drawAnew, Cond.instanceMethod yX2_drawAnew, Cond.selects RX2 yX2_drawAnew yX2_drawAnew, Cond.code yX2_drawAnew cX2_drawAnew 15 none, Cond.constantLong RX2 33 (6364136223846793005), Cond.constantLong RX2 35 (1442695040888963407), Cond.methodLink RX2 27 yX8_size, Cond.methodLink RX2 37 yX8_difference, Cond.methodLink RX2 41 yX8_rowsOf, Cond.instanceMethod yX8_rowsOf, Cond.selects RX8 yX8_rowsOf yX8_rowsOf, Cond.code yX8_rowsOf cX8_rowsOf 2 (some .int), Cond.methodLink RX2 44 yX4_become, Cond.methodLink RX2 48 yX2_insertMean, Cond.instanceMethod yX2_insertMean, Cond.selects RX2 yX2_insertMean yX2_insertMean]
def wsL_law0_r22 : List Cond := [Cond.code yX2_insertMean cX2_insertMean 2 none, Cond.methodLink RX2 51 yX4_isBelow, Cond.instanceMethod yX4_isBelow, Cond.selects RX4 yX4_isBelow yX4_isBelow, Cond.code yX4_isBelow cX4_isBelow 5 (some .boolean), Cond.methodLink RX2 55 yX4_told, Cond.methodLink RX10 158 yX8_size, Cond.methodLink RL 83 yX11_draw, Cond.instanceMethod yX11_draw, Cond.selects RX11 yX11_draw yX11_draw, Cond.code yX11_draw cX11_draw 12 (some .int), Cond.constantLong RX11 144 (60), Cond.fieldLink RX11 146 "BoundDrawsModel" "means" "I", Cond.constantLong RX11 149 (6364136223846793005), Cond.constantLong RX11 151 (1442695040888963407), Cond.methodLink RL 84 yL_drawn, Cond.static yL_drawn, Cond.codeWith yL_drawn cL_drawn 5 (some .int) [(0, 9, 12, 19)], Cond.classLink RL 19 "java/lang/IndexOutOfBoundsException", Cond.methodLink RL 15 yX10_drawn, Cond.instanceMethod yX10_drawn, Cond.selects RX10 yX10_drawn yX10_drawn, Cond.code yX10_drawn cX10_drawn 3 (some .long), Cond.classLink RX10 160 "java/lang/IndexOutOfBoundsException"]
def wsL_law0_r23 : List Cond := [Cond.initialized "java/lang/IndexOutOfBoundsException", Cond.methodLink RX10 159 yX2_size, Cond.instanceMethod yX2_size, Cond.selects RX2 yX2_size yX2_size, Cond.code yX2_size cX2_size 1 (some .int), Cond.methodLink RX10 165 yX2_told, Cond.instanceMethod yX2_told, Cond.selects RX2 yX2_told yX2_told, Cond.code yX2_told cX2_told 3 (some .long), Cond.methodLink RL 87 yX11_drawn, Cond.instanceMethod yX11_drawn, Cond.selects RX11 yX11_drawn yX11_drawn, Cond.code yX11_drawn cX11_drawn 3 (some .long), Cond.methodLink RL 88 yX10_percentile, Cond.instanceMethod yX10_percentile, Cond.selects RX10 yX10_percentile yX10_percentile, Cond.code yX10_percentile cX10_percentile 5 (some .long), Cond.constantLong RX10 168 (-3), Cond.methodLink RX10 170 Lib.Math.max.name, Cond.methodLink RL 92 yX11_percentile, Cond.instanceMethod yX11_percentile, Cond.selects RX11 yX11_percentile yX11_percentile, Cond.code yX11_percentile cX11_percentile 5 (some .long), Cond.constantLong RX11 153 (-3)]
def wsL_law0_r24 : List Cond := [Cond.methodLink RL 93 yL_share, Cond.static yL_share, Cond.codeWith yL_share cL_share 3 (some .int) [(0, 8, 11, 25)], Cond.classLink RL 25 "java/lang/ArithmeticException", Cond.methodLink RL 21 yX10_share, Cond.instanceMethod yX10_share, Cond.selects RX10 yX10_share yX10_share, Cond.code yX10_share cX10_share 2 (some .int), Cond.classLink RX10 176 "java/lang/ArithmeticException", Cond.initialized "java/lang/ArithmeticException", Cond.methodLink RX10 181 yX2_aboveZero, Cond.instanceMethod yX2_aboveZero, Cond.selects RX2 yX2_aboveZero yX2_aboveZero, Cond.code yX2_aboveZero cX2_aboveZero 3 (some .int), Cond.methodLink RL 96 yX11_share, Cond.instanceMethod yX11_share, Cond.selects RX11 yX11_share yX11_share, Cond.code yX11_share cX11_share 3 (some .int), Cond.methodLink RL 97 yX10_compare, Cond.instanceMethod yX10_compare, Cond.selects RX10 yX10_compare yX10_compare, Cond.code yX10_compare cX10_compare 3 (some .int), Cond.constant RX10 184 (100000), Cond.methodLink RX10 185 yX0_isFull]
def wsL_law0_r25 : List Cond := [Cond.instanceMethod yX0_isFull, Cond.selects RX0 yX0_isFull yX0_isFull, Cond.code yX0_isFull cX0_isFull 1 (some .boolean), Cond.methodLink RX10 186 yX0_add, Cond.instanceMethod yX0_add, Cond.selects RX0 yX0_add yX0_add, Cond.code yX0_add cX0_add 3 none, Cond.methodLink RX0 20 yX0_isFull, Cond.methodLink RX10 188 yX0_size, Cond.instanceMethod yX0_size, Cond.selects RX0 yX0_size yX0_size, Cond.code yX0_size cX0_size 1 (some .int), Cond.methodLink RL 100 yX11_compare, Cond.instanceMethod yX11_compare, Cond.selects RX11 yX11_compare yX11_compare, Cond.code yX11_compare cX11_compare 3 (some .int), Cond.constantLong RX11 155 (100000), Cond.fieldLink RX11 157 "BoundDrawsModel" "compares" "I", Cond.methodLink RL 101 yX10_raised, Cond.instanceMethod yX10_raised, Cond.selects RX10 yX10_raised yX10_raised, Cond.code yX10_raised cX10_raised 4 (some .long), Cond.methodLink RX10 189 yX0_raise, Cond.instanceMethod yX0_raise]
def wsL_law0_r26 : List Cond := [Cond.selects RX0 yX0_raise yX0_raise, Cond.code yX0_raise cX0_raise 4 none, Cond.methodLink RX0 24 yX4_become, Cond.methodLink RX0 30 yX0_placeOf, Cond.instanceMethod yX0_placeOf, Cond.selects RX0 yX0_placeOf yX0_placeOf, Cond.code yX0_placeOf cX0_placeOf 4 (some .int), Cond.methodLink RX0 48 yX0_standsAhead, Cond.instanceMethod yX0_standsAhead, Cond.selects RX0 yX0_standsAhead yX0_standsAhead, Cond.code yX0_standsAhead cX0_standsAhead 7 (some .boolean), Cond.methodLink RX0 34 yX0_raiseByGreatest, Cond.instanceMethod yX0_raiseByGreatest, Cond.selects RX0 yX0_raiseByGreatest yX0_raiseByGreatest, Cond.code yX0_raiseByGreatest cX0_raiseByGreatest 7 none, Cond.methodLink RX0 41 yX4_isBelow, Cond.methodLink RX0 38 yX0_raiseByLeast, Cond.instanceMethod yX0_raiseByLeast, Cond.selects RX0 yX0_raiseByLeast yX0_raiseByLeast, Cond.code yX0_raiseByLeast cX0_raiseByLeast 9 none, Cond.methodLink RX0 45 yX4_isAbove, Cond.instanceMethod yX4_isAbove, Cond.selects RX4 yX4_isAbove yX4_isAbove, Cond.code yX4_isAbove cX4_isAbove 5 (some .boolean)]
def wsL_law0_r27 : List Cond := [Cond.methodLink RL 104 yX11_raised, Cond.instanceMethod yX11_raised, Cond.selects RX11 yX11_raised yX11_raised, Cond.code yX11_raised cX11_raised 17 (some .long), Cond.methodLink RX11 160 yX11_placeOf, Cond.instanceMethod yX11_placeOf, Cond.selects RX11 yX11_placeOf yX11_placeOf, Cond.code yX11_placeOf cX11_placeOf 8 (some .int), Cond.methodLink RL 105 yX10_forget, Cond.instanceMethod yX10_forget, Cond.selects RX10 yX10_forget yX10_forget, Cond.code yX10_forget cX10_forget 2 (some .int), Cond.methodLink RX10 196 yX0_empty, Cond.instanceMethod yX0_empty, Cond.selects RX0 yX0_empty yX0_empty, Cond.code yX0_empty cX0_empty 1 none, Cond.methodLink RL 108 yX11_forget, Cond.instanceMethod yX11_forget, Cond.selects RX11 yX11_forget yX11_forget, Cond.code yX11_forget cX11_forget 2 (some .int), Cond.methodLink RL 109 yL_begin, Cond.static yL_begin, Cond.codeWith yL_begin cL_begin 7 (some .int) [(0, 14, 17, 13)], Cond.methodLink RL 27 yX10_begin]
def wsL_law0_r28 : List Cond := [Cond.instanceMethod yX10_begin, Cond.selects RX10 yX10_begin yX10_begin, Cond.code yX10_begin cX10_begin 5 (some .int), Cond.methodLink RX10 199 yX6_start, Cond.instanceMethod yX6_start, Cond.selects RX6 yX6_start yX6_start, Cond.code yX6_start cX6_start 5 none, Cond.fieldLink RX6 19 "BoundDraws$Trial" "on" "Z", Cond.fieldLink RX6 23 "BoundDraws$Trial" "up" "I", Cond.fieldLink RX6 27 "BoundDraws$Trial" "down" "I", Cond.fieldLink RX6 30 "BoundDraws$Trial" "a" "I", Cond.fieldLink RX6 33 "BoundDraws$Trial" "b" "I", Cond.fieldLink RX6 36 "BoundDraws$Trial" "tries" "I", Cond.fieldLink RX6 39 "BoundDraws$Trial" "hits" "I", Cond.fieldLink RX6 42 "BoundDraws$Trial" "rejectedBehind" "I", Cond.methodLink RL 112 yX11_begin, Cond.instanceMethod yX11_begin, Cond.selects RX11 yX11_begin yX11_begin, Cond.code yX11_begin cX11_begin 5 (some .int), Cond.fieldLink RX11 164 "BoundDrawsModel" "hasTest" "Z", Cond.fieldLink RX11 168 "BoundDrawsModel" "testUp" "I", Cond.fieldLink RX11 171 "BoundDrawsModel" "testDown" "I", Cond.fieldLink RX11 174 "BoundDrawsModel" "trustUp" "I", Cond.fieldLink RX11 177 "BoundDrawsModel" "trustDown" "I"]
def wsL_law0_r29 : List Cond := [Cond.fieldLink RX11 180 "BoundDrawsModel" "tries" "I", Cond.fieldLink RX11 183 "BoundDrawsModel" "hits" "I", Cond.fieldLink RX11 186 "BoundDrawsModel" "rejected" "I", Cond.methodLink RL 113 yX10_hit, Cond.instanceMethod yX10_hit, Cond.selects RX10 yX10_hit yX10_hit, Cond.code yX10_hit cX10_hit 2 (some .int), Cond.methodLink RX10 203 yX6_isOn, Cond.instanceMethod yX6_isOn, Cond.selects RX6 yX6_isOn yX6_isOn, Cond.code yX6_isOn cX6_isOn 1 (some .boolean), Cond.methodLink RX10 206 yX6_isFull, Cond.instanceMethod yX6_isFull, Cond.selects RX6 yX6_isFull yX6_isFull, Cond.code yX6_isFull cX6_isFull 1 (some .boolean), Cond.methodLink RX10 207 yX6_take, Cond.instanceMethod yX6_take, Cond.selects RX6 yX6_take yX6_take, Cond.code yX6_take cX6_take 2 none, Cond.methodLink RX6 45 yX6_isFull, Cond.methodLink RX6 49 yX6_isRich, Cond.instanceMethod yX6_isRich, Cond.selects RX6 yX6_isRich yX6_isRich, Cond.code yX6_isRich cX6_isRich 1 (some .boolean)]
def wsL_law0_r30 : List Cond := [Cond.methodLink RX6 52 yX9_become, Cond.methodLink RX6 56 yX9_multiplyOften, Cond.methodLink RX6 60 yX3_setsOutOf, Cond.methodLink RX6 66 yX9_multiply, Cond.methodLink RX6 69 yX9_against, Cond.methodLink RX10 210 yX6_rejectedBehind, Cond.instanceMethod yX6_rejectedBehind, Cond.selects RX6 yX6_rejectedBehind yX6_rejectedBehind, Cond.code yX6_rejectedBehind cX6_rejectedBehind 1 (some .int), Cond.methodLink RL 117 yX11_hit, Cond.instanceMethod yX11_hit, Cond.selects RX11 yX11_hit yX11_hit, Cond.code yX11_hit cX11_hit 2 (some .int), Cond.methodLink RX11 189 yX11_isRich, Cond.instanceMethod yX11_isRich, Cond.selects RX11 yX11_isRich yX11_isRich, Cond.code yX11_isRich cX11_isRich 1 (some .boolean), Cond.methodLink RL 118 yX10_test, Cond.instanceMethod yX10_test, Cond.selects RX10 yX10_test yX10_test, Cond.code yX10_test cX10_test 2 (some .int), Cond.methodLink RX10 213 yX6_tries, Cond.instanceMethod yX6_tries, Cond.selects RX6 yX6_tries yX6_tries]
def wsL_law0_r31 : List Cond := [Cond.code yX6_tries cX6_tries 1 (some .int), Cond.methodLink RX10 216 yX6_hits, Cond.instanceMethod yX6_hits, Cond.selects RX6 yX6_hits yX6_hits, Cond.code yX6_hits cX6_hits 1 (some .int), Cond.methodLink RX10 218 yX6_isRich, Cond.methodLink RL 122 yX11_test, Cond.instanceMethod yX11_test, Cond.selects RX11 yX11_test yX11_test, Cond.code yX11_test cX11_test 2 (some .int), Cond.methodLink RL 123 yX10_count, Cond.instanceMethod yX10_count, Cond.selects RX10 yX10_count yX10_count, Cond.code yX10_count cX10_count 2 (some .int), Cond.methodLink RX10 221 yX5_groupsWithRows, Cond.instanceMethod yX5_groupsWithRows, Cond.selects RX5 yX5_groupsWithRows yX5_groupsWithRows, Cond.code yX5_groupsWithRows cX5_groupsWithRows 3 (some .int), Cond.methodLink RX5 27 yX5_sizeOfGroup, Cond.methodLink RL 126 yX11_count_, Cond.instanceMethod yX11_count_, Cond.selects RX11 yX11_count_ yX11_count_, Cond.code yX11_count_ cX11_count_ 2 (some .int), Cond.methodLink RL 127 yX10_clear]
def wsL_law0_r32 : List Cond := [Cond.instanceMethod yX10_clear, Cond.selects RX10 yX10_clear yX10_clear, Cond.code yX10_clear cX10_clear 2 (some .int), Cond.methodLink RX10 224 yX5_empty, Cond.instanceMethod yX5_empty, Cond.selects RX5 yX5_empty yX5_empty, Cond.code yX5_empty cX5_empty 1 none, Cond.methodLink RX10 225 yX2_empty, Cond.instanceMethod yX2_empty, Cond.selects RX2 yX2_empty yX2_empty, Cond.code yX2_empty cX2_empty 1 none, Cond.methodLink RX10 226 yX6_stop, Cond.instanceMethod yX6_stop, Cond.selects RX6 yX6_stop yX6_stop, Cond.code yX6_stop cX6_stop 1 none, Cond.methodLink RL 130 yX11_clear, Cond.instanceMethod yX11_clear, Cond.selects RX11 yX11_clear yX11_clear, Cond.code yX11_clear cX11_clear 2 (some .int)]
def wsL_law0 : List Cond := (wsL_law0_r1 ++ (wsL_law0_r2 ++ (wsL_law0_r3 ++ (wsL_law0_r4 ++ (wsL_law0_r5 ++ (wsL_law0_r6 ++ (wsL_law0_r7 ++ (wsL_law0_r8 ++ (wsL_law0_r9 ++ (wsL_law0_r10 ++ (wsL_law0_r11 ++ (wsL_law0_r12 ++ (wsL_law0_r13 ++ (wsL_law0_r14 ++ (wsL_law0_r15 ++ (wsL_law0_r16 ++ (wsL_law0_r17 ++ (wsL_law0_r18 ++ (wsL_law0_r19 ++ (wsL_law0_r20 ++ (wsL_law0_r21 ++ (wsL_law0_r22 ++ (wsL_law0_r23 ++ (wsL_law0_r24 ++ (wsL_law0_r25 ++ (wsL_law0_r26 ++ (wsL_law0_r27 ++ (wsL_law0_r28 ++ (wsL_law0_r29 ++ (wsL_law0_r30 ++ (wsL_law0_r31 ++ wsL_law0_r32))))))))))))))))))))))))))))))) ++ wsX100 ++ wsX110 ++ wsX10 ++ wsX50 ++ wsX80 ++ wsX70 ++ wsX20 ++ wsX00 ++ wsX60 ++ wsX40 ++ wsX90 ++ ([] : List Cond)
def wsL_law : List Cond := wsL_law0 ++ (vx_atS RX10 97 "java/lang/IllegalArgumentException" ["java/lang/RuntimeException", "java/lang/Exception"]).filter goodWord ++ (vx_atS RX10 164 "java/lang/IndexOutOfBoundsException" ["java/lang/RuntimeException", "java/lang/Exception"]).filter goodWord ++ (vx_atS RX10 180 "java/lang/ArithmeticException" ["java/lang/RuntimeException", "java/lang/Exception"]).filter goodWord
theorem mem_ix {big ws : List Cond} (ps : List Nat) (hp : ws = ps.filterMap (fun i => big[i]?)) : ∀ w ∈ ws, w ∈ big := by
  intro w hw
  rw [hp] at hw
  obtain ⟨i, -, hi⟩ := List.mem_filterMap.mp hw
  exact List.mem_of_getElem? hi
set_option maxRecDepth 20000 in
theorem wsL_rin1 : ∀ w ∈ wsL_law0_r1, w ∈ lw_tbl := mem_ix [44, 45, 25, 790, 791, 35, 71, 1035, 46, 47, 48, 49, 50, 51, 52, 53, 26, 226, 82, 83, 28, 227, 102, 103] (by decide +kernel)
set_option maxRecDepth 20000 in
theorem wsL_rin2 : ∀ w ∈ wsL_law0_r2, w ∈ lw_tbl := mem_ix [29, 228, 118, 119, 30, 229, 137, 138, 31, 230, 169, 170, 33, 231, 185, 186, 34, 232, 224, 144, 32, 233, 54, 55] (by decide +kernel)
set_option maxRecDepth 20000 in
theorem wsL_rin3 : ∀ w ∈ wsL_law0_r3, w ∈ lw_tbl := mem_ix [56, 57, 58, 59, 27, 72, 73, 74, 60, 61, 62, 63, 64, 65, 84, 85, 86, 87, 101, 88, 89, 90, 91, 104] (by decide +kernel)
set_option maxRecDepth 20000 in
theorem wsL_rin4 : ∀ w ∈ wsL_law0_r4, w ∈ lw_tbl := mem_ix [105, 106, 107, 108, 109, 110, 120, 121, 122, 123, 124, 125, 126, 127, 139, 140, 141, 142, 156, 157, 143, 158, 159, 145] (by decide +kernel)
set_option maxRecDepth 20000 in
theorem wsL_rin5 : ∀ w ∈ wsL_law0_r5, w ∈ lw_tbl := mem_ix [146, 147, 148, 149, 150, 171, 172, 173, 174, 175, 176, 177, 187, 188, 189, 190, 191, 193, 194, 192, 225, 792, 793, 794] (by decide +kernel)
set_option maxRecDepth 20000 in
theorem wsL_rin6 : ∀ w ∈ wsL_law0_r6, w ∈ lw_tbl := mem_ix [795, 797, 798, 800, 801, 802, 804, 805, 806, 807, 809, 810, 812, 813, 251, 252, 253, 254, 264, 255, 256, 257, 258, 259] (by decide +kernel)
set_option maxRecDepth 20000 in
theorem wsL_rin7 : ∀ w ∈ wsL_law0_r7, w ∈ lw_tbl := mem_ix [36, 260, 261, 262, 263, 265, 266, 267, 268, 269, 271, 0, 272, 273, 275, 1, 276, 277, 278, 279, 280, 281, 282, 283] (by decide +kernel)
set_option maxRecDepth 20000 in
theorem wsL_rin8 : ∀ w ∈ wsL_law0_r8, w ∈ lw_tbl := mem_ix [284, 285, 286, 287, 288, 289, 290, 291, 37, 292, 293, 294, 295, 296, 297, 298, 299, 300, 301, 302, 303, 304, 879, 880] (by decide +kernel)
set_option maxRecDepth 20000 in
theorem wsL_rin9 : ∀ w ∈ wsL_law0_r9, w ∈ lw_tbl := mem_ix [881, 882, 796, 891, 892, 883, 884, 885, 886, 890, 887, 888, 889, 893, 895, 18, 896, 897, 898, 899, 900, 901, 902, 903] (by decide +kernel)
set_option maxRecDepth 20000 in
theorem wsL_rin10 : ∀ w ∈ wsL_law0_r10, w ∈ lw_tbl := mem_ix [904, 905, 906, 907, 908, 909, 910, 911, 912, 913, 305, 306, 307, 308, 309, 310, 311, 312, 313, 314, 315, 316, 914, 915] (by decide +kernel)
set_option maxRecDepth 20000 in
theorem wsL_rin11 : ∀ w ∈ wsL_law0_r11, w ∈ lw_tbl := mem_ix [916, 917, 918, 920, 19, 921, 922, 923, 924, 925, 926, 927, 638, 639, 24, 640, 641, 642, 643, 644, 645, 649, 41, 646] (by decide +kernel)
set_option maxRecDepth 20000 in
theorem wsL_rin12 : ∀ w ∈ wsL_law0_r12, w ∈ lw_tbl := mem_ix [647, 648, 717, 718, 719, 720, 721, 722, 723, 724, 725, 726, 928, 929, 930, 931, 932, 933, 934, 935, 875, 876, 877, 878] (by decide +kernel)
set_option maxRecDepth 20000 in
theorem wsL_rin13 : ∀ w ∈ wsL_law0_r13, w ∈ lw_tbl := mem_ix [317, 318, 319, 320, 321, 322, 323, 324, 325, 326, 327, 328, 329, 330, 331, 332, 333, 936, 937, 938, 939, 940, 941, 799] (by decide +kernel)
set_option maxRecDepth 20000 in
theorem wsL_rin14 : ∀ w ∈ wsL_law0_r14, w ∈ lw_tbl := mem_ix [334, 335, 336, 337, 338, 339, 340, 341, 942, 943, 944, 945, 342, 343, 344, 345, 346, 347, 348, 349, 350, 352, 2, 353] (by decide +kernel)
set_option maxRecDepth 20000 in
theorem wsL_rin15 : ∀ w ∈ wsL_law0_r15, w ∈ lw_tbl := mem_ix [354, 355, 356, 357, 358, 359, 360, 361, 362, 364, 3, 365, 366, 368, 4, 369, 370, 371, 372, 373, 374, 375, 376, 377] (by decide +kernel)
set_option maxRecDepth 20000 in
theorem wsL_rin16 : ∀ w ∈ wsL_law0_r16, w ∈ lw_tbl := mem_ix [378, 397, 398, 399, 396, 379, 381, 5, 382, 391, 383, 384, 385, 386, 387, 388, 389, 390, 392, 394, 6, 395, 400, 402] (by decide +kernel)
set_option maxRecDepth 20000 in
theorem wsL_rin17 : ∀ w ∈ wsL_law0_r17, w ∈ lw_tbl := mem_ix [7, 403, 404, 405, 406, 407, 408, 409, 410, 411, 412, 414, 8, 415, 416, 418, 9, 419, 420, 421, 422, 423, 424, 946] (by decide +kernel)
set_option maxRecDepth 20000 in
theorem wsL_rin18 : ∀ w ∈ wsL_law0_r18, w ∈ lw_tbl := mem_ix [947, 948, 949, 803, 954, 950, 952, 20, 953, 425, 426, 427, 428, 429, 430, 431, 432, 433, 435, 10, 436, 437, 438, 439] (by decide +kernel)
set_option maxRecDepth 20000 in
theorem wsL_rin19 : ∀ w ∈ wsL_law0_r19, w ∈ lw_tbl := mem_ix [440, 955, 956, 957, 958, 959, 960, 962, 21, 963, 441, 442, 443, 444, 445, 447, 11, 448, 449, 453, 450, 451, 452, 454] (by decide +kernel)
set_option maxRecDepth 20000 in
theorem wsL_rin20 : ∀ w ∈ wsL_law0_r20, w ∈ lw_tbl := mem_ix [455, 456, 457, 458, 459, 460, 461, 462, 463, 464, 465, 466, 467, 468, 469, 470, 471, 472, 964, 965, 966, 967, 968, 969] (by decide +kernel)
set_option maxRecDepth 20000 in
theorem wsL_rin21 : ∀ w ∈ wsL_law0_r21, w ∈ lw_tbl := mem_ix [970, 971, 972, 973, 473, 474, 475, 476, 477, 478, 479, 480, 482, 483, 481, 484, 485, 486, 487, 488, 489, 490, 492, 12] (by decide +kernel)
set_option maxRecDepth 20000 in
theorem wsL_rin22 : ∀ w ∈ wsL_law0_r22, w ∈ lw_tbl := mem_ix [493, 494, 495, 496, 497, 498, 499, 974, 975, 976, 977, 978, 808, 979, 980, 727, 728, 729, 730, 731, 732, 733, 734, 735] (by decide +kernel)
set_option maxRecDepth 20000 in
theorem wsL_rin23 : ∀ w ∈ wsL_law0_r23, w ∈ lw_tbl := mem_ix [42, 504, 505, 506, 507, 510, 511, 512, 513, 981, 982, 983, 984, 500, 501, 502, 503, 508, 509, 985, 986, 987, 988, 989] (by decide +kernel)
set_option maxRecDepth 20000 in
theorem wsL_rin24 : ∀ w ∈ wsL_law0_r24, w ∈ lw_tbl := mem_ix [751, 752, 753, 754, 755, 756, 757, 758, 759, 43, 775, 776, 777, 778, 990, 991, 992, 993, 514, 515, 516, 517, 518, 519] (by decide +kernel)
set_option maxRecDepth 20000 in
theorem wsL_rin25 : ∀ w ∈ wsL_law0_r25, w ∈ lw_tbl := mem_ix [520, 521, 522, 523, 524, 525, 526, 527, 528, 529, 530, 531, 994, 995, 996, 997, 998, 811, 532, 533, 534, 535, 536, 537] (by decide +kernel)
set_option maxRecDepth 20000 in
theorem wsL_rin26 : ∀ w ∈ wsL_law0_r26, w ∈ lw_tbl := mem_ix [538, 539, 540, 541, 543, 13, 544, 545, 547, 14, 548, 549, 551, 15, 552, 553, 554, 556, 16, 557, 558, 559, 560, 561] (by decide +kernel)
set_option maxRecDepth 20000 in
theorem wsL_rin27 : ∀ w ∈ wsL_law0_r27, w ∈ lw_tbl := mem_ix [999, 1000, 1001, 1002, 1003, 1005, 22, 1006, 562, 563, 564, 565, 566, 567, 568, 569, 1007, 1008, 1009, 1010, 779, 780, 781, 782] (by decide +kernel)
set_option maxRecDepth 20000 in
theorem wsL_rin28 : ∀ w ∈ wsL_law0_r28, w ∈ lw_tbl := mem_ix [783, 784, 785, 786, 787, 788, 789, 195, 196, 197, 198, 199, 200, 201, 202, 1011, 1012, 1013, 1014, 814, 815, 816, 817, 818] (by decide +kernel)
set_option maxRecDepth 20000 in
theorem wsL_rin29 : ∀ w ∈ wsL_law0_r29, w ∈ lw_tbl := mem_ix [819, 820, 821, 570, 571, 572, 573, 574, 575, 576, 577, 578, 579, 580, 581, 582, 583, 584, 585, 586, 587, 588, 589, 590] (by decide +kernel)
set_option maxRecDepth 20000 in
theorem wsL_rin30 : ∀ w ∈ wsL_law0_r30, w ∈ lw_tbl := mem_ix [591, 592, 593, 594, 595, 596, 597, 598, 599, 1015, 1016, 1017, 1018, 1019, 1021, 23, 1022, 600, 601, 602, 603, 604, 605, 606] (by decide +kernel)
set_option maxRecDepth 20000 in
theorem wsL_rin31 : ∀ w ∈ wsL_law0_r31, w ∈ lw_tbl := mem_ix [607, 608, 609, 610, 611, 612, 1023, 1024, 1025, 1026, 613, 614, 615, 616, 617, 618, 619, 620, 621, 1027, 1028, 1029, 1030, 622] (by decide +kernel)
set_option maxRecDepth 20000 in
theorem wsL_rin32 : ∀ w ∈ wsL_law0_r32, w ∈ lw_tbl := mem_ix [623, 624, 625, 626, 627, 628, 629, 630, 631, 632, 633, 634, 635, 636, 637, 1031, 1032, 1033, 1034] (by decide +kernel)
set_option maxRecDepth 20000 in
theorem wsL_uin_wsX100 : ∀ w ∈ wsX100, w ∈ lw_tbl := by decide +kernel
set_option maxRecDepth 20000 in
theorem wsL_uin_wsX110 : ∀ w ∈ wsX110, w ∈ lw_tbl := by decide +kernel
set_option maxRecDepth 20000 in
theorem wsL_uin_wsX10 : ∀ w ∈ wsX10, w ∈ lw_tbl := by decide +kernel
set_option maxRecDepth 20000 in
theorem wsL_uin_wsX50 : ∀ w ∈ wsX50, w ∈ lw_tbl := by decide +kernel
set_option maxRecDepth 20000 in
theorem wsL_uin_wsX80 : ∀ w ∈ wsX80, w ∈ lw_tbl := by decide +kernel
set_option maxRecDepth 20000 in
theorem wsL_uin_wsX70 : ∀ w ∈ wsX70, w ∈ lw_tbl := by decide +kernel
set_option maxRecDepth 20000 in
theorem wsL_uin_wsX20 : ∀ w ∈ wsX20, w ∈ lw_tbl := by decide +kernel
set_option maxRecDepth 20000 in
theorem wsL_uin_wsX00 : ∀ w ∈ wsX00, w ∈ lw_tbl := by decide +kernel
set_option maxRecDepth 20000 in
theorem wsL_uin_wsX60 : ∀ w ∈ wsX60, w ∈ lw_tbl := by decide +kernel
set_option maxRecDepth 20000 in
theorem wsL_uin_wsX40 : ∀ w ∈ wsX40, w ∈ lw_tbl := by decide +kernel
set_option maxRecDepth 20000 in
theorem wsL_uin_wsX90 : ∀ w ∈ wsX90, w ∈ lw_tbl := by decide +kernel
set_option maxRecDepth 20000 in
theorem wsL_law_in0 : ∀ w ∈ wsL_law0, w ∈ lw_tbl := (fun w h => (List.mem_append.mp h).elim ((fun w h => (List.mem_append.mp h).elim ((fun w h => (List.mem_append.mp h).elim ((fun w h => (List.mem_append.mp h).elim ((fun w h => (List.mem_append.mp h).elim ((fun w h => (List.mem_append.mp h).elim ((fun w h => (List.mem_append.mp h).elim ((fun w h => (List.mem_append.mp h).elim ((fun w h => (List.mem_append.mp h).elim ((fun w h => (List.mem_append.mp h).elim ((fun w h => (List.mem_append.mp h).elim ((fun w h => (List.mem_append.mp h).elim ((fun w h => (List.mem_append.mp h).elim (wsL_rin1 w) ((fun w h => (List.mem_append.mp h).elim (wsL_rin2 w) ((fun w h => (List.mem_append.mp h).elim (wsL_rin3 w) ((fun w h => (List.mem_append.mp h).elim (wsL_rin4 w) ((fun w h => (List.mem_append.mp h).elim (wsL_rin5 w) ((fun w h => (List.mem_append.mp h).elim (wsL_rin6 w) ((fun w h => (List.mem_append.mp h).elim (wsL_rin7 w) ((fun w h => (List.mem_append.mp h).elim (wsL_rin8 w) ((fun w h => (List.mem_append.mp h).elim (wsL_rin9 w) ((fun w h => (List.mem_append.mp h).elim (wsL_rin10 w) ((fun w h => (List.mem_append.mp h).elim (wsL_rin11 w) ((fun w h => (List.mem_append.mp h).elim (wsL_rin12 w) ((fun w h => (List.mem_append.mp h).elim (wsL_rin13 w) ((fun w h => (List.mem_append.mp h).elim (wsL_rin14 w) ((fun w h => (List.mem_append.mp h).elim (wsL_rin15 w) ((fun w h => (List.mem_append.mp h).elim (wsL_rin16 w) ((fun w h => (List.mem_append.mp h).elim (wsL_rin17 w) ((fun w h => (List.mem_append.mp h).elim (wsL_rin18 w) ((fun w h => (List.mem_append.mp h).elim (wsL_rin19 w) ((fun w h => (List.mem_append.mp h).elim (wsL_rin20 w) ((fun w h => (List.mem_append.mp h).elim (wsL_rin21 w) ((fun w h => (List.mem_append.mp h).elim (wsL_rin22 w) ((fun w h => (List.mem_append.mp h).elim (wsL_rin23 w) ((fun w h => (List.mem_append.mp h).elim (wsL_rin24 w) ((fun w h => (List.mem_append.mp h).elim (wsL_rin25 w) ((fun w h => (List.mem_append.mp h).elim (wsL_rin26 w) ((fun w h => (List.mem_append.mp h).elim (wsL_rin27 w) ((fun w h => (List.mem_append.mp h).elim (wsL_rin28 w) ((fun w h => (List.mem_append.mp h).elim (wsL_rin29 w) ((fun w h => (List.mem_append.mp h).elim (wsL_rin30 w) ((fun w h => (List.mem_append.mp h).elim (wsL_rin31 w) (wsL_rin32 w)) w)) w)) w)) w)) w)) w)) w)) w)) w)) w)) w)) w)) w)) w)) w)) w)) w)) w)) w)) w)) w)) w)) w)) w)) w)) w)) w)) w)) w)) w)) w) (wsL_uin_wsX100 w)) w) (wsL_uin_wsX110 w)) w) (wsL_uin_wsX10 w)) w) (wsL_uin_wsX50 w)) w) (wsL_uin_wsX80 w)) w) (wsL_uin_wsX70 w)) w) (wsL_uin_wsX20 w)) w) (wsL_uin_wsX00 w)) w) (wsL_uin_wsX60 w)) w) (wsL_uin_wsX40 w)) w) (wsL_uin_wsX90 w)) w) ((fun w h => absurd h List.not_mem_nil) w))
theorem wsL_law_x0 : ∀ w ∈ (vx_atS RX10 97 "java/lang/IllegalArgumentException" ["java/lang/RuntimeException", "java/lang/Exception"]).filter goodWord, w ∈ lw_tbl := by decide +kernel
theorem wsL_law_x1 : ∀ w ∈ (vx_atS RX10 164 "java/lang/IndexOutOfBoundsException" ["java/lang/RuntimeException", "java/lang/Exception"]).filter goodWord, w ∈ lw_tbl := by decide +kernel
theorem wsL_law_x2 : ∀ w ∈ (vx_atS RX10 180 "java/lang/ArithmeticException" ["java/lang/RuntimeException", "java/lang/Exception"]).filter goodWord, w ∈ lw_tbl := by decide +kernel
theorem wsL_law_in : ∀ w ∈ wsL_law, w ∈ lw_tbl := fun w h => (List.mem_append.mp h).elim (fun h => (List.mem_append.mp h).elim (fun h => (List.mem_append.mp h).elim (fun h => wsL_law_in0 w h) (fun h => wsL_law_x0 w h)) (fun h => wsL_law_x1 w h)) (fun h => wsL_law_x2 w h)
theorem inlX0 : ∀ w ∈ wsX00, w ∈ wsL_law := fun _ h => List.mem_append_left _ (List.mem_append_left _ (List.mem_append_left _ (List.mem_append_left _ (List.mem_append_left _ (List.mem_append_left _ (List.mem_append_left _ (List.mem_append_right _ h)))))))
theorem inX0 : ∀ w ∈ wsX00, w ∈ lw_tbl := fun w h => wsL_law_in w (inlX0 w h)
theorem inlX1 : ∀ w ∈ wsX10, w ∈ wsL_law := fun _ h => List.mem_append_left _ (List.mem_append_left _ (List.mem_append_left _ (List.mem_append_left _ (List.mem_append_left _ (List.mem_append_left _ (List.mem_append_left _ (List.mem_append_left _ (List.mem_append_left _ (List.mem_append_left _ (List.mem_append_left _ (List.mem_append_left _ (List.mem_append_right _ h))))))))))))
theorem inX1 : ∀ w ∈ wsX10, w ∈ lw_tbl := fun w h => wsL_law_in w (inlX1 w h)
theorem inlX2 : ∀ w ∈ wsX20, w ∈ wsL_law := fun _ h => List.mem_append_left _ (List.mem_append_left _ (List.mem_append_left _ (List.mem_append_left _ (List.mem_append_left _ (List.mem_append_left _ (List.mem_append_left _ (List.mem_append_left _ (List.mem_append_right _ h))))))))
theorem inX2 : ∀ w ∈ wsX20, w ∈ lw_tbl := fun w h => wsL_law_in w (inlX2 w h)
theorem inX3 : ∀ w ∈ wsX30, w ∈ lw_tbl := by decide +kernel
theorem inlX4 : ∀ w ∈ wsX40, w ∈ wsL_law := fun _ h => List.mem_append_left _ (List.mem_append_left _ (List.mem_append_left _ (List.mem_append_left _ (List.mem_append_left _ (List.mem_append_right _ h)))))
theorem inX4 : ∀ w ∈ wsX40, w ∈ lw_tbl := fun w h => wsL_law_in w (inlX4 w h)
theorem inlX5 : ∀ w ∈ wsX50, w ∈ wsL_law := fun _ h => List.mem_append_left _ (List.mem_append_left _ (List.mem_append_left _ (List.mem_append_left _ (List.mem_append_left _ (List.mem_append_left _ (List.mem_append_left _ (List.mem_append_left _ (List.mem_append_left _ (List.mem_append_left _ (List.mem_append_left _ (List.mem_append_right _ h)))))))))))
theorem inX5 : ∀ w ∈ wsX50, w ∈ lw_tbl := fun w h => wsL_law_in w (inlX5 w h)
theorem inlX6 : ∀ w ∈ wsX60, w ∈ wsL_law := fun _ h => List.mem_append_left _ (List.mem_append_left _ (List.mem_append_left _ (List.mem_append_left _ (List.mem_append_left _ (List.mem_append_left _ (List.mem_append_right _ h))))))
theorem inX6 : ∀ w ∈ wsX60, w ∈ lw_tbl := fun w h => wsL_law_in w (inlX6 w h)
theorem inlX7 : ∀ w ∈ wsX70, w ∈ wsL_law := fun _ h => List.mem_append_left _ (List.mem_append_left _ (List.mem_append_left _ (List.mem_append_left _ (List.mem_append_left _ (List.mem_append_left _ (List.mem_append_left _ (List.mem_append_left _ (List.mem_append_left _ (List.mem_append_right _ h)))))))))
theorem inX7 : ∀ w ∈ wsX70, w ∈ lw_tbl := fun w h => wsL_law_in w (inlX7 w h)
theorem inlX8 : ∀ w ∈ wsX80, w ∈ wsL_law := fun _ h => List.mem_append_left _ (List.mem_append_left _ (List.mem_append_left _ (List.mem_append_left _ (List.mem_append_left _ (List.mem_append_left _ (List.mem_append_left _ (List.mem_append_left _ (List.mem_append_left _ (List.mem_append_left _ (List.mem_append_right _ h))))))))))
theorem inX8 : ∀ w ∈ wsX80, w ∈ lw_tbl := fun w h => wsL_law_in w (inlX8 w h)
theorem inlX9 : ∀ w ∈ wsX90, w ∈ wsL_law := fun _ h => List.mem_append_left _ (List.mem_append_left _ (List.mem_append_left _ (List.mem_append_left _ (List.mem_append_right _ h))))
theorem inX9 : ∀ w ∈ wsX90, w ∈ lw_tbl := fun w h => wsL_law_in w (inlX9 w h)
theorem inlX10 : ∀ w ∈ wsX100, w ∈ wsL_law := fun _ h => List.mem_append_left _ (List.mem_append_left _ (List.mem_append_left _ (List.mem_append_left _ (List.mem_append_left _ (List.mem_append_left _ (List.mem_append_left _ (List.mem_append_left _ (List.mem_append_left _ (List.mem_append_left _ (List.mem_append_left _ (List.mem_append_left _ (List.mem_append_left _ (List.mem_append_left _ (List.mem_append_right _ h))))))))))))))
theorem inX10 : ∀ w ∈ wsX100, w ∈ lw_tbl := fun w h => wsL_law_in w (inlX10 w h)
theorem inlX11 : ∀ w ∈ wsX110, w ∈ wsL_law := fun _ h => List.mem_append_left _ (List.mem_append_left _ (List.mem_append_left _ (List.mem_append_left _ (List.mem_append_left _ (List.mem_append_left _ (List.mem_append_left _ (List.mem_append_left _ (List.mem_append_left _ (List.mem_append_left _ (List.mem_append_left _ (List.mem_append_left _ (List.mem_append_left _ (List.mem_append_right _ h)))))))))))))
theorem inX11 : ∀ w ∈ wsX110, w ∈ lw_tbl := fun w h => wsL_law_in w (inlX11 w h)
theorem inJ9 : ∀ w ∈ wsJ90, w ∈ lw_tbl := by decide +kernel
theorem inJ0 : ∀ w ∈ wsJ00, w ∈ lw_tbl := by decide +kernel
theorem dX0_init_0 : decode cX0_init 0 = .ok (.aload_n 0, 1) := by decide +kernel
theorem dX0_init_1 : decode cX0_init 1 = .ok (.invokespecial 1, 3) := by decide +kernel
theorem dX0_init_4 : decode cX0_init 4 = .ok (.aload_n 0, 1) := by decide +kernel
theorem dX0_init_5 : decode cX0_init 5 = .ok (.bipush 10, 2) := by decide +kernel
theorem dX0_init_7 : decode cX0_init 7 = .ok (.newarray .int, 2) := by decide +kernel
theorem dX0_init_9 : decode cX0_init 9 = .ok (.putfield 9, 3) := by decide +kernel
theorem dX0_init_12 : decode cX0_init 12 = .ok (.aload_n 0, 1) := by decide +kernel
theorem dX0_init_13 : decode cX0_init 13 = .ok (.bipush 10, 2) := by decide +kernel
theorem dX0_init_15 : decode cX0_init 15 = .ok (.newarray .int, 2) := by decide +kernel
theorem dX0_init_17 : decode cX0_init 17 = .ok (.putfield 13, 3) := by decide +kernel
theorem dX0_init_20 : decode cX0_init 20 = .ok (.aload_n 0, 1) := by decide +kernel
theorem dX0_init_21 : decode cX0_init 21 = .ok (.iconst 0, 1) := by decide +kernel
theorem dX0_init_22 : decode cX0_init 22 = .ok (.putfield 16, 3) := by decide +kernel
theorem dX0_init_25 : decode cX0_init 25 = .ok (.return_, 1) := by decide +kernel
theorem dX0_size_0 : decode cX0_size 0 = .ok (.aload_n 0, 1) := by decide +kernel
theorem dX0_size_1 : decode cX0_size 1 = .ok (.getfield 16, 3) := by decide +kernel
theorem dX0_size_4 : decode cX0_size 4 = .ok (.ireturn, 1) := by decide +kernel
theorem dX0_isFull_0 : decode cX0_isFull 0 = .ok (.aload_n 0, 1) := by decide +kernel
theorem dX0_isFull_1 : decode cX0_isFull 1 = .ok (.getfield 16, 3) := by decide +kernel
theorem dX0_isFull_4 : decode cX0_isFull 4 = .ok (.bipush 10, 2) := by decide +kernel
theorem dX0_isFull_6 : decode cX0_isFull 6 = .ok (.if_icmp .lt 7, 3) := by decide +kernel
theorem dX0_isFull_9 : decode cX0_isFull 9 = .ok (.iconst 1, 1) := by decide +kernel
theorem dX0_isFull_10 : decode cX0_isFull 10 = .ok (.goto 4, 3) := by decide +kernel
theorem dX0_isFull_13 : decode cX0_isFull 13 = .ok (.iconst 0, 1) := by decide +kernel
theorem dX0_isFull_14 : decode cX0_isFull 14 = .ok (.ireturn, 1) := by decide +kernel
set_option maxRecDepth 20000 in
theorem ggX0_add_X0_isFull : GoodIn wsX0_add wsX0_isFull := goodIn_r _ [8, 2, 9, 10, 11] (by decide +kernel) (by decide +kernel)
set_option maxRecDepth 20000 in
theorem gX0_add_X0_isFull : GoodIn wsX0_add (wsV RX0 20 RX0 yX0_isFull wsX0_isFull) := goodIn_app (goodIn_of _ (by decide +kernel)) ggX0_add_X0_isFull
theorem dX0_add_0 : decode cX0_add 0 = .ok (.aload_n 0, 1) := by decide +kernel
theorem dX0_add_1 : decode cX0_add 1 = .ok (.invokevirtual 20, 3) := by decide +kernel
theorem dX0_add_4 : decode cX0_add 4 = .ok (.ifCond .eq 4, 3) := by decide +kernel
theorem dX0_add_7 : decode cX0_add 7 = .ok (.return_, 1) := by decide +kernel
theorem dX0_add_8 : decode cX0_add 8 = .ok (.aload_n 0, 1) := by decide +kernel
theorem dX0_add_9 : decode cX0_add 9 = .ok (.getfield 9, 3) := by decide +kernel
theorem dX0_add_12 : decode cX0_add 12 = .ok (.aload_n 0, 1) := by decide +kernel
theorem dX0_add_13 : decode cX0_add 13 = .ok (.getfield 16, 3) := by decide +kernel
theorem dX0_add_16 : decode cX0_add 16 = .ok (.iload_n 1, 1) := by decide +kernel
theorem dX0_add_17 : decode cX0_add 17 = .ok (.iastore, 1) := by decide +kernel
theorem dX0_add_18 : decode cX0_add 18 = .ok (.aload_n 0, 1) := by decide +kernel
theorem dX0_add_19 : decode cX0_add 19 = .ok (.getfield 13, 3) := by decide +kernel
theorem dX0_add_22 : decode cX0_add 22 = .ok (.aload_n 0, 1) := by decide +kernel
theorem dX0_add_23 : decode cX0_add 23 = .ok (.getfield 16, 3) := by decide +kernel
theorem dX0_add_26 : decode cX0_add 26 = .ok (.iload_n 2, 1) := by decide +kernel
theorem dX0_add_27 : decode cX0_add 27 = .ok (.iastore, 1) := by decide +kernel
theorem dX0_add_28 : decode cX0_add 28 = .ok (.aload_n 0, 1) := by decide +kernel
theorem dX0_add_29 : decode cX0_add 29 = .ok (.dup, 1) := by decide +kernel
theorem dX0_add_30 : decode cX0_add 30 = .ok (.getfield 16, 3) := by decide +kernel
theorem dX0_add_33 : decode cX0_add 33 = .ok (.iconst 1, 1) := by decide +kernel
theorem dX0_add_34 : decode cX0_add 34 = .ok (.iadd, 1) := by decide +kernel
theorem dX0_add_35 : decode cX0_add 35 = .ok (.putfield 16, 3) := by decide +kernel
theorem dX0_add_38 : decode cX0_add 38 = .ok (.return_, 1) := by decide +kernel
theorem dX0_empty_0 : decode cX0_empty 0 = .ok (.aload_n 0, 1) := by decide +kernel
theorem dX0_empty_1 : decode cX0_empty 1 = .ok (.iconst 0, 1) := by decide +kernel
theorem dX0_empty_2 : decode cX0_empty 2 = .ok (.putfield 16, 3) := by decide +kernel
theorem dX0_empty_5 : decode cX0_empty 5 = .ok (.return_, 1) := by decide +kernel
set_option maxRecDepth 20000 in
theorem ggX0_raise_X4_become : GoodIn wsX0_raise wsX4_become := goodIn_r _ [8, 9, 10, 11, 12, 13, 14, 15, 16, 17, 18, 47, 48] (by decide +kernel) (by decide +kernel)
set_option maxRecDepth 20000 in
theorem gX0_raise_X4_become : GoodIn wsX0_raise (wsV RX0 24 RX4 yX4_become wsX4_become) := goodIn_app (goodIn_of _ (by decide +kernel)) ggX0_raise_X4_become
set_option maxRecDepth 20000 in
theorem ggX0_raise_X0_placeOf : GoodIn wsX0_raise wsX0_placeOf := goodIn_r _ [23, 1, 24, 25, 26, 22, 27, 2, 3, 44, 45, 46] (by decide +kernel) (by decide +kernel)
set_option maxRecDepth 20000 in
theorem gX0_raise_X0_placeOf : GoodIn wsX0_raise (wsV RX0 30 RX0 yX0_placeOf wsX0_placeOf) := goodIn_app (goodIn_of _ (by decide +kernel)) ggX0_raise_X0_placeOf
set_option maxRecDepth 20000 in
theorem ggX0_raise_X0_raiseByGreatest : GoodIn wsX0_raise wsX0_raiseByGreatest := goodIn_r _ [31, 1, 2, 3, 4, 5, 6, 7, 8, 9, 10, 11, 12, 13, 14, 15, 16, 17, 18, 19, 20, 21, 22, 23, 24, 25, 26, 27, 32, 33, 34, 35, 44, 45, 46, 47, 48] (by decide +kernel) (by decide +kernel)
set_option maxRecDepth 20000 in
theorem gX0_raise_X0_raiseByGreatest : GoodIn wsX0_raise (wsV RX0 34 RX0 yX0_raiseByGreatest wsX0_raiseByGreatest) := goodIn_app (goodIn_of _ (by decide +kernel)) ggX0_raise_X0_raiseByGreatest
set_option maxRecDepth 20000 in
theorem ggX0_raise_X0_raiseByLeast : GoodIn wsX0_raise wsX0_raiseByLeast := goodIn_r _ [39, 1, 2, 3, 4, 5, 6, 7, 8, 9, 10, 11, 12, 13, 14, 15, 16, 17, 18, 19, 20, 21, 22, 23, 24, 25, 26, 27, 40, 41, 42, 43, 44, 45, 46, 47, 48] (by decide +kernel) (by decide +kernel)
set_option maxRecDepth 20000 in
theorem gX0_raise_X0_raiseByLeast : GoodIn wsX0_raise (wsV RX0 38 RX0 yX0_raiseByLeast wsX0_raiseByLeast) := goodIn_app (goodIn_of _ (by decide +kernel)) ggX0_raise_X0_raiseByLeast
theorem dX0_raise_0 : decode cX0_raise 0 = .ok (.iload_n 2, 1) := by decide +kernel
theorem dX0_raise_1 : decode cX0_raise 1 = .ok (.ifCond .lt 11, 3) := by decide +kernel
theorem dX0_raise_4 : decode cX0_raise 4 = .ok (.iload_n 2, 1) := by decide +kernel
theorem dX0_raise_5 : decode cX0_raise 5 = .ok (.aload_n 0, 1) := by decide +kernel
theorem dX0_raise_6 : decode cX0_raise 6 = .ok (.getfield 16, 3) := by decide +kernel
theorem dX0_raise_9 : decode cX0_raise 9 = .ok (.if_icmp .lt 4, 3) := by decide +kernel
theorem dX0_raise_12 : decode cX0_raise 12 = .ok (.return_, 1) := by decide +kernel
theorem dX0_raise_13 : decode cX0_raise 13 = .ok (.iload_n 1, 1) := by decide +kernel
theorem dX0_raise_14 : decode cX0_raise 14 = .ok (.ifCond .ne 30, 3) := by decide +kernel
theorem dX0_raise_17 : decode cX0_raise 17 = .ok (.aload_n 3, 1) := by decide +kernel
theorem dX0_raise_18 : decode cX0_raise 18 = .ok (.aload_n 0, 1) := by decide +kernel
theorem dX0_raise_19 : decode cX0_raise 19 = .ok (.getfield 16, 3) := by decide +kernel
theorem dX0_raise_22 : decode cX0_raise 22 = .ok (.i2l, 1) := by decide +kernel
theorem dX0_raise_23 : decode cX0_raise 23 = .ok (.aload_n 0, 1) := by decide +kernel
theorem dX0_raise_24 : decode cX0_raise 24 = .ok (.getfield 9, 3) := by decide +kernel
theorem dX0_raise_27 : decode cX0_raise 27 = .ok (.iload_n 2, 1) := by decide +kernel
theorem dX0_raise_28 : decode cX0_raise 28 = .ok (.iaload, 1) := by decide +kernel
theorem dX0_raise_29 : decode cX0_raise 29 = .ok (.i2l, 1) := by decide +kernel
theorem dX0_raise_30 : decode cX0_raise 30 = .ok (.lmul, 1) := by decide +kernel
theorem dX0_raise_31 : decode cX0_raise 31 = .ok (.aload_n 0, 1) := by decide +kernel
theorem dX0_raise_32 : decode cX0_raise 32 = .ok (.getfield 13, 3) := by decide +kernel
theorem dX0_raise_35 : decode cX0_raise 35 = .ok (.iload_n 2, 1) := by decide +kernel
theorem dX0_raise_36 : decode cX0_raise 36 = .ok (.iaload, 1) := by decide +kernel
theorem dX0_raise_37 : decode cX0_raise 37 = .ok (.i2l, 1) := by decide +kernel
theorem dX0_raise_38 : decode cX0_raise 38 = .ok (.invokevirtual 24, 3) := by decide +kernel
theorem dX0_raise_41 : decode cX0_raise 41 = .ok (.goto 31, 3) := by decide +kernel
theorem dX0_raise_44 : decode cX0_raise 44 = .ok (.iload_n 1, 1) := by decide +kernel
theorem dX0_raise_45 : decode cX0_raise 45 = .ok (.iconst 1, 1) := by decide +kernel
theorem dX0_raise_46 : decode cX0_raise 46 = .ok (.if_icmp .ne 16, 3) := by decide +kernel
theorem dX0_raise_49 : decode cX0_raise 49 = .ok (.aload_n 0, 1) := by decide +kernel
theorem dX0_raise_50 : decode cX0_raise 50 = .ok (.aload_n 0, 1) := by decide +kernel
theorem dX0_raise_51 : decode cX0_raise 51 = .ok (.iload_n 2, 1) := by decide +kernel
theorem dX0_raise_52 : decode cX0_raise 52 = .ok (.invokevirtual 30, 3) := by decide +kernel
theorem dX0_raise_55 : decode cX0_raise 55 = .ok (.aload_n 3, 1) := by decide +kernel
theorem dX0_raise_56 : decode cX0_raise 56 = .ok (.invokevirtual 34, 3) := by decide +kernel
theorem dX0_raise_59 : decode cX0_raise 59 = .ok (.goto 13, 3) := by decide +kernel
theorem dX0_raise_62 : decode cX0_raise 62 = .ok (.aload_n 0, 1) := by decide +kernel
theorem dX0_raise_63 : decode cX0_raise 63 = .ok (.aload_n 0, 1) := by decide +kernel
theorem dX0_raise_64 : decode cX0_raise 64 = .ok (.iload_n 2, 1) := by decide +kernel
theorem dX0_raise_65 : decode cX0_raise 65 = .ok (.invokevirtual 30, 3) := by decide +kernel
theorem dX0_raise_68 : decode cX0_raise 68 = .ok (.aload_n 3, 1) := by decide +kernel
theorem dX0_raise_69 : decode cX0_raise 69 = .ok (.invokevirtual 38, 3) := by decide +kernel
theorem dX0_raise_72 : decode cX0_raise 72 = .ok (.return_, 1) := by decide +kernel
set_option maxRecDepth 20000 in
theorem ggX0_raiseByGreatest_X4_become : GoodIn wsX0_raiseByGreatest wsX4_become := goodIn_r _ [8, 9, 10, 11, 12, 13, 14, 15, 16, 17, 18, 35, 36] (by decide +kernel) (by decide +kernel)
set_option maxRecDepth 20000 in
theorem gX0_raiseByGreatest_X4_become : GoodIn wsX0_raiseByGreatest (wsV RX0 24 RX4 yX4_become wsX4_become) := goodIn_app (goodIn_of _ (by decide +kernel)) ggX0_raiseByGreatest_X4_become
set_option maxRecDepth 20000 in
theorem ggX0_raiseByGreatest_X0_placeOf : GoodIn wsX0_raiseByGreatest wsX0_placeOf := goodIn_r _ [23, 1, 24, 25, 26, 22, 27, 2, 3, 32, 33, 34] (by decide +kernel) (by decide +kernel)
set_option maxRecDepth 20000 in
theorem gX0_raiseByGreatest_X0_placeOf : GoodIn wsX0_raiseByGreatest (wsV RX0 30 RX0 yX0_placeOf wsX0_placeOf) := goodIn_app (goodIn_of _ (by decide +kernel)) ggX0_raiseByGreatest_X0_placeOf
set_option maxRecDepth 20000 in
theorem ggX0_raiseByGreatest_X4_isBelow : GoodIn wsX0_raiseByGreatest wsX4_isBelow := goodIn_r _ [31, 13, 14, 35, 36] (by decide +kernel) (by decide +kernel)
set_option maxRecDepth 20000 in
theorem gX0_raiseByGreatest_X4_isBelow : GoodIn wsX0_raiseByGreatest (wsV RX0 41 RX4 yX4_isBelow wsX4_isBelow) := goodIn_app (goodIn_of _ (by decide +kernel)) ggX0_raiseByGreatest_X4_isBelow
theorem dX0_raiseByGreatest_0 : decode cX0_raiseByGreatest 0 = .ok (.aload_n 2, 1) := by decide +kernel
theorem dX0_raiseByGreatest_1 : decode cX0_raiseByGreatest 1 = .ok (.lconst 0, 1) := by decide +kernel
theorem dX0_raiseByGreatest_2 : decode cX0_raiseByGreatest 2 = .ok (.lconst 1, 1) := by decide +kernel
theorem dX0_raiseByGreatest_3 : decode cX0_raiseByGreatest 3 = .ok (.invokevirtual 24, 3) := by decide +kernel
theorem dX0_raiseByGreatest_6 : decode cX0_raiseByGreatest 6 = .ok (.iconst 0, 1) := by decide +kernel
theorem dX0_raiseByGreatest_7 : decode cX0_raiseByGreatest 7 = .ok (.istore_n 3, 1) := by decide +kernel
theorem dX0_raiseByGreatest_8 : decode cX0_raiseByGreatest 8 = .ok (.iload_n 3, 1) := by decide +kernel
theorem dX0_raiseByGreatest_9 : decode cX0_raiseByGreatest 9 = .ok (.aload_n 0, 1) := by decide +kernel
theorem dX0_raiseByGreatest_10 : decode cX0_raiseByGreatest 10 = .ok (.getfield 16, 3) := by decide +kernel
theorem dX0_raiseByGreatest_13 : decode cX0_raiseByGreatest 13 = .ok (.if_icmp .ge 71, 3) := by decide +kernel
theorem dX0_raiseByGreatest_16 : decode cX0_raiseByGreatest 16 = .ok (.aload_n 0, 1) := by decide +kernel
theorem dX0_raiseByGreatest_17 : decode cX0_raiseByGreatest 17 = .ok (.iload_n 3, 1) := by decide +kernel
theorem dX0_raiseByGreatest_18 : decode cX0_raiseByGreatest 18 = .ok (.invokevirtual 30, 3) := by decide +kernel
theorem dX0_raiseByGreatest_21 : decode cX0_raiseByGreatest 21 = .ok (.istore 4, 2) := by decide +kernel
theorem dX0_raiseByGreatest_23 : decode cX0_raiseByGreatest 23 = .ok (.aload_n 0, 1) := by decide +kernel
theorem dX0_raiseByGreatest_24 : decode cX0_raiseByGreatest 24 = .ok (.getfield 16, 3) := by decide +kernel
theorem dX0_raiseByGreatest_27 : decode cX0_raiseByGreatest 27 = .ok (.iconst 1, 1) := by decide +kernel
theorem dX0_raiseByGreatest_28 : decode cX0_raiseByGreatest 28 = .ok (.iadd, 1) := by decide +kernel
theorem dX0_raiseByGreatest_29 : decode cX0_raiseByGreatest 29 = .ok (.iload 4, 2) := by decide +kernel
theorem dX0_raiseByGreatest_31 : decode cX0_raiseByGreatest 31 = .ok (.isub, 1) := by decide +kernel
theorem dX0_raiseByGreatest_32 : decode cX0_raiseByGreatest 32 = .ok (.i2l, 1) := by decide +kernel
theorem dX0_raiseByGreatest_33 : decode cX0_raiseByGreatest 33 = .ok (.aload_n 0, 1) := by decide +kernel
theorem dX0_raiseByGreatest_34 : decode cX0_raiseByGreatest 34 = .ok (.getfield 9, 3) := by decide +kernel
theorem dX0_raiseByGreatest_37 : decode cX0_raiseByGreatest 37 = .ok (.iload_n 3, 1) := by decide +kernel
theorem dX0_raiseByGreatest_38 : decode cX0_raiseByGreatest 38 = .ok (.iaload, 1) := by decide +kernel
theorem dX0_raiseByGreatest_39 : decode cX0_raiseByGreatest 39 = .ok (.i2l, 1) := by decide +kernel
theorem dX0_raiseByGreatest_40 : decode cX0_raiseByGreatest 40 = .ok (.lmul, 1) := by decide +kernel
theorem dX0_raiseByGreatest_41 : decode cX0_raiseByGreatest 41 = .ok (.lstore 5, 2) := by decide +kernel
theorem dX0_raiseByGreatest_43 : decode cX0_raiseByGreatest 43 = .ok (.iload 4, 2) := by decide +kernel
theorem dX0_raiseByGreatest_45 : decode cX0_raiseByGreatest 45 = .ok (.iload_n 1, 1) := by decide +kernel
theorem dX0_raiseByGreatest_46 : decode cX0_raiseByGreatest 46 = .ok (.if_icmp .gt 32, 3) := by decide +kernel
theorem dX0_raiseByGreatest_49 : decode cX0_raiseByGreatest 49 = .ok (.aload_n 2, 1) := by decide +kernel
theorem dX0_raiseByGreatest_50 : decode cX0_raiseByGreatest 50 = .ok (.lload 5, 2) := by decide +kernel
theorem dX0_raiseByGreatest_52 : decode cX0_raiseByGreatest 52 = .ok (.aload_n 0, 1) := by decide +kernel
theorem dX0_raiseByGreatest_53 : decode cX0_raiseByGreatest 53 = .ok (.getfield 13, 3) := by decide +kernel
theorem dX0_raiseByGreatest_56 : decode cX0_raiseByGreatest 56 = .ok (.iload_n 3, 1) := by decide +kernel
theorem dX0_raiseByGreatest_57 : decode cX0_raiseByGreatest 57 = .ok (.iaload, 1) := by decide +kernel
theorem dX0_raiseByGreatest_58 : decode cX0_raiseByGreatest 58 = .ok (.i2l, 1) := by decide +kernel
theorem dX0_raiseByGreatest_59 : decode cX0_raiseByGreatest 59 = .ok (.invokevirtual 41, 3) := by decide +kernel
theorem dX0_raiseByGreatest_62 : decode cX0_raiseByGreatest 62 = .ok (.ifCond .eq 16, 3) := by decide +kernel
theorem dX0_raiseByGreatest_65 : decode cX0_raiseByGreatest 65 = .ok (.aload_n 2, 1) := by decide +kernel
theorem dX0_raiseByGreatest_66 : decode cX0_raiseByGreatest 66 = .ok (.lload 5, 2) := by decide +kernel
theorem dX0_raiseByGreatest_68 : decode cX0_raiseByGreatest 68 = .ok (.aload_n 0, 1) := by decide +kernel
theorem dX0_raiseByGreatest_69 : decode cX0_raiseByGreatest 69 = .ok (.getfield 13, 3) := by decide +kernel
theorem dX0_raiseByGreatest_72 : decode cX0_raiseByGreatest 72 = .ok (.iload_n 3, 1) := by decide +kernel
theorem dX0_raiseByGreatest_73 : decode cX0_raiseByGreatest 73 = .ok (.iaload, 1) := by decide +kernel
theorem dX0_raiseByGreatest_74 : decode cX0_raiseByGreatest 74 = .ok (.i2l, 1) := by decide +kernel
theorem dX0_raiseByGreatest_75 : decode cX0_raiseByGreatest 75 = .ok (.invokevirtual 24, 3) := by decide +kernel
theorem dX0_raiseByGreatest_78 : decode cX0_raiseByGreatest 78 = .ok (.iinc 3 1, 3) := by decide +kernel
theorem dX0_raiseByGreatest_81 : decode cX0_raiseByGreatest 81 = .ok (.goto (-73), 3) := by decide +kernel
theorem dX0_raiseByGreatest_84 : decode cX0_raiseByGreatest 84 = .ok (.return_, 1) := by decide +kernel
set_option maxRecDepth 20000 in
theorem ggX0_raiseByLeast_X4_become : GoodIn wsX0_raiseByLeast wsX4_become := goodIn_r _ [8, 9, 10, 11, 12, 13, 14, 15, 16, 17, 18, 35, 36] (by decide +kernel) (by decide +kernel)
set_option maxRecDepth 20000 in
theorem gX0_raiseByLeast_X4_become : GoodIn wsX0_raiseByLeast (wsV RX0 24 RX4 yX4_become wsX4_become) := goodIn_app (goodIn_of _ (by decide +kernel)) ggX0_raiseByLeast_X4_become
set_option maxRecDepth 20000 in
theorem ggX0_raiseByLeast_X0_placeOf : GoodIn wsX0_raiseByLeast wsX0_placeOf := goodIn_r _ [23, 1, 24, 25, 26, 22, 27, 2, 3, 32, 33, 34] (by decide +kernel) (by decide +kernel)
set_option maxRecDepth 20000 in
theorem gX0_raiseByLeast_X0_placeOf : GoodIn wsX0_raiseByLeast (wsV RX0 30 RX0 yX0_placeOf wsX0_placeOf) := goodIn_app (goodIn_of _ (by decide +kernel)) ggX0_raiseByLeast_X0_placeOf
set_option maxRecDepth 20000 in
theorem ggX0_raiseByLeast_X4_isAbove : GoodIn wsX0_raiseByLeast wsX4_isAbove := goodIn_r _ [31, 13, 14, 35, 36] (by decide +kernel) (by decide +kernel)
set_option maxRecDepth 20000 in
theorem gX0_raiseByLeast_X4_isAbove : GoodIn wsX0_raiseByLeast (wsV RX0 45 RX4 yX4_isAbove wsX4_isAbove) := goodIn_app (goodIn_of _ (by decide +kernel)) ggX0_raiseByLeast_X4_isAbove
theorem dX0_raiseByLeast_0 : decode cX0_raiseByLeast 0 = .ok (.aload_n 2, 1) := by decide +kernel
theorem dX0_raiseByLeast_1 : decode cX0_raiseByLeast 1 = .ok (.aload_n 0, 1) := by decide +kernel
theorem dX0_raiseByLeast_2 : decode cX0_raiseByLeast 2 = .ok (.getfield 16, 3) := by decide +kernel
theorem dX0_raiseByLeast_5 : decode cX0_raiseByLeast 5 = .ok (.i2l, 1) := by decide +kernel
theorem dX0_raiseByLeast_6 : decode cX0_raiseByLeast 6 = .ok (.lconst 1, 1) := by decide +kernel
theorem dX0_raiseByLeast_7 : decode cX0_raiseByLeast 7 = .ok (.invokevirtual 24, 3) := by decide +kernel
theorem dX0_raiseByLeast_10 : decode cX0_raiseByLeast 10 = .ok (.iconst 0, 1) := by decide +kernel
theorem dX0_raiseByLeast_11 : decode cX0_raiseByLeast 11 = .ok (.istore_n 3, 1) := by decide +kernel
theorem dX0_raiseByLeast_12 : decode cX0_raiseByLeast 12 = .ok (.iload_n 3, 1) := by decide +kernel
theorem dX0_raiseByLeast_13 : decode cX0_raiseByLeast 13 = .ok (.aload_n 0, 1) := by decide +kernel
theorem dX0_raiseByLeast_14 : decode cX0_raiseByLeast 14 = .ok (.getfield 16, 3) := by decide +kernel
theorem dX0_raiseByLeast_17 : decode cX0_raiseByLeast 17 = .ok (.if_icmp .ge 69, 3) := by decide +kernel
theorem dX0_raiseByLeast_20 : decode cX0_raiseByLeast 20 = .ok (.aload_n 0, 1) := by decide +kernel
theorem dX0_raiseByLeast_21 : decode cX0_raiseByLeast 21 = .ok (.iload_n 3, 1) := by decide +kernel
theorem dX0_raiseByLeast_22 : decode cX0_raiseByLeast 22 = .ok (.invokevirtual 30, 3) := by decide +kernel
theorem dX0_raiseByLeast_25 : decode cX0_raiseByLeast 25 = .ok (.istore 4, 2) := by decide +kernel
theorem dX0_raiseByLeast_27 : decode cX0_raiseByLeast 27 = .ok (.aload_n 0, 1) := by decide +kernel
theorem dX0_raiseByLeast_28 : decode cX0_raiseByLeast 28 = .ok (.getfield 16, 3) := by decide +kernel
theorem dX0_raiseByLeast_31 : decode cX0_raiseByLeast 31 = .ok (.i2l, 1) := by decide +kernel
theorem dX0_raiseByLeast_32 : decode cX0_raiseByLeast 32 = .ok (.aload_n 0, 1) := by decide +kernel
theorem dX0_raiseByLeast_33 : decode cX0_raiseByLeast 33 = .ok (.getfield 9, 3) := by decide +kernel
theorem dX0_raiseByLeast_36 : decode cX0_raiseByLeast 36 = .ok (.iload_n 3, 1) := by decide +kernel
theorem dX0_raiseByLeast_37 : decode cX0_raiseByLeast 37 = .ok (.iaload, 1) := by decide +kernel
theorem dX0_raiseByLeast_38 : decode cX0_raiseByLeast 38 = .ok (.i2l, 1) := by decide +kernel
theorem dX0_raiseByLeast_39 : decode cX0_raiseByLeast 39 = .ok (.lmul, 1) := by decide +kernel
theorem dX0_raiseByLeast_40 : decode cX0_raiseByLeast 40 = .ok (.lstore 5, 2) := by decide +kernel
theorem dX0_raiseByLeast_42 : decode cX0_raiseByLeast 42 = .ok (.iload 4, 2) := by decide +kernel
theorem dX0_raiseByLeast_44 : decode cX0_raiseByLeast 44 = .ok (.i2l, 1) := by decide +kernel
theorem dX0_raiseByLeast_45 : decode cX0_raiseByLeast 45 = .ok (.aload_n 0, 1) := by decide +kernel
theorem dX0_raiseByLeast_46 : decode cX0_raiseByLeast 46 = .ok (.getfield 13, 3) := by decide +kernel
theorem dX0_raiseByLeast_49 : decode cX0_raiseByLeast 49 = .ok (.iload_n 3, 1) := by decide +kernel
theorem dX0_raiseByLeast_50 : decode cX0_raiseByLeast 50 = .ok (.iaload, 1) := by decide +kernel
theorem dX0_raiseByLeast_51 : decode cX0_raiseByLeast 51 = .ok (.i2l, 1) := by decide +kernel
theorem dX0_raiseByLeast_52 : decode cX0_raiseByLeast 52 = .ok (.lmul, 1) := by decide +kernel
theorem dX0_raiseByLeast_53 : decode cX0_raiseByLeast 53 = .ok (.lstore 7, 2) := by decide +kernel
theorem dX0_raiseByLeast_55 : decode cX0_raiseByLeast 55 = .ok (.iload 4, 2) := by decide +kernel
theorem dX0_raiseByLeast_57 : decode cX0_raiseByLeast 57 = .ok (.iload_n 1, 1) := by decide +kernel
theorem dX0_raiseByLeast_58 : decode cX0_raiseByLeast 58 = .ok (.if_icmp .lt 22, 3) := by decide +kernel
theorem dX0_raiseByLeast_61 : decode cX0_raiseByLeast 61 = .ok (.aload_n 2, 1) := by decide +kernel
theorem dX0_raiseByLeast_62 : decode cX0_raiseByLeast 62 = .ok (.lload 5, 2) := by decide +kernel
theorem dX0_raiseByLeast_64 : decode cX0_raiseByLeast 64 = .ok (.lload 7, 2) := by decide +kernel
theorem dX0_raiseByLeast_66 : decode cX0_raiseByLeast 66 = .ok (.invokevirtual 45, 3) := by decide +kernel
theorem dX0_raiseByLeast_69 : decode cX0_raiseByLeast 69 = .ok (.ifCond .eq 11, 3) := by decide +kernel
theorem dX0_raiseByLeast_72 : decode cX0_raiseByLeast 72 = .ok (.aload_n 2, 1) := by decide +kernel
theorem dX0_raiseByLeast_73 : decode cX0_raiseByLeast 73 = .ok (.lload 5, 2) := by decide +kernel
theorem dX0_raiseByLeast_75 : decode cX0_raiseByLeast 75 = .ok (.lload 7, 2) := by decide +kernel
theorem dX0_raiseByLeast_77 : decode cX0_raiseByLeast 77 = .ok (.invokevirtual 24, 3) := by decide +kernel
theorem dX0_raiseByLeast_80 : decode cX0_raiseByLeast 80 = .ok (.iinc 3 1, 3) := by decide +kernel
theorem dX0_raiseByLeast_83 : decode cX0_raiseByLeast 83 = .ok (.goto (-71), 3) := by decide +kernel
theorem dX0_raiseByLeast_86 : decode cX0_raiseByLeast 86 = .ok (.return_, 1) := by decide +kernel
set_option maxRecDepth 20000 in
theorem ggX0_placeOf_X0_standsAhead : GoodIn wsX0_placeOf wsX0_standsAhead := goodIn_r _ [6, 1, 7, 8, 9, 10, 11] (by decide +kernel) (by decide +kernel)
set_option maxRecDepth 20000 in
theorem gX0_placeOf_X0_standsAhead : GoodIn wsX0_placeOf (wsV RX0 48 RX0 yX0_standsAhead wsX0_standsAhead) := goodIn_app (goodIn_of _ (by decide +kernel)) ggX0_placeOf_X0_standsAhead
theorem dX0_placeOf_0 : decode cX0_placeOf 0 = .ok (.iconst 1, 1) := by decide +kernel
theorem dX0_placeOf_1 : decode cX0_placeOf 1 = .ok (.istore_n 2, 1) := by decide +kernel
theorem dX0_placeOf_2 : decode cX0_placeOf 2 = .ok (.iconst 0, 1) := by decide +kernel
theorem dX0_placeOf_3 : decode cX0_placeOf 3 = .ok (.istore_n 3, 1) := by decide +kernel
theorem dX0_placeOf_4 : decode cX0_placeOf 4 = .ok (.iload_n 3, 1) := by decide +kernel
theorem dX0_placeOf_5 : decode cX0_placeOf 5 = .ok (.aload_n 0, 1) := by decide +kernel
theorem dX0_placeOf_6 : decode cX0_placeOf 6 = .ok (.getfield 16, 3) := by decide +kernel
theorem dX0_placeOf_9 : decode cX0_placeOf 9 = .ok (.if_icmp .ge 21, 3) := by decide +kernel
theorem dX0_placeOf_12 : decode cX0_placeOf 12 = .ok (.aload_n 0, 1) := by decide +kernel
theorem dX0_placeOf_13 : decode cX0_placeOf 13 = .ok (.iload_n 3, 1) := by decide +kernel
end
section
theorem dX0_placeOf_14 : decode cX0_placeOf 14 = .ok (.iload_n 1, 1) := by decide +kernel
theorem dX0_placeOf_15 : decode cX0_placeOf 15 = .ok (.invokevirtual 48, 3) := by decide +kernel
theorem dX0_placeOf_18 : decode cX0_placeOf 18 = .ok (.ifCond .eq 6, 3) := by decide +kernel
theorem dX0_placeOf_21 : decode cX0_placeOf 21 = .ok (.iinc 2 1, 3) := by decide +kernel
theorem dX0_placeOf_24 : decode cX0_placeOf 24 = .ok (.iinc 3 1, 3) := by decide +kernel
theorem dX0_placeOf_27 : decode cX0_placeOf 27 = .ok (.goto (-23), 3) := by decide +kernel
theorem dX0_placeOf_30 : decode cX0_placeOf 30 = .ok (.iload_n 2, 1) := by decide +kernel
theorem dX0_placeOf_31 : decode cX0_placeOf 31 = .ok (.ireturn, 1) := by decide +kernel
theorem dX0_standsAhead_0 : decode cX0_standsAhead 0 = .ok (.iload_n 1, 1) := by decide +kernel
theorem dX0_standsAhead_1 : decode cX0_standsAhead 1 = .ok (.ifCond .lt 23, 3) := by decide +kernel
theorem dX0_standsAhead_4 : decode cX0_standsAhead 4 = .ok (.iload_n 1, 1) := by decide +kernel
theorem dX0_standsAhead_5 : decode cX0_standsAhead 5 = .ok (.aload_n 0, 1) := by decide +kernel
theorem dX0_standsAhead_6 : decode cX0_standsAhead 6 = .ok (.getfield 16, 3) := by decide +kernel
theorem dX0_standsAhead_9 : decode cX0_standsAhead 9 = .ok (.if_icmp .ge 15, 3) := by decide +kernel
theorem dX0_standsAhead_12 : decode cX0_standsAhead 12 = .ok (.iload_n 2, 1) := by decide +kernel
theorem dX0_standsAhead_13 : decode cX0_standsAhead 13 = .ok (.ifCond .lt 11, 3) := by decide +kernel
theorem dX0_standsAhead_16 : decode cX0_standsAhead 16 = .ok (.iload_n 2, 1) := by decide +kernel
theorem dX0_standsAhead_17 : decode cX0_standsAhead 17 = .ok (.aload_n 0, 1) := by decide +kernel
theorem dX0_standsAhead_18 : decode cX0_standsAhead 18 = .ok (.getfield 16, 3) := by decide +kernel
theorem dX0_standsAhead_21 : decode cX0_standsAhead 21 = .ok (.if_icmp .lt 5, 3) := by decide +kernel
theorem dX0_standsAhead_24 : decode cX0_standsAhead 24 = .ok (.iconst 0, 1) := by decide +kernel
theorem dX0_standsAhead_25 : decode cX0_standsAhead 25 = .ok (.ireturn, 1) := by decide +kernel
theorem dX0_standsAhead_26 : decode cX0_standsAhead 26 = .ok (.aload_n 0, 1) := by decide +kernel
theorem dX0_standsAhead_27 : decode cX0_standsAhead 27 = .ok (.getfield 9, 3) := by decide +kernel
theorem dX0_standsAhead_30 : decode cX0_standsAhead 30 = .ok (.iload_n 1, 1) := by decide +kernel
theorem dX0_standsAhead_31 : decode cX0_standsAhead 31 = .ok (.iaload, 1) := by decide +kernel
theorem dX0_standsAhead_32 : decode cX0_standsAhead 32 = .ok (.i2l, 1) := by decide +kernel
theorem dX0_standsAhead_33 : decode cX0_standsAhead 33 = .ok (.aload_n 0, 1) := by decide +kernel
theorem dX0_standsAhead_34 : decode cX0_standsAhead 34 = .ok (.getfield 13, 3) := by decide +kernel
theorem dX0_standsAhead_37 : decode cX0_standsAhead 37 = .ok (.iload_n 2, 1) := by decide +kernel
theorem dX0_standsAhead_38 : decode cX0_standsAhead 38 = .ok (.iaload, 1) := by decide +kernel
theorem dX0_standsAhead_39 : decode cX0_standsAhead 39 = .ok (.i2l, 1) := by decide +kernel
theorem dX0_standsAhead_40 : decode cX0_standsAhead 40 = .ok (.lmul, 1) := by decide +kernel
theorem dX0_standsAhead_41 : decode cX0_standsAhead 41 = .ok (.lstore_n 3, 1) := by decide +kernel
theorem dX0_standsAhead_42 : decode cX0_standsAhead 42 = .ok (.aload_n 0, 1) := by decide +kernel
theorem dX0_standsAhead_43 : decode cX0_standsAhead 43 = .ok (.getfield 9, 3) := by decide +kernel
theorem dX0_standsAhead_46 : decode cX0_standsAhead 46 = .ok (.iload_n 2, 1) := by decide +kernel
theorem dX0_standsAhead_47 : decode cX0_standsAhead 47 = .ok (.iaload, 1) := by decide +kernel
theorem dX0_standsAhead_48 : decode cX0_standsAhead 48 = .ok (.i2l, 1) := by decide +kernel
theorem dX0_standsAhead_49 : decode cX0_standsAhead 49 = .ok (.aload_n 0, 1) := by decide +kernel
theorem dX0_standsAhead_50 : decode cX0_standsAhead 50 = .ok (.getfield 13, 3) := by decide +kernel
theorem dX0_standsAhead_53 : decode cX0_standsAhead 53 = .ok (.iload_n 1, 1) := by decide +kernel
theorem dX0_standsAhead_54 : decode cX0_standsAhead 54 = .ok (.iaload, 1) := by decide +kernel
theorem dX0_standsAhead_55 : decode cX0_standsAhead 55 = .ok (.i2l, 1) := by decide +kernel
theorem dX0_standsAhead_56 : decode cX0_standsAhead 56 = .ok (.lmul, 1) := by decide +kernel
theorem dX0_standsAhead_57 : decode cX0_standsAhead 57 = .ok (.lstore 5, 2) := by decide +kernel
theorem dX0_standsAhead_59 : decode cX0_standsAhead 59 = .ok (.lload_n 3, 1) := by decide +kernel
theorem dX0_standsAhead_60 : decode cX0_standsAhead 60 = .ok (.lload 5, 2) := by decide +kernel
theorem dX0_standsAhead_62 : decode cX0_standsAhead 62 = .ok (.lcmp, 1) := by decide +kernel
theorem dX0_standsAhead_63 : decode cX0_standsAhead 63 = .ok (.ifCond .lt 15, 3) := by decide +kernel
theorem dX0_standsAhead_66 : decode cX0_standsAhead 66 = .ok (.lload_n 3, 1) := by decide +kernel
theorem dX0_standsAhead_67 : decode cX0_standsAhead 67 = .ok (.lload 5, 2) := by decide +kernel
theorem dX0_standsAhead_69 : decode cX0_standsAhead 69 = .ok (.lcmp, 1) := by decide +kernel
theorem dX0_standsAhead_70 : decode cX0_standsAhead 70 = .ok (.ifCond .ne 12, 3) := by decide +kernel
theorem dX0_standsAhead_73 : decode cX0_standsAhead 73 = .ok (.iload_n 1, 1) := by decide +kernel
theorem dX0_standsAhead_74 : decode cX0_standsAhead 74 = .ok (.iload_n 2, 1) := by decide +kernel
theorem dX0_standsAhead_75 : decode cX0_standsAhead 75 = .ok (.if_icmp .ge 7, 3) := by decide +kernel
theorem dX0_standsAhead_78 : decode cX0_standsAhead 78 = .ok (.iconst 1, 1) := by decide +kernel
theorem dX0_standsAhead_79 : decode cX0_standsAhead 79 = .ok (.goto 4, 3) := by decide +kernel
theorem dX0_standsAhead_82 : decode cX0_standsAhead 82 = .ok (.iconst 0, 1) := by decide +kernel
theorem dX0_standsAhead_83 : decode cX0_standsAhead 83 = .ok (.ireturn, 1) := by decide +kernel
set_option maxRecDepth 20000 in
theorem ggX1_init_X9_init : GoodIn wsX1_init wsX9_init := goodIn_r _ [12, 13, 2, 3, 14, 15, 16, 17, 18] (by decide +kernel) (by decide +kernel)
set_option maxRecDepth 20000 in
theorem gX1_init_X9_init : GoodIn wsX1_init (wsX9_init) := ggX1_init_X9_init
theorem dX1_init_0 : decode cX1_init 0 = .ok (.aload_n 0, 1) := by decide +kernel
theorem dX1_init_1 : decode cX1_init 1 = .ok (.invokespecial 1, 3) := by decide +kernel
theorem dX1_init_4 : decode cX1_init 4 = .ok (.aload_n 0, 1) := by decide +kernel
theorem dX1_init_5 : decode cX1_init 5 = .ok (.new 7, 3) := by decide +kernel
theorem dX1_init_8 : decode cX1_init 8 = .ok (.dup, 1) := by decide +kernel
theorem dX1_init_9 : decode cX1_init 9 = .ok (.invokespecial 9, 3) := by decide +kernel
theorem dX1_init_12 : decode cX1_init 12 = .ok (.putfield 10, 3) := by decide +kernel
theorem dX1_init_15 : decode cX1_init 15 = .ok (.aload_n 0, 1) := by decide +kernel
theorem dX1_init_16 : decode cX1_init 16 = .ok (.new 7, 3) := by decide +kernel
theorem dX1_init_19 : decode cX1_init 19 = .ok (.dup, 1) := by decide +kernel
theorem dX1_init_20 : decode cX1_init 20 = .ok (.invokespecial 9, 3) := by decide +kernel
theorem dX1_init_23 : decode cX1_init 23 = .ok (.putfield 16, 3) := by decide +kernel
theorem dX1_init_26 : decode cX1_init 26 = .ok (.aload_n 0, 1) := by decide +kernel
theorem dX1_init_27 : decode cX1_init 27 = .ok (.new 7, 3) := by decide +kernel
theorem dX1_init_30 : decode cX1_init 30 = .ok (.dup, 1) := by decide +kernel
theorem dX1_init_31 : decode cX1_init 31 = .ok (.invokespecial 9, 3) := by decide +kernel
theorem dX1_init_34 : decode cX1_init 34 = .ok (.putfield 19, 3) := by decide +kernel
theorem dX1_init_37 : decode cX1_init 37 = .ok (.return_, 1) := by decide +kernel
set_option maxRecDepth 20000 in
theorem ggX1_limbOfAbove_X1_sumUp : GoodIn wsX1_limbOfAbove wsX1_sumUp := goodIn_r _ [6, 7, 8, 9, 5, 10, 1, 11, 12, 13, 14, 15, 16, 17, 18, 19, 20, 21, 22, 23, 24, 25, 26, 27, 28, 29, 30, 31, 32, 33, 34, 35, 36, 37, 38, 39, 44, 45, 46, 47, 48] (by decide +kernel) (by decide +kernel)
set_option maxRecDepth 20000 in
theorem gX1_limbOfAbove_X1_sumUp : GoodIn wsX1_limbOfAbove (wsV RX1 22 RX1 yX1_sumUp wsX1_sumUp) := goodIn_app (goodIn_of _ (by decide +kernel)) ggX1_limbOfAbove_X1_sumUp
set_option maxRecDepth 20000 in
theorem ggX1_limbOfAbove_X9_limb : GoodIn wsX1_limbOfAbove wsX9_limb := goodIn_r _ [43, 17, 47, 48] (by decide +kernel) (by decide +kernel)
set_option maxRecDepth 20000 in
theorem gX1_limbOfAbove_X9_limb : GoodIn wsX1_limbOfAbove (wsV RX1 26 RX9 yX9_limb wsX9_limb) := goodIn_app (goodIn_of _ (by decide +kernel)) ggX1_limbOfAbove_X9_limb
theorem dX1_limbOfAbove_0 : decode cX1_limbOfAbove 0 = .ok (.aload_n 0, 1) := by decide +kernel
theorem dX1_limbOfAbove_1 : decode cX1_limbOfAbove 1 = .ok (.iload_n 1, 1) := by decide +kernel
theorem dX1_limbOfAbove_2 : decode cX1_limbOfAbove 2 = .ok (.iload_n 2, 1) := by decide +kernel
theorem dX1_limbOfAbove_3 : decode cX1_limbOfAbove 3 = .ok (.iload_n 3, 1) := by decide +kernel
theorem dX1_limbOfAbove_4 : decode cX1_limbOfAbove 4 = .ok (.iload 4, 2) := by decide +kernel
theorem dX1_limbOfAbove_6 : decode cX1_limbOfAbove 6 = .ok (.iload 5, 2) := by decide +kernel
theorem dX1_limbOfAbove_8 : decode cX1_limbOfAbove 8 = .ok (.invokevirtual 22, 3) := by decide +kernel
theorem dX1_limbOfAbove_11 : decode cX1_limbOfAbove 11 = .ok (.aload_n 0, 1) := by decide +kernel
theorem dX1_limbOfAbove_12 : decode cX1_limbOfAbove 12 = .ok (.getfield 10, 3) := by decide +kernel
theorem dX1_limbOfAbove_15 : decode cX1_limbOfAbove 15 = .ok (.iload 6, 2) := by decide +kernel
theorem dX1_limbOfAbove_17 : decode cX1_limbOfAbove 17 = .ok (.invokevirtual 26, 3) := by decide +kernel
theorem dX1_limbOfAbove_20 : decode cX1_limbOfAbove 20 = .ok (.lreturn, 1) := by decide +kernel
set_option maxRecDepth 20000 in
theorem ggX1_oddsAgainst_X9_become : GoodIn wsX1_oddsAgainst wsX9_become := goodIn_r _ [7, 8, 9, 10, 48, 49] (by decide +kernel) (by decide +kernel)
set_option maxRecDepth 20000 in
theorem gX1_oddsAgainst_X9_become : GoodIn wsX1_oddsAgainst (wsV RX1 30 RX9 yX9_become wsX9_become) := goodIn_app (goodIn_of _ (by decide +kernel)) ggX1_oddsAgainst_X9_become
set_option maxRecDepth 20000 in
theorem ggX1_oddsAgainst_X9_multiplyOften : GoodIn wsX1_oddsAgainst wsX9_multiplyOften := goodIn_r _ [14, 15, 16, 17, 6, 18, 10, 8, 9, 48, 49] (by decide +kernel) (by decide +kernel)
set_option maxRecDepth 20000 in
theorem gX1_oddsAgainst_X9_multiplyOften : GoodIn wsX1_oddsAgainst (wsV RX1 34 RX9 yX9_multiplyOften wsX9_multiplyOften) := goodIn_app (goodIn_of _ (by decide +kernel)) ggX1_oddsAgainst_X9_multiplyOften
set_option maxRecDepth 20000 in
theorem ggX1_oddsAgainst_X1_sumUp : GoodIn wsX1_oddsAgainst wsX1_sumUp := goodIn_r _ [23, 24, 25, 26, 22, 27, 2, 28, 3, 4, 5, 6, 7, 8, 9, 10, 29, 16, 17, 18, 30, 31, 32, 33, 34, 35, 36, 37, 38, 39, 40, 11, 12, 13, 14, 15, 45, 46, 47, 48, 49] (by decide +kernel) (by decide +kernel)
set_option maxRecDepth 20000 in
theorem gX1_oddsAgainst_X1_sumUp : GoodIn wsX1_oddsAgainst (wsV RX1 22 RX1 yX1_sumUp wsX1_sumUp) := goodIn_app (goodIn_of _ (by decide +kernel)) ggX1_oddsAgainst_X1_sumUp
set_option maxRecDepth 20000 in
theorem ggX1_oddsAgainst_X9_multiply : GoodIn wsX1_oddsAgainst wsX9_multiply := goodIn_r _ [18, 10, 8, 9, 48, 49] (by decide +kernel) (by decide +kernel)
set_option maxRecDepth 20000 in
theorem gX1_oddsAgainst_X9_multiply : GoodIn wsX1_oddsAgainst (wsV RX1 38 RX9 yX9_multiply wsX9_multiply) := goodIn_app (goodIn_of _ (by decide +kernel)) ggX1_oddsAgainst_X9_multiply
set_option maxRecDepth 20000 in
theorem ggX1_oddsAgainst_X9_against : GoodIn wsX1_oddsAgainst wsX9_against := goodIn_r _ [44, 8, 48, 49] (by decide +kernel) (by decide +kernel)
set_option maxRecDepth 20000 in
theorem gX1_oddsAgainst_X9_against : GoodIn wsX1_oddsAgainst (wsV RX1 41 RX9 yX9_against wsX9_against) := goodIn_app (goodIn_of _ (by decide +kernel)) ggX1_oddsAgainst_X9_against
theorem dX1_oddsAgainst_0 : decode cX1_oddsAgainst 0 = .ok (.aload_n 0, 1) := by decide +kernel
theorem dX1_oddsAgainst_1 : decode cX1_oddsAgainst 1 = .ok (.getfield 19, 3) := by decide +kernel
theorem dX1_oddsAgainst_4 : decode cX1_oddsAgainst 4 = .ok (.iload 6, 2) := by decide +kernel
theorem dX1_oddsAgainst_6 : decode cX1_oddsAgainst 6 = .ok (.i2l, 1) := by decide +kernel
theorem dX1_oddsAgainst_7 : decode cX1_oddsAgainst 7 = .ok (.invokevirtual 30, 3) := by decide +kernel
theorem dX1_oddsAgainst_10 : decode cX1_oddsAgainst 10 = .ok (.aload_n 0, 1) := by decide +kernel
theorem dX1_oddsAgainst_11 : decode cX1_oddsAgainst 11 = .ok (.getfield 19, 3) := by decide +kernel
theorem dX1_oddsAgainst_14 : decode cX1_oddsAgainst 14 = .ok (.iload 4, 2) := by decide +kernel
theorem dX1_oddsAgainst_16 : decode cX1_oddsAgainst 16 = .ok (.i2l, 1) := by decide +kernel
theorem dX1_oddsAgainst_17 : decode cX1_oddsAgainst 17 = .ok (.iload_n 1, 1) := by decide +kernel
theorem dX1_oddsAgainst_18 : decode cX1_oddsAgainst 18 = .ok (.invokevirtual 34, 3) := by decide +kernel
theorem dX1_oddsAgainst_21 : decode cX1_oddsAgainst 21 = .ok (.aload_n 0, 1) := by decide +kernel
theorem dX1_oddsAgainst_22 : decode cX1_oddsAgainst 22 = .ok (.iload_n 1, 1) := by decide +kernel
theorem dX1_oddsAgainst_23 : decode cX1_oddsAgainst 23 = .ok (.iload_n 2, 1) := by decide +kernel
theorem dX1_oddsAgainst_24 : decode cX1_oddsAgainst 24 = .ok (.iload_n 3, 1) := by decide +kernel
theorem dX1_oddsAgainst_25 : decode cX1_oddsAgainst 25 = .ok (.iload 4, 2) := by decide +kernel
theorem dX1_oddsAgainst_27 : decode cX1_oddsAgainst 27 = .ok (.iload 5, 2) := by decide +kernel
theorem dX1_oddsAgainst_29 : decode cX1_oddsAgainst 29 = .ok (.invokevirtual 22, 3) := by decide +kernel
theorem dX1_oddsAgainst_32 : decode cX1_oddsAgainst 32 = .ok (.aload_n 0, 1) := by decide +kernel
theorem dX1_oddsAgainst_33 : decode cX1_oddsAgainst 33 = .ok (.getfield 10, 3) := by decide +kernel
theorem dX1_oddsAgainst_36 : decode cX1_oddsAgainst 36 = .ok (.iload 7, 2) := by decide +kernel
theorem dX1_oddsAgainst_38 : decode cX1_oddsAgainst 38 = .ok (.i2l, 1) := by decide +kernel
theorem dX1_oddsAgainst_39 : decode cX1_oddsAgainst 39 = .ok (.invokevirtual 38, 3) := by decide +kernel
theorem dX1_oddsAgainst_42 : decode cX1_oddsAgainst 42 = .ok (.aload_n 0, 1) := by decide +kernel
theorem dX1_oddsAgainst_43 : decode cX1_oddsAgainst 43 = .ok (.getfield 10, 3) := by decide +kernel
theorem dX1_oddsAgainst_46 : decode cX1_oddsAgainst 46 = .ok (.aload_n 0, 1) := by decide +kernel
theorem dX1_oddsAgainst_47 : decode cX1_oddsAgainst 47 = .ok (.getfield 19, 3) := by decide +kernel
theorem dX1_oddsAgainst_50 : decode cX1_oddsAgainst 50 = .ok (.invokevirtual 41, 3) := by decide +kernel
theorem dX1_oddsAgainst_53 : decode cX1_oddsAgainst 53 = .ok (.ireturn, 1) := by decide +kernel
set_option maxRecDepth 20000 in
theorem ggX1_upper_X9_become : GoodIn wsX1_upper wsX9_become := goodIn_r _ [8, 9, 10, 11, 49, 50] (by decide +kernel) (by decide +kernel)
set_option maxRecDepth 20000 in
theorem gX1_upper_X9_become : GoodIn wsX1_upper (wsV RX1 30 RX9 yX9_become wsX9_become) := goodIn_app (goodIn_of _ (by decide +kernel)) ggX1_upper_X9_become
set_option maxRecDepth 20000 in
theorem ggX1_upper_X9_multiplyOften : GoodIn wsX1_upper wsX9_multiplyOften := goodIn_r _ [15, 16, 17, 18, 7, 19, 11, 9, 10, 49, 50] (by decide +kernel) (by decide +kernel)
set_option maxRecDepth 20000 in
theorem gX1_upper_X9_multiplyOften : GoodIn wsX1_upper (wsV RX1 34 RX9 yX9_multiplyOften wsX9_multiplyOften) := goodIn_app (goodIn_of _ (by decide +kernel)) ggX1_upper_X9_multiplyOften
set_option maxRecDepth 20000 in
theorem ggX1_upper_X1_sumUp : GoodIn wsX1_upper wsX1_sumUp := goodIn_r _ [24, 25, 26, 27, 23, 28, 3, 29, 4, 5, 6, 7, 8, 9, 10, 11, 30, 17, 18, 19, 31, 32, 33, 34, 35, 36, 37, 38, 39, 40, 41, 12, 13, 14, 15, 16, 46, 47, 48, 49, 50] (by decide +kernel) (by decide +kernel)
set_option maxRecDepth 20000 in
theorem gX1_upper_X1_sumUp : GoodIn wsX1_upper (wsV RX1 22 RX1 yX1_sumUp wsX1_sumUp) := goodIn_app (goodIn_of _ (by decide +kernel)) ggX1_upper_X1_sumUp
set_option maxRecDepth 20000 in
theorem ggX1_upper_X9_multiply : GoodIn wsX1_upper wsX9_multiply := goodIn_r _ [19, 11, 9, 10, 49, 50] (by decide +kernel) (by decide +kernel)
set_option maxRecDepth 20000 in
theorem gX1_upper_X9_multiply : GoodIn wsX1_upper (wsV RX1 38 RX9 yX9_multiply wsX9_multiply) := goodIn_app (goodIn_of _ (by decide +kernel)) ggX1_upper_X9_multiply
set_option maxRecDepth 20000 in
theorem ggX1_upper_X9_against : GoodIn wsX1_upper wsX9_against := goodIn_r _ [45, 9, 49, 50] (by decide +kernel) (by decide +kernel)
set_option maxRecDepth 20000 in
theorem gX1_upper_X9_against : GoodIn wsX1_upper (wsV RX1 41 RX9 yX9_against wsX9_against) := goodIn_app (goodIn_of _ (by decide +kernel)) ggX1_upper_X9_against
theorem dX1_upper_0 : decode cX1_upper 0 = .ok (.aload_n 0, 1) := by decide +kernel
theorem dX1_upper_1 : decode cX1_upper 1 = .ok (.getfield 19, 3) := by decide +kernel
theorem dX1_upper_4 : decode cX1_upper 4 = .ok (.iload_n 3, 1) := by decide +kernel
theorem dX1_upper_5 : decode cX1_upper 5 = .ok (.i2l, 1) := by decide +kernel
theorem dX1_upper_6 : decode cX1_upper 6 = .ok (.invokevirtual 30, 3) := by decide +kernel
theorem dX1_upper_9 : decode cX1_upper 9 = .ok (.aload_n 0, 1) := by decide +kernel
theorem dX1_upper_10 : decode cX1_upper 10 = .ok (.getfield 19, 3) := by decide +kernel
theorem dX1_upper_13 : decode cX1_upper 13 = .ok (.ldc2_w 45, 3) := by decide +kernel
theorem dX1_upper_16 : decode cX1_upper 16 = .ok (.iload_n 1, 1) := by decide +kernel
theorem dX1_upper_17 : decode cX1_upper 17 = .ok (.invokevirtual 34, 3) := by decide +kernel
theorem dX1_upper_20 : decode cX1_upper 20 = .ok (.iconst 0, 1) := by decide +kernel
theorem dX1_upper_21 : decode cX1_upper 21 = .ok (.istore 5, 2) := by decide +kernel
theorem dX1_upper_23 : decode cX1_upper 23 = .ok (.sipush 1000, 3) := by decide +kernel
theorem dX1_upper_26 : decode cX1_upper 26 = .ok (.istore 6, 2) := by decide +kernel
theorem dX1_upper_28 : decode cX1_upper 28 = .ok (.iconst 0, 1) := by decide +kernel
theorem dX1_upper_29 : decode cX1_upper 29 = .ok (.istore 7, 2) := by decide +kernel
theorem dX1_upper_31 : decode cX1_upper 31 = .ok (.iload 5, 2) := by decide +kernel
theorem dX1_upper_33 : decode cX1_upper 33 = .ok (.iload 6, 2) := by decide +kernel
theorem dX1_upper_35 : decode cX1_upper 35 = .ok (.if_icmp .ge 75, 3) := by decide +kernel
theorem dX1_upper_38 : decode cX1_upper 38 = .ok (.iload 7, 2) := by decide +kernel
theorem dX1_upper_40 : decode cX1_upper 40 = .ok (.sipush 1000, 3) := by decide +kernel
theorem dX1_upper_43 : decode cX1_upper 43 = .ok (.if_icmp .ge 67, 3) := by decide +kernel
theorem dX1_upper_46 : decode cX1_upper 46 = .ok (.iload 5, 2) := by decide +kernel
theorem dX1_upper_48 : decode cX1_upper 48 = .ok (.iload 6, 2) := by decide +kernel
theorem dX1_upper_50 : decode cX1_upper 50 = .ok (.iadd, 1) := by decide +kernel
theorem dX1_upper_51 : decode cX1_upper 51 = .ok (.iconst 2, 1) := by decide +kernel
theorem dX1_upper_52 : decode cX1_upper 52 = .ok (.idiv, 1) := by decide +kernel
theorem dX1_upper_53 : decode cX1_upper 53 = .ok (.istore 8, 2) := by decide +kernel
theorem dX1_upper_55 : decode cX1_upper 55 = .ok (.aload_n 0, 1) := by decide +kernel
theorem dX1_upper_56 : decode cX1_upper 56 = .ok (.iload_n 1, 1) := by decide +kernel
theorem dX1_upper_57 : decode cX1_upper 57 = .ok (.iload_n 2, 1) := by decide +kernel
theorem dX1_upper_58 : decode cX1_upper 58 = .ok (.iload 8, 2) := by decide +kernel
theorem dX1_upper_60 : decode cX1_upper 60 = .ok (.sipush 1000, 3) := by decide +kernel
theorem dX1_upper_63 : decode cX1_upper 63 = .ok (.iconst 1, 1) := by decide +kernel
theorem dX1_upper_64 : decode cX1_upper 64 = .ok (.invokevirtual 22, 3) := by decide +kernel
theorem dX1_upper_67 : decode cX1_upper 67 = .ok (.aload_n 0, 1) := by decide +kernel
theorem dX1_upper_68 : decode cX1_upper 68 = .ok (.getfield 10, 3) := by decide +kernel
theorem dX1_upper_71 : decode cX1_upper 71 = .ok (.iload 4, 2) := by decide +kernel
theorem dX1_upper_73 : decode cX1_upper 73 = .ok (.i2l, 1) := by decide +kernel
theorem dX1_upper_74 : decode cX1_upper 74 = .ok (.invokevirtual 38, 3) := by decide +kernel
theorem dX1_upper_77 : decode cX1_upper 77 = .ok (.aload_n 0, 1) := by decide +kernel
theorem dX1_upper_78 : decode cX1_upper 78 = .ok (.getfield 10, 3) := by decide +kernel
theorem dX1_upper_81 : decode cX1_upper 81 = .ok (.aload_n 0, 1) := by decide +kernel
theorem dX1_upper_82 : decode cX1_upper 82 = .ok (.getfield 19, 3) := by decide +kernel
theorem dX1_upper_85 : decode cX1_upper 85 = .ok (.invokevirtual 41, 3) := by decide +kernel
theorem dX1_upper_88 : decode cX1_upper 88 = .ok (.ifCond .gt 10, 3) := by decide +kernel
theorem dX1_upper_91 : decode cX1_upper 91 = .ok (.iload 8, 2) := by decide +kernel
theorem dX1_upper_93 : decode cX1_upper 93 = .ok (.istore 6, 2) := by decide +kernel
theorem dX1_upper_95 : decode cX1_upper 95 = .ok (.goto 9, 3) := by decide +kernel
theorem dX1_upper_98 : decode cX1_upper 98 = .ok (.iload 8, 2) := by decide +kernel
theorem dX1_upper_100 : decode cX1_upper 100 = .ok (.iconst 1, 1) := by decide +kernel
theorem dX1_upper_101 : decode cX1_upper 101 = .ok (.iadd, 1) := by decide +kernel
theorem dX1_upper_102 : decode cX1_upper 102 = .ok (.istore 5, 2) := by decide +kernel
theorem dX1_upper_104 : decode cX1_upper 104 = .ok (.iinc 7 1, 3) := by decide +kernel
theorem dX1_upper_107 : decode cX1_upper 107 = .ok (.goto (-76), 3) := by decide +kernel
theorem dX1_upper_110 : decode cX1_upper 110 = .ok (.iload 5, 2) := by decide +kernel
theorem dX1_upper_112 : decode cX1_upper 112 = .ok (.ireturn, 1) := by decide +kernel
set_option maxRecDepth 20000 in
theorem ggX1_lower_X1_upper : GoodIn wsX1_lower wsX1_upper := goodIn_r _ [5, 6, 7, 8, 9, 10, 11, 12, 13, 14, 15, 16, 17, 18, 19, 20, 21, 22, 23, 24, 25, 26, 27, 4, 28, 29, 30, 31, 32, 33, 34, 35, 36, 37, 38, 39, 40, 41, 42, 43, 44, 45, 46, 47, 48, 49, 50, 51, 52, 53, 54] (by decide +kernel) (by decide +kernel)
set_option maxRecDepth 20000 in
theorem gX1_lower_X1_upper : GoodIn wsX1_lower (wsV RX1 47 RX1 yX1_upper wsX1_upper) := goodIn_app (goodIn_of _ (by decide +kernel)) ggX1_lower_X1_upper
theorem dX1_lower_0 : decode cX1_lower 0 = .ok (.sipush 1000, 3) := by decide +kernel
theorem dX1_lower_3 : decode cX1_lower 3 = .ok (.aload_n 0, 1) := by decide +kernel
theorem dX1_lower_4 : decode cX1_lower 4 = .ok (.iload_n 1, 1) := by decide +kernel
theorem dX1_lower_5 : decode cX1_lower 5 = .ok (.iload_n 1, 1) := by decide +kernel
theorem dX1_lower_6 : decode cX1_lower 6 = .ok (.iload_n 2, 1) := by decide +kernel
theorem dX1_lower_7 : decode cX1_lower 7 = .ok (.isub, 1) := by decide +kernel
theorem dX1_lower_8 : decode cX1_lower 8 = .ok (.iload_n 3, 1) := by decide +kernel
theorem dX1_lower_9 : decode cX1_lower 9 = .ok (.iload 4, 2) := by decide +kernel
theorem dX1_lower_11 : decode cX1_lower 11 = .ok (.invokevirtual 47, 3) := by decide +kernel
theorem dX1_lower_14 : decode cX1_lower 14 = .ok (.isub, 1) := by decide +kernel
theorem dX1_lower_15 : decode cX1_lower 15 = .ok (.ireturn, 1) := by decide +kernel
set_option maxRecDepth 20000 in
theorem ggX1_sumUp_X1_sumOfAtLeast : GoodIn wsX1_sumUp wsX1_sumOfAtLeast := goodIn_r _ [5, 6, 7, 8, 9, 10, 11, 12, 13, 14, 15, 16, 17, 18, 19, 20, 21, 22, 23, 24, 25, 26, 27, 28, 29, 30, 31, 32, 33, 34, 35, 36, 37, 38, 39, 40] (by decide +kernel) (by decide +kernel)
set_option maxRecDepth 20000 in
theorem gX1_sumUp_X1_sumOfAtLeast : GoodIn wsX1_sumUp (wsV RX1 51 RX1 yX1_sumOfAtLeast wsX1_sumOfAtLeast) := goodIn_app (goodIn_of _ (by decide +kernel)) ggX1_sumUp_X1_sumOfAtLeast
theorem dX1_sumUp_0 : decode cX1_sumUp 0 = .ok (.iload 5, 2) := by decide +kernel
theorem dX1_sumUp_2 : decode cX1_sumUp 2 = .ok (.ifCond .ne 17, 3) := by decide +kernel
theorem dX1_sumUp_5 : decode cX1_sumUp 5 = .ok (.aload_n 0, 1) := by decide +kernel
theorem dX1_sumUp_6 : decode cX1_sumUp 6 = .ok (.iload_n 1, 1) := by decide +kernel
theorem dX1_sumUp_7 : decode cX1_sumUp 7 = .ok (.iload_n 2, 1) := by decide +kernel
theorem dX1_sumUp_8 : decode cX1_sumUp 8 = .ok (.iload_n 3, 1) := by decide +kernel
theorem dX1_sumUp_9 : decode cX1_sumUp 9 = .ok (.iload 4, 2) := by decide +kernel
theorem dX1_sumUp_11 : decode cX1_sumUp 11 = .ok (.iload_n 3, 1) := by decide +kernel
theorem dX1_sumUp_12 : decode cX1_sumUp 12 = .ok (.isub, 1) := by decide +kernel
theorem dX1_sumUp_13 : decode cX1_sumUp 13 = .ok (.invokevirtual 51, 3) := by decide +kernel
theorem dX1_sumUp_16 : decode cX1_sumUp 16 = .ok (.goto 16, 3) := by decide +kernel
theorem dX1_sumUp_19 : decode cX1_sumUp 19 = .ok (.aload_n 0, 1) := by decide +kernel
theorem dX1_sumUp_20 : decode cX1_sumUp 20 = .ok (.iload_n 1, 1) := by decide +kernel
theorem dX1_sumUp_21 : decode cX1_sumUp 21 = .ok (.iload_n 1, 1) := by decide +kernel
theorem dX1_sumUp_22 : decode cX1_sumUp 22 = .ok (.iload_n 2, 1) := by decide +kernel
theorem dX1_sumUp_23 : decode cX1_sumUp 23 = .ok (.isub, 1) := by decide +kernel
theorem dX1_sumUp_24 : decode cX1_sumUp 24 = .ok (.iload 4, 2) := by decide +kernel
theorem dX1_sumUp_26 : decode cX1_sumUp 26 = .ok (.iload_n 3, 1) := by decide +kernel
theorem dX1_sumUp_27 : decode cX1_sumUp 27 = .ok (.isub, 1) := by decide +kernel
theorem dX1_sumUp_28 : decode cX1_sumUp 28 = .ok (.iload_n 3, 1) := by decide +kernel
theorem dX1_sumUp_29 : decode cX1_sumUp 29 = .ok (.invokevirtual 51, 3) := by decide +kernel
theorem dX1_sumUp_32 : decode cX1_sumUp 32 = .ok (.return_, 1) := by decide +kernel
set_option maxRecDepth 20000 in
theorem ggX1_sumOfAtLeast_X9_become : GoodIn wsX1_sumOfAtLeast wsX9_become := goodIn_r _ [7, 8, 9, 10, 34, 35] (by decide +kernel) (by decide +kernel)
set_option maxRecDepth 20000 in
theorem gX1_sumOfAtLeast_X9_become : GoodIn wsX1_sumOfAtLeast (wsV RX1 30 RX9 yX9_become wsX9_become) := goodIn_app (goodIn_of _ (by decide +kernel)) ggX1_sumOfAtLeast_X9_become
set_option maxRecDepth 20000 in
theorem ggX1_sumOfAtLeast_X9_multiply : GoodIn wsX1_sumOfAtLeast wsX9_multiply := goodIn_r _ [14, 10, 8, 9, 34, 35] (by decide +kernel) (by decide +kernel)
set_option maxRecDepth 20000 in
theorem gX1_sumOfAtLeast_X9_multiply : GoodIn wsX1_sumOfAtLeast (wsV RX1 38 RX9 yX9_multiply wsX9_multiply) := goodIn_app (goodIn_of _ (by decide +kernel)) ggX1_sumOfAtLeast_X9_multiply
set_option maxRecDepth 20000 in
theorem ggX1_sumOfAtLeast_X9_addTimes : GoodIn wsX1_sumOfAtLeast wsX9_addTimes := goodIn_r _ [18, 10, 19, 20, 21, 22, 23, 24, 25, 8, 9, 34, 35] (by decide +kernel) (by decide +kernel)
set_option maxRecDepth 20000 in
theorem gX1_sumOfAtLeast_X9_addTimes : GoodIn wsX1_sumOfAtLeast (wsV RX1 55 RX9 yX9_addTimes wsX9_addTimes) := goodIn_app (goodIn_of _ (by decide +kernel)) ggX1_sumOfAtLeast_X9_addTimes
set_option maxRecDepth 20000 in
theorem ggX1_sumOfAtLeast_X9_multiplyOften : GoodIn wsX1_sumOfAtLeast wsX9_multiplyOften := goodIn_r _ [29, 30, 12, 13, 6, 14, 10, 8, 9, 34, 35] (by decide +kernel) (by decide +kernel)
set_option maxRecDepth 20000 in
theorem gX1_sumOfAtLeast_X9_multiplyOften : GoodIn wsX1_sumOfAtLeast (wsV RX1 34 RX9 yX9_multiplyOften wsX9_multiplyOften) := goodIn_app (goodIn_of _ (by decide +kernel)) ggX1_sumOfAtLeast_X9_multiplyOften
theorem dX1_sumOfAtLeast_0 : decode cX1_sumOfAtLeast 0 = .ok (.aload_n 0, 1) := by decide +kernel
theorem dX1_sumOfAtLeast_1 : decode cX1_sumOfAtLeast 1 = .ok (.getfield 10, 3) := by decide +kernel
theorem dX1_sumOfAtLeast_4 : decode cX1_sumOfAtLeast 4 = .ok (.lconst 0, 1) := by decide +kernel
theorem dX1_sumOfAtLeast_5 : decode cX1_sumOfAtLeast 5 = .ok (.invokevirtual 30, 3) := by decide +kernel
theorem dX1_sumOfAtLeast_8 : decode cX1_sumOfAtLeast 8 = .ok (.aload_n 0, 1) := by decide +kernel
theorem dX1_sumOfAtLeast_9 : decode cX1_sumOfAtLeast 9 = .ok (.getfield 16, 3) := by decide +kernel
theorem dX1_sumOfAtLeast_12 : decode cX1_sumOfAtLeast 12 = .ok (.lconst 1, 1) := by decide +kernel
theorem dX1_sumOfAtLeast_13 : decode cX1_sumOfAtLeast 13 = .ok (.invokevirtual 30, 3) := by decide +kernel
theorem dX1_sumOfAtLeast_16 : decode cX1_sumOfAtLeast 16 = .ok (.lconst 1, 1) := by decide +kernel
theorem dX1_sumOfAtLeast_17 : decode cX1_sumOfAtLeast 17 = .ok (.lstore 5, 2) := by decide +kernel
theorem dX1_sumOfAtLeast_19 : decode cX1_sumOfAtLeast 19 = .ok (.iconst 0, 1) := by decide +kernel
theorem dX1_sumOfAtLeast_20 : decode cX1_sumOfAtLeast 20 = .ok (.istore 7, 2) := by decide +kernel
theorem dX1_sumOfAtLeast_22 : decode cX1_sumOfAtLeast 22 = .ok (.iload 7, 2) := by decide +kernel
theorem dX1_sumOfAtLeast_24 : decode cX1_sumOfAtLeast 24 = .ok (.iload_n 1, 1) := by decide +kernel
theorem dX1_sumOfAtLeast_25 : decode cX1_sumOfAtLeast 25 = .ok (.iload_n 2, 1) := by decide +kernel
theorem dX1_sumOfAtLeast_26 : decode cX1_sumOfAtLeast 26 = .ok (.isub, 1) := by decide +kernel
theorem dX1_sumOfAtLeast_27 : decode cX1_sumOfAtLeast 27 = .ok (.if_icmp .gt 57, 3) := by decide +kernel
theorem dX1_sumOfAtLeast_30 : decode cX1_sumOfAtLeast 30 = .ok (.aload_n 0, 1) := by decide +kernel
theorem dX1_sumOfAtLeast_31 : decode cX1_sumOfAtLeast 31 = .ok (.getfield 10, 3) := by decide +kernel
theorem dX1_sumOfAtLeast_34 : decode cX1_sumOfAtLeast 34 = .ok (.iload_n 3, 1) := by decide +kernel
theorem dX1_sumOfAtLeast_35 : decode cX1_sumOfAtLeast 35 = .ok (.i2l, 1) := by decide +kernel
theorem dX1_sumOfAtLeast_36 : decode cX1_sumOfAtLeast 36 = .ok (.invokevirtual 38, 3) := by decide +kernel
theorem dX1_sumOfAtLeast_39 : decode cX1_sumOfAtLeast 39 = .ok (.aload_n 0, 1) := by decide +kernel
theorem dX1_sumOfAtLeast_40 : decode cX1_sumOfAtLeast 40 = .ok (.getfield 10, 3) := by decide +kernel
theorem dX1_sumOfAtLeast_43 : decode cX1_sumOfAtLeast 43 = .ok (.aload_n 0, 1) := by decide +kernel
theorem dX1_sumOfAtLeast_44 : decode cX1_sumOfAtLeast 44 = .ok (.getfield 16, 3) := by decide +kernel
theorem dX1_sumOfAtLeast_47 : decode cX1_sumOfAtLeast 47 = .ok (.lload 5, 2) := by decide +kernel
theorem dX1_sumOfAtLeast_49 : decode cX1_sumOfAtLeast 49 = .ok (.invokevirtual 55, 3) := by decide +kernel
theorem dX1_sumOfAtLeast_52 : decode cX1_sumOfAtLeast 52 = .ok (.aload_n 0, 1) := by decide +kernel
theorem dX1_sumOfAtLeast_53 : decode cX1_sumOfAtLeast 53 = .ok (.getfield 16, 3) := by decide +kernel
theorem dX1_sumOfAtLeast_56 : decode cX1_sumOfAtLeast 56 = .ok (.iload 4, 2) := by decide +kernel
theorem dX1_sumOfAtLeast_58 : decode cX1_sumOfAtLeast 58 = .ok (.i2l, 1) := by decide +kernel
theorem dX1_sumOfAtLeast_59 : decode cX1_sumOfAtLeast 59 = .ok (.invokevirtual 38, 3) := by decide +kernel
theorem dX1_sumOfAtLeast_62 : decode cX1_sumOfAtLeast 62 = .ok (.lload 5, 2) := by decide +kernel
theorem dX1_sumOfAtLeast_64 : decode cX1_sumOfAtLeast 64 = .ok (.iload_n 1, 1) := by decide +kernel
theorem dX1_sumOfAtLeast_65 : decode cX1_sumOfAtLeast 65 = .ok (.iload 7, 2) := by decide +kernel
theorem dX1_sumOfAtLeast_67 : decode cX1_sumOfAtLeast 67 = .ok (.isub, 1) := by decide +kernel
theorem dX1_sumOfAtLeast_68 : decode cX1_sumOfAtLeast 68 = .ok (.i2l, 1) := by decide +kernel
theorem dX1_sumOfAtLeast_69 : decode cX1_sumOfAtLeast 69 = .ok (.lmul, 1) := by decide +kernel
theorem dX1_sumOfAtLeast_70 : decode cX1_sumOfAtLeast 70 = .ok (.iload 7, 2) := by decide +kernel
theorem dX1_sumOfAtLeast_72 : decode cX1_sumOfAtLeast 72 = .ok (.iconst 1, 1) := by decide +kernel
theorem dX1_sumOfAtLeast_73 : decode cX1_sumOfAtLeast 73 = .ok (.iadd, 1) := by decide +kernel
theorem dX1_sumOfAtLeast_74 : decode cX1_sumOfAtLeast 74 = .ok (.i2l, 1) := by decide +kernel
theorem dX1_sumOfAtLeast_75 : decode cX1_sumOfAtLeast 75 = .ok (.ldiv, 1) := by decide +kernel
theorem dX1_sumOfAtLeast_76 : decode cX1_sumOfAtLeast 76 = .ok (.lstore 5, 2) := by decide +kernel
theorem dX1_sumOfAtLeast_78 : decode cX1_sumOfAtLeast 78 = .ok (.iinc 7 1, 3) := by decide +kernel
theorem dX1_sumOfAtLeast_81 : decode cX1_sumOfAtLeast 81 = .ok (.goto (-59), 3) := by decide +kernel
theorem dX1_sumOfAtLeast_84 : decode cX1_sumOfAtLeast 84 = .ok (.aload_n 0, 1) := by decide +kernel
theorem dX1_sumOfAtLeast_85 : decode cX1_sumOfAtLeast 85 = .ok (.getfield 10, 3) := by decide +kernel
theorem dX1_sumOfAtLeast_88 : decode cX1_sumOfAtLeast 88 = .ok (.iload_n 3, 1) := by decide +kernel
theorem dX1_sumOfAtLeast_89 : decode cX1_sumOfAtLeast 89 = .ok (.i2l, 1) := by decide +kernel
theorem dX1_sumOfAtLeast_90 : decode cX1_sumOfAtLeast 90 = .ok (.iload_n 2, 1) := by decide +kernel
theorem dX1_sumOfAtLeast_91 : decode cX1_sumOfAtLeast 91 = .ok (.invokevirtual 34, 3) := by decide +kernel
theorem dX1_sumOfAtLeast_94 : decode cX1_sumOfAtLeast 94 = .ok (.return_, 1) := by decide +kernel
set_option maxRecDepth 20000 in
theorem ggX2_init_X4_init : GoodIn wsX2_init wsX4_init := goodIn_r _ [14, 15, 2, 3, 16, 17, 22, 23] (by decide +kernel) (by decide +kernel)
set_option maxRecDepth 20000 in
theorem gX2_init_X4_init : GoodIn wsX2_init (wsX4_init) := ggX2_init_X4_init
theorem dX2_init_0 : decode cX2_init 0 = .ok (.aload_n 0, 1) := by decide +kernel
theorem dX2_init_1 : decode cX2_init 1 = .ok (.invokespecial 1, 3) := by decide +kernel
theorem dX2_init_4 : decode cX2_init 4 = .ok (.aload_n 0, 1) := by decide +kernel
theorem dX2_init_5 : decode cX2_init 5 = .ok (.bipush 60, 2) := by decide +kernel
theorem dX2_init_7 : decode cX2_init 7 = .ok (.newarray .long, 2) := by decide +kernel
theorem dX2_init_9 : decode cX2_init 9 = .ok (.putfield 9, 3) := by decide +kernel
theorem dX2_init_12 : decode cX2_init 12 = .ok (.aload_n 0, 1) := by decide +kernel
theorem dX2_init_13 : decode cX2_init 13 = .ok (.bipush 60, 2) := by decide +kernel
theorem dX2_init_15 : decode cX2_init 15 = .ok (.newarray .long, 2) := by decide +kernel
theorem dX2_init_17 : decode cX2_init 17 = .ok (.putfield 13, 3) := by decide +kernel
theorem dX2_init_20 : decode cX2_init 20 = .ok (.aload_n 0, 1) := by decide +kernel
theorem dX2_init_21 : decode cX2_init 21 = .ok (.new 16, 3) := by decide +kernel
theorem dX2_init_24 : decode cX2_init 24 = .ok (.dup, 1) := by decide +kernel
theorem dX2_init_25 : decode cX2_init 25 = .ok (.invokespecial 18, 3) := by decide +kernel
theorem dX2_init_28 : decode cX2_init 28 = .ok (.putfield 19, 3) := by decide +kernel
theorem dX2_init_31 : decode cX2_init 31 = .ok (.aload_n 0, 1) := by decide +kernel
theorem dX2_init_32 : decode cX2_init 32 = .ok (.iconst 0, 1) := by decide +kernel
theorem dX2_init_33 : decode cX2_init 33 = .ok (.putfield 23, 3) := by decide +kernel
theorem dX2_init_36 : decode cX2_init 36 = .ok (.return_, 1) := by decide +kernel
theorem dX2_size_0 : decode cX2_size 0 = .ok (.aload_n 0, 1) := by decide +kernel
theorem dX2_size_1 : decode cX2_size 1 = .ok (.getfield 23, 3) := by decide +kernel
theorem dX2_size_4 : decode cX2_size 4 = .ok (.ireturn, 1) := by decide +kernel
theorem dX2_empty_0 : decode cX2_empty 0 = .ok (.aload_n 0, 1) := by decide +kernel
theorem dX2_empty_1 : decode cX2_empty 1 = .ok (.iconst 0, 1) := by decide +kernel
theorem dX2_empty_2 : decode cX2_empty 2 = .ok (.putfield 23, 3) := by decide +kernel
theorem dX2_empty_5 : decode cX2_empty 5 = .ok (.return_, 1) := by decide +kernel
set_option maxRecDepth 20000 in
theorem ggX2_drawAnew_X8_size : GoodIn wsX2_drawAnew wsX8_size := goodIn_r _ [9, 10, 55, 56, 57] (by decide +kernel) (by decide +kernel)
set_option maxRecDepth 20000 in
theorem gX2_drawAnew_X8_size : GoodIn wsX2_drawAnew (wsV RX2 27 RX8 yX8_size wsX8_size) := goodIn_app (goodIn_of _ (by decide +kernel)) ggX2_drawAnew_X8_size
set_option maxRecDepth 20000 in
theorem ggX2_drawAnew_X8_difference : GoodIn wsX2_drawAnew wsX8_difference := goodIn_r _ [14, 10, 15, 55, 56, 57] (by decide +kernel) (by decide +kernel)
set_option maxRecDepth 20000 in
theorem gX2_drawAnew_X8_difference : GoodIn wsX2_drawAnew (wsV RX2 37 RX8 yX8_difference wsX8_difference) := goodIn_app (goodIn_of _ (by decide +kernel)) ggX2_drawAnew_X8_difference
set_option maxRecDepth 20000 in
theorem ggX2_drawAnew_X8_rowsOf : GoodIn wsX2_drawAnew wsX8_rowsOf := goodIn_r _ [19, 10, 20, 55, 56, 57] (by decide +kernel) (by decide +kernel)
set_option maxRecDepth 20000 in
theorem gX2_drawAnew_X8_rowsOf : GoodIn wsX2_drawAnew (wsV RX2 41 RX8 yX8_rowsOf wsX8_rowsOf) := goodIn_app (goodIn_of _ (by decide +kernel)) ggX2_drawAnew_X8_rowsOf
set_option maxRecDepth 20000 in
theorem ggX2_drawAnew_X4_become : GoodIn wsX2_drawAnew wsX4_become := goodIn_r _ [25, 26, 27, 28, 29, 30, 31, 32, 33, 34, 35, 58, 59] (by decide +kernel) (by decide +kernel)
set_option maxRecDepth 20000 in
theorem gX2_drawAnew_X4_become : GoodIn wsX2_drawAnew (wsV RX2 44 RX4 yX4_become wsX4_become) := goodIn_app (goodIn_of _ (by decide +kernel)) ggX2_drawAnew_X4_become
set_option maxRecDepth 20000 in
theorem ggX2_drawAnew_X2_insertMean : GoodIn wsX2_drawAnew wsX2_insertMean := goodIn_r _ [40, 1, 4, 41, 42, 43, 44, 45, 24, 46, 30, 31, 47, 48, 49, 50, 51, 52, 53, 54, 58, 59] (by decide +kernel) (by decide +kernel)
set_option maxRecDepth 20000 in
theorem gX2_drawAnew_X2_insertMean : GoodIn wsX2_drawAnew (wsV RX2 48 RX2 yX2_insertMean wsX2_insertMean) := goodIn_app (goodIn_of _ (by decide +kernel)) ggX2_drawAnew_X2_insertMean
theorem dX2_drawAnew_0 : decode cX2_drawAnew 0 = .ok (.aload 4, 2) := by decide +kernel
theorem dX2_drawAnew_2 : decode cX2_drawAnew 2 = .ok (.invokevirtual 27, 3) := by decide +kernel
theorem dX2_drawAnew_5 : decode cX2_drawAnew 5 = .ok (.istore 5, 2) := by decide +kernel
theorem dX2_drawAnew_7 : decode cX2_drawAnew 7 = .ok (.iload 5, 2) := by decide +kernel
theorem dX2_drawAnew_9 : decode cX2_drawAnew 9 = .ok (.ifCond .gt 4, 3) := by decide +kernel
theorem dX2_drawAnew_12 : decode cX2_drawAnew 12 = .ok (.return_, 1) := by decide +kernel
theorem dX2_drawAnew_13 : decode cX2_drawAnew 13 = .ok (.aload_n 0, 1) := by decide +kernel
theorem dX2_drawAnew_14 : decode cX2_drawAnew 14 = .ok (.iconst 0, 1) := by decide +kernel
theorem dX2_drawAnew_15 : decode cX2_drawAnew 15 = .ok (.putfield 23, 3) := by decide +kernel
theorem dX2_drawAnew_18 : decode cX2_drawAnew 18 = .ok (.lload_n 1, 1) := by decide +kernel
theorem dX2_drawAnew_19 : decode cX2_drawAnew 19 = .ok (.lstore 6, 2) := by decide +kernel
theorem dX2_drawAnew_21 : decode cX2_drawAnew 21 = .ok (.iconst 0, 1) := by decide +kernel
theorem dX2_drawAnew_22 : decode cX2_drawAnew 22 = .ok (.istore 8, 2) := by decide +kernel
theorem dX2_drawAnew_24 : decode cX2_drawAnew 24 = .ok (.iload 8, 2) := by decide +kernel
theorem dX2_drawAnew_26 : decode cX2_drawAnew 26 = .ok (.iload_n 3, 1) := by decide +kernel
theorem dX2_drawAnew_27 : decode cX2_drawAnew 27 = .ok (.if_icmp .ge 96, 3) := by decide +kernel
theorem dX2_drawAnew_30 : decode cX2_drawAnew 30 = .ok (.lconst 0, 1) := by decide +kernel
theorem dX2_drawAnew_31 : decode cX2_drawAnew 31 = .ok (.lstore 9, 2) := by decide +kernel
theorem dX2_drawAnew_33 : decode cX2_drawAnew 33 = .ok (.lconst 0, 1) := by decide +kernel
theorem dX2_drawAnew_34 : decode cX2_drawAnew 34 = .ok (.lstore 11, 2) := by decide +kernel
theorem dX2_drawAnew_36 : decode cX2_drawAnew 36 = .ok (.iconst 0, 1) := by decide +kernel
theorem dX2_drawAnew_37 : decode cX2_drawAnew 37 = .ok (.istore 13, 2) := by decide +kernel
theorem dX2_drawAnew_39 : decode cX2_drawAnew 39 = .ok (.iload 13, 2) := by decide +kernel
theorem dX2_drawAnew_41 : decode cX2_drawAnew 41 = .ok (.iload 5, 2) := by decide +kernel
theorem dX2_drawAnew_43 : decode cX2_drawAnew 43 = .ok (.if_icmp .ge 59, 3) := by decide +kernel
theorem dX2_drawAnew_46 : decode cX2_drawAnew 46 = .ok (.lload 6, 2) := by decide +kernel
theorem dX2_drawAnew_48 : decode cX2_drawAnew 48 = .ok (.ldc2_w 33, 3) := by decide +kernel
theorem dX2_drawAnew_51 : decode cX2_drawAnew 51 = .ok (.lmul, 1) := by decide +kernel
theorem dX2_drawAnew_52 : decode cX2_drawAnew 52 = .ok (.ldc2_w 35, 3) := by decide +kernel
theorem dX2_drawAnew_55 : decode cX2_drawAnew 55 = .ok (.ladd, 1) := by decide +kernel
theorem dX2_drawAnew_56 : decode cX2_drawAnew 56 = .ok (.lstore 6, 2) := by decide +kernel
theorem dX2_drawAnew_58 : decode cX2_drawAnew 58 = .ok (.lload 6, 2) := by decide +kernel
theorem dX2_drawAnew_60 : decode cX2_drawAnew 60 = .ok (.bipush 33, 2) := by decide +kernel
theorem dX2_drawAnew_62 : decode cX2_drawAnew 62 = .ok (.lushr, 1) := by decide +kernel
theorem dX2_drawAnew_63 : decode cX2_drawAnew 63 = .ok (.iload 5, 2) := by decide +kernel
theorem dX2_drawAnew_65 : decode cX2_drawAnew 65 = .ok (.i2l, 1) := by decide +kernel
theorem dX2_drawAnew_66 : decode cX2_drawAnew 66 = .ok (.lrem, 1) := by decide +kernel
theorem dX2_drawAnew_67 : decode cX2_drawAnew 67 = .ok (.l2i, 1) := by decide +kernel
theorem dX2_drawAnew_68 : decode cX2_drawAnew 68 = .ok (.istore 14, 2) := by decide +kernel
theorem dX2_drawAnew_70 : decode cX2_drawAnew 70 = .ok (.lload 9, 2) := by decide +kernel
theorem dX2_drawAnew_72 : decode cX2_drawAnew 72 = .ok (.aload 4, 2) := by decide +kernel
theorem dX2_drawAnew_74 : decode cX2_drawAnew 74 = .ok (.iload 14, 2) := by decide +kernel
theorem dX2_drawAnew_76 : decode cX2_drawAnew 76 = .ok (.invokevirtual 37, 3) := by decide +kernel
theorem dX2_drawAnew_79 : decode cX2_drawAnew 79 = .ok (.i2l, 1) := by decide +kernel
theorem dX2_drawAnew_80 : decode cX2_drawAnew 80 = .ok (.ladd, 1) := by decide +kernel
theorem dX2_drawAnew_81 : decode cX2_drawAnew 81 = .ok (.lstore 9, 2) := by decide +kernel
theorem dX2_drawAnew_83 : decode cX2_drawAnew 83 = .ok (.lload 11, 2) := by decide +kernel
theorem dX2_drawAnew_85 : decode cX2_drawAnew 85 = .ok (.aload 4, 2) := by decide +kernel
theorem dX2_drawAnew_87 : decode cX2_drawAnew 87 = .ok (.iload 14, 2) := by decide +kernel
theorem dX2_drawAnew_89 : decode cX2_drawAnew 89 = .ok (.invokevirtual 41, 3) := by decide +kernel
theorem dX2_drawAnew_92 : decode cX2_drawAnew 92 = .ok (.i2l, 1) := by decide +kernel
theorem dX2_drawAnew_93 : decode cX2_drawAnew 93 = .ok (.ladd, 1) := by decide +kernel
theorem dX2_drawAnew_94 : decode cX2_drawAnew 94 = .ok (.lstore 11, 2) := by decide +kernel
theorem dX2_drawAnew_96 : decode cX2_drawAnew 96 = .ok (.iinc 13 1, 3) := by decide +kernel
theorem dX2_drawAnew_99 : decode cX2_drawAnew 99 = .ok (.goto (-60), 3) := by decide +kernel
theorem dX2_drawAnew_102 : decode cX2_drawAnew 102 = .ok (.aload_n 0, 1) := by decide +kernel
theorem dX2_drawAnew_103 : decode cX2_drawAnew 103 = .ok (.getfield 19, 3) := by decide +kernel
theorem dX2_drawAnew_106 : decode cX2_drawAnew 106 = .ok (.lload 9, 2) := by decide +kernel
theorem dX2_drawAnew_108 : decode cX2_drawAnew 108 = .ok (.lload 11, 2) := by decide +kernel
theorem dX2_drawAnew_110 : decode cX2_drawAnew 110 = .ok (.invokevirtual 44, 3) := by decide +kernel
theorem dX2_drawAnew_113 : decode cX2_drawAnew 113 = .ok (.aload_n 0, 1) := by decide +kernel
theorem dX2_drawAnew_114 : decode cX2_drawAnew 114 = .ok (.invokevirtual 48, 3) := by decide +kernel
theorem dX2_drawAnew_117 : decode cX2_drawAnew 117 = .ok (.iinc 8 1, 3) := by decide +kernel
theorem dX2_drawAnew_120 : decode cX2_drawAnew 120 = .ok (.goto (-96), 3) := by decide +kernel
theorem dX2_drawAnew_123 : decode cX2_drawAnew 123 = .ok (.return_, 1) := by decide +kernel
set_option maxRecDepth 20000 in
theorem ggX2_insertMean_X4_isBelow : GoodIn wsX2_insertMean wsX4_isBelow := goodIn_r _ [9, 10, 11, 20, 21] (by decide +kernel) (by decide +kernel)
set_option maxRecDepth 20000 in
theorem gX2_insertMean_X4_isBelow : GoodIn wsX2_insertMean (wsV RX2 51 RX4 yX4_isBelow wsX4_isBelow) := goodIn_app (goodIn_of _ (by decide +kernel)) ggX2_insertMean_X4_isBelow
set_option maxRecDepth 20000 in
theorem ggX2_insertMean_X4_told : GoodIn wsX2_insertMean wsX4_told := goodIn_r _ [15, 10, 11, 20, 21] (by decide +kernel) (by decide +kernel)
set_option maxRecDepth 20000 in
theorem gX2_insertMean_X4_told : GoodIn wsX2_insertMean (wsV RX2 55 RX4 yX4_told wsX4_told) := goodIn_app (goodIn_of _ (by decide +kernel)) ggX2_insertMean_X4_told
theorem dX2_insertMean_0 : decode cX2_insertMean 0 = .ok (.aload_n 0, 1) := by decide +kernel
theorem dX2_insertMean_1 : decode cX2_insertMean 1 = .ok (.getfield 23, 3) := by decide +kernel
theorem dX2_insertMean_4 : decode cX2_insertMean 4 = .ok (.bipush 60, 2) := by decide +kernel
theorem dX2_insertMean_6 : decode cX2_insertMean 6 = .ok (.if_icmp .lt 4, 3) := by decide +kernel
theorem dX2_insertMean_9 : decode cX2_insertMean 9 = .ok (.return_, 1) := by decide +kernel
theorem dX2_insertMean_10 : decode cX2_insertMean 10 = .ok (.aload_n 0, 1) := by decide +kernel
theorem dX2_insertMean_11 : decode cX2_insertMean 11 = .ok (.getfield 23, 3) := by decide +kernel
theorem dX2_insertMean_14 : decode cX2_insertMean 14 = .ok (.istore_n 1, 1) := by decide +kernel
theorem dX2_insertMean_15 : decode cX2_insertMean 15 = .ok (.iload_n 1, 1) := by decide +kernel
theorem dX2_insertMean_16 : decode cX2_insertMean 16 = .ok (.ifCond .le 63, 3) := by decide +kernel
theorem dX2_insertMean_19 : decode cX2_insertMean 19 = .ok (.aload_n 0, 1) := by decide +kernel
theorem dX2_insertMean_20 : decode cX2_insertMean 20 = .ok (.getfield 19, 3) := by decide +kernel
theorem dX2_insertMean_23 : decode cX2_insertMean 23 = .ok (.aload_n 0, 1) := by decide +kernel
theorem dX2_insertMean_24 : decode cX2_insertMean 24 = .ok (.getfield 9, 3) := by decide +kernel
theorem dX2_insertMean_27 : decode cX2_insertMean 27 = .ok (.iload_n 1, 1) := by decide +kernel
theorem dX2_insertMean_28 : decode cX2_insertMean 28 = .ok (.iconst 1, 1) := by decide +kernel
theorem dX2_insertMean_29 : decode cX2_insertMean 29 = .ok (.isub, 1) := by decide +kernel
theorem dX2_insertMean_30 : decode cX2_insertMean 30 = .ok (.laload, 1) := by decide +kernel
theorem dX2_insertMean_31 : decode cX2_insertMean 31 = .ok (.aload_n 0, 1) := by decide +kernel
theorem dX2_insertMean_32 : decode cX2_insertMean 32 = .ok (.getfield 13, 3) := by decide +kernel
theorem dX2_insertMean_35 : decode cX2_insertMean 35 = .ok (.iload_n 1, 1) := by decide +kernel
theorem dX2_insertMean_36 : decode cX2_insertMean 36 = .ok (.iconst 1, 1) := by decide +kernel
theorem dX2_insertMean_37 : decode cX2_insertMean 37 = .ok (.isub, 1) := by decide +kernel
theorem dX2_insertMean_38 : decode cX2_insertMean 38 = .ok (.laload, 1) := by decide +kernel
theorem dX2_insertMean_39 : decode cX2_insertMean 39 = .ok (.invokevirtual 51, 3) := by decide +kernel
theorem dX2_insertMean_42 : decode cX2_insertMean 42 = .ok (.ifCond .eq 37, 3) := by decide +kernel
theorem dX2_insertMean_45 : decode cX2_insertMean 45 = .ok (.aload_n 0, 1) := by decide +kernel
theorem dX2_insertMean_46 : decode cX2_insertMean 46 = .ok (.getfield 9, 3) := by decide +kernel
theorem dX2_insertMean_49 : decode cX2_insertMean 49 = .ok (.iload_n 1, 1) := by decide +kernel
theorem dX2_insertMean_50 : decode cX2_insertMean 50 = .ok (.aload_n 0, 1) := by decide +kernel
theorem dX2_insertMean_51 : decode cX2_insertMean 51 = .ok (.getfield 9, 3) := by decide +kernel
theorem dX2_insertMean_54 : decode cX2_insertMean 54 = .ok (.iload_n 1, 1) := by decide +kernel
theorem dX2_insertMean_55 : decode cX2_insertMean 55 = .ok (.iconst 1, 1) := by decide +kernel
theorem dX2_insertMean_56 : decode cX2_insertMean 56 = .ok (.isub, 1) := by decide +kernel
theorem dX2_insertMean_57 : decode cX2_insertMean 57 = .ok (.laload, 1) := by decide +kernel
theorem dX2_insertMean_58 : decode cX2_insertMean 58 = .ok (.lastore, 1) := by decide +kernel
theorem dX2_insertMean_59 : decode cX2_insertMean 59 = .ok (.aload_n 0, 1) := by decide +kernel
theorem dX2_insertMean_60 : decode cX2_insertMean 60 = .ok (.getfield 13, 3) := by decide +kernel
theorem dX2_insertMean_63 : decode cX2_insertMean 63 = .ok (.iload_n 1, 1) := by decide +kernel
theorem dX2_insertMean_64 : decode cX2_insertMean 64 = .ok (.aload_n 0, 1) := by decide +kernel
theorem dX2_insertMean_65 : decode cX2_insertMean 65 = .ok (.getfield 13, 3) := by decide +kernel
theorem dX2_insertMean_68 : decode cX2_insertMean 68 = .ok (.iload_n 1, 1) := by decide +kernel
theorem dX2_insertMean_69 : decode cX2_insertMean 69 = .ok (.iconst 1, 1) := by decide +kernel
theorem dX2_insertMean_70 : decode cX2_insertMean 70 = .ok (.isub, 1) := by decide +kernel
theorem dX2_insertMean_71 : decode cX2_insertMean 71 = .ok (.laload, 1) := by decide +kernel
theorem dX2_insertMean_72 : decode cX2_insertMean 72 = .ok (.lastore, 1) := by decide +kernel
theorem dX2_insertMean_73 : decode cX2_insertMean 73 = .ok (.iinc 1 (-1), 3) := by decide +kernel
theorem dX2_insertMean_76 : decode cX2_insertMean 76 = .ok (.goto (-61), 3) := by decide +kernel
theorem dX2_insertMean_79 : decode cX2_insertMean 79 = .ok (.aload_n 0, 1) := by decide +kernel
theorem dX2_insertMean_80 : decode cX2_insertMean 80 = .ok (.getfield 9, 3) := by decide +kernel
theorem dX2_insertMean_83 : decode cX2_insertMean 83 = .ok (.iload_n 1, 1) := by decide +kernel
theorem dX2_insertMean_84 : decode cX2_insertMean 84 = .ok (.aload_n 0, 1) := by decide +kernel
theorem dX2_insertMean_85 : decode cX2_insertMean 85 = .ok (.getfield 19, 3) := by decide +kernel
theorem dX2_insertMean_88 : decode cX2_insertMean 88 = .ok (.iconst 0, 1) := by decide +kernel
theorem dX2_insertMean_89 : decode cX2_insertMean 89 = .ok (.invokevirtual 55, 3) := by decide +kernel
theorem dX2_insertMean_92 : decode cX2_insertMean 92 = .ok (.lastore, 1) := by decide +kernel
theorem dX2_insertMean_93 : decode cX2_insertMean 93 = .ok (.aload_n 0, 1) := by decide +kernel
theorem dX2_insertMean_94 : decode cX2_insertMean 94 = .ok (.getfield 13, 3) := by decide +kernel
theorem dX2_insertMean_97 : decode cX2_insertMean 97 = .ok (.iload_n 1, 1) := by decide +kernel
theorem dX2_insertMean_98 : decode cX2_insertMean 98 = .ok (.aload_n 0, 1) := by decide +kernel
theorem dX2_insertMean_99 : decode cX2_insertMean 99 = .ok (.getfield 19, 3) := by decide +kernel
theorem dX2_insertMean_102 : decode cX2_insertMean 102 = .ok (.iconst 1, 1) := by decide +kernel
theorem dX2_insertMean_103 : decode cX2_insertMean 103 = .ok (.invokevirtual 55, 3) := by decide +kernel
theorem dX2_insertMean_106 : decode cX2_insertMean 106 = .ok (.lastore, 1) := by decide +kernel
theorem dX2_insertMean_107 : decode cX2_insertMean 107 = .ok (.aload_n 0, 1) := by decide +kernel
theorem dX2_insertMean_108 : decode cX2_insertMean 108 = .ok (.dup, 1) := by decide +kernel
theorem dX2_insertMean_109 : decode cX2_insertMean 109 = .ok (.getfield 23, 3) := by decide +kernel
theorem dX2_insertMean_112 : decode cX2_insertMean 112 = .ok (.iconst 1, 1) := by decide +kernel
theorem dX2_insertMean_113 : decode cX2_insertMean 113 = .ok (.iadd, 1) := by decide +kernel
theorem dX2_insertMean_114 : decode cX2_insertMean 114 = .ok (.putfield 23, 3) := by decide +kernel
theorem dX2_insertMean_117 : decode cX2_insertMean 117 = .ok (.return_, 1) := by decide +kernel
theorem dX2_told_0 : decode cX2_told 0 = .ok (.iload_n 1, 1) := by decide +kernel
theorem dX2_told_1 : decode cX2_told 1 = .ok (.ifCond .lt 11, 3) := by decide +kernel
theorem dX2_told_4 : decode cX2_told 4 = .ok (.iload_n 1, 1) := by decide +kernel
theorem dX2_told_5 : decode cX2_told 5 = .ok (.aload_n 0, 1) := by decide +kernel
theorem dX2_told_6 : decode cX2_told 6 = .ok (.getfield 23, 3) := by decide +kernel
theorem dX2_told_9 : decode cX2_told 9 = .ok (.if_icmp .lt 5, 3) := by decide +kernel
theorem dX2_told_12 : decode cX2_told 12 = .ok (.lconst 0, 1) := by decide +kernel
theorem dX2_told_13 : decode cX2_told 13 = .ok (.lreturn, 1) := by decide +kernel
theorem dX2_told_14 : decode cX2_told 14 = .ok (.iload_n 2, 1) := by decide +kernel
theorem dX2_told_15 : decode cX2_told 15 = .ok (.ifCond .ne 12, 3) := by decide +kernel
theorem dX2_told_18 : decode cX2_told 18 = .ok (.aload_n 0, 1) := by decide +kernel
theorem dX2_told_19 : decode cX2_told 19 = .ok (.getfield 9, 3) := by decide +kernel
theorem dX2_told_22 : decode cX2_told 22 = .ok (.iload_n 1, 1) := by decide +kernel
theorem dX2_told_23 : decode cX2_told 23 = .ok (.laload, 1) := by decide +kernel
theorem dX2_told_24 : decode cX2_told 24 = .ok (.goto 9, 3) := by decide +kernel
theorem dX2_told_27 : decode cX2_told 27 = .ok (.aload_n 0, 1) := by decide +kernel
theorem dX2_told_28 : decode cX2_told 28 = .ok (.getfield 13, 3) := by decide +kernel
theorem dX2_told_31 : decode cX2_told 31 = .ok (.iload_n 1, 1) := by decide +kernel
theorem dX2_told_32 : decode cX2_told 32 = .ok (.laload, 1) := by decide +kernel
theorem dX2_told_33 : decode cX2_told 33 = .ok (.lreturn, 1) := by decide +kernel
theorem dX2_aboveZero_0 : decode cX2_aboveZero 0 = .ok (.iconst 0, 1) := by decide +kernel
theorem dX2_aboveZero_1 : decode cX2_aboveZero 1 = .ok (.istore_n 1, 1) := by decide +kernel
theorem dX2_aboveZero_2 : decode cX2_aboveZero 2 = .ok (.iconst 0, 1) := by decide +kernel
theorem dX2_aboveZero_3 : decode cX2_aboveZero 3 = .ok (.istore_n 2, 1) := by decide +kernel
theorem dX2_aboveZero_4 : decode cX2_aboveZero 4 = .ok (.iload_n 2, 1) := by decide +kernel
theorem dX2_aboveZero_5 : decode cX2_aboveZero 5 = .ok (.aload_n 0, 1) := by decide +kernel
theorem dX2_aboveZero_6 : decode cX2_aboveZero 6 = .ok (.getfield 23, 3) := by decide +kernel
theorem dX2_aboveZero_9 : decode cX2_aboveZero 9 = .ok (.if_icmp .ge 23, 3) := by decide +kernel
theorem dX2_aboveZero_12 : decode cX2_aboveZero 12 = .ok (.aload_n 0, 1) := by decide +kernel
theorem dX2_aboveZero_13 : decode cX2_aboveZero 13 = .ok (.getfield 9, 3) := by decide +kernel
theorem dX2_aboveZero_16 : decode cX2_aboveZero 16 = .ok (.iload_n 2, 1) := by decide +kernel
theorem dX2_aboveZero_17 : decode cX2_aboveZero 17 = .ok (.laload, 1) := by decide +kernel
theorem dX2_aboveZero_18 : decode cX2_aboveZero 18 = .ok (.lconst 0, 1) := by decide +kernel
theorem dX2_aboveZero_19 : decode cX2_aboveZero 19 = .ok (.lcmp, 1) := by decide +kernel
theorem dX2_aboveZero_20 : decode cX2_aboveZero 20 = .ok (.ifCond .le 6, 3) := by decide +kernel
theorem dX2_aboveZero_23 : decode cX2_aboveZero 23 = .ok (.iinc 1 1, 3) := by decide +kernel
theorem dX2_aboveZero_26 : decode cX2_aboveZero 26 = .ok (.iinc 2 1, 3) := by decide +kernel
theorem dX2_aboveZero_29 : decode cX2_aboveZero 29 = .ok (.goto (-25), 3) := by decide +kernel
theorem dX2_aboveZero_32 : decode cX2_aboveZero 32 = .ok (.iload_n 1, 1) := by decide +kernel
theorem dX2_aboveZero_33 : decode cX2_aboveZero 33 = .ok (.ireturn, 1) := by decide +kernel
theorem dX3_within_0 : decode cX3_within 0 = .ok (.iload_n 0, 1) := by decide +kernel
theorem dX3_within_1 : decode cX3_within 1 = .ok (.iload_n 1, 1) := by decide +kernel
theorem dX3_within_2 : decode cX3_within 2 = .ok (.if_icmp .lt 12, 3) := by decide +kernel
theorem dX3_within_5 : decode cX3_within 5 = .ok (.iload_n 0, 1) := by decide +kernel
theorem dX3_within_6 : decode cX3_within 6 = .ok (.iload_n 2, 1) := by decide +kernel
theorem dX3_within_7 : decode cX3_within 7 = .ok (.if_icmp .gt 7, 3) := by decide +kernel
theorem dX3_within_10 : decode cX3_within 10 = .ok (.iconst 1, 1) := by decide +kernel
theorem dX3_within_11 : decode cX3_within 11 = .ok (.goto 4, 3) := by decide +kernel
theorem dX3_within_14 : decode cX3_within 14 = .ok (.iconst 0, 1) := by decide +kernel
theorem dX3_within_15 : decode cX3_within 15 = .ok (.ireturn, 1) := by decide +kernel
theorem dX3_setsOutOf_0 : decode cX3_setsOutOf 0 = .ok (.lconst 1, 1) := by decide +kernel
theorem dX3_setsOutOf_1 : decode cX3_setsOutOf 1 = .ok (.lstore_n 2, 1) := by decide +kernel
theorem dX3_setsOutOf_2 : decode cX3_setsOutOf 2 = .ok (.iconst 1, 1) := by decide +kernel
theorem dX3_setsOutOf_3 : decode cX3_setsOutOf 3 = .ok (.istore 4, 2) := by decide +kernel
theorem dX3_setsOutOf_5 : decode cX3_setsOutOf 5 = .ok (.iload 4, 2) := by decide +kernel
theorem dX3_setsOutOf_7 : decode cX3_setsOutOf 7 = .ok (.iload_n 1, 1) := by decide +kernel
theorem dX3_setsOutOf_8 : decode cX3_setsOutOf 8 = .ok (.if_icmp .gt 23, 3) := by decide +kernel
theorem dX3_setsOutOf_11 : decode cX3_setsOutOf 11 = .ok (.lload_n 2, 1) := by decide +kernel
theorem dX3_setsOutOf_12 : decode cX3_setsOutOf 12 = .ok (.iload_n 0, 1) := by decide +kernel
theorem dX3_setsOutOf_13 : decode cX3_setsOutOf 13 = .ok (.iload 4, 2) := by decide +kernel
theorem dX3_setsOutOf_15 : decode cX3_setsOutOf 15 = .ok (.isub, 1) := by decide +kernel
theorem dX3_setsOutOf_16 : decode cX3_setsOutOf 16 = .ok (.iconst 1, 1) := by decide +kernel
theorem dX3_setsOutOf_17 : decode cX3_setsOutOf 17 = .ok (.iadd, 1) := by decide +kernel
theorem dX3_setsOutOf_18 : decode cX3_setsOutOf 18 = .ok (.i2l, 1) := by decide +kernel
theorem dX3_setsOutOf_19 : decode cX3_setsOutOf 19 = .ok (.lmul, 1) := by decide +kernel
theorem dX3_setsOutOf_20 : decode cX3_setsOutOf 20 = .ok (.iload 4, 2) := by decide +kernel
end
section
theorem dX3_setsOutOf_22 : decode cX3_setsOutOf 22 = .ok (.i2l, 1) := by decide +kernel
theorem dX3_setsOutOf_23 : decode cX3_setsOutOf 23 = .ok (.ldiv, 1) := by decide +kernel
theorem dX3_setsOutOf_24 : decode cX3_setsOutOf 24 = .ok (.lstore_n 2, 1) := by decide +kernel
theorem dX3_setsOutOf_25 : decode cX3_setsOutOf 25 = .ok (.iinc 4 1, 3) := by decide +kernel
theorem dX3_setsOutOf_28 : decode cX3_setsOutOf 28 = .ok (.goto (-23), 3) := by decide +kernel
theorem dX3_setsOutOf_31 : decode cX3_setsOutOf 31 = .ok (.lload_n 2, 1) := by decide +kernel
theorem dX3_setsOutOf_32 : decode cX3_setsOutOf 32 = .ok (.lreturn, 1) := by decide +kernel
theorem dX3_commonDivisor_0 : decode cX3_commonDivisor 0 = .ok (.lload_n 0, 1) := by decide +kernel
theorem dX3_commonDivisor_1 : decode cX3_commonDivisor 1 = .ok (.lstore 4, 2) := by decide +kernel
theorem dX3_commonDivisor_3 : decode cX3_commonDivisor 3 = .ok (.lload_n 2, 1) := by decide +kernel
theorem dX3_commonDivisor_4 : decode cX3_commonDivisor 4 = .ok (.lstore 6, 2) := by decide +kernel
theorem dX3_commonDivisor_6 : decode cX3_commonDivisor 6 = .ok (.iconst 0, 1) := by decide +kernel
theorem dX3_commonDivisor_7 : decode cX3_commonDivisor 7 = .ok (.istore 8, 2) := by decide +kernel
theorem dX3_commonDivisor_9 : decode cX3_commonDivisor 9 = .ok (.lload 6, 2) := by decide +kernel
theorem dX3_commonDivisor_11 : decode cX3_commonDivisor 11 = .ok (.lconst 0, 1) := by decide +kernel
theorem dX3_commonDivisor_12 : decode cX3_commonDivisor 12 = .ok (.lcmp, 1) := by decide +kernel
theorem dX3_commonDivisor_13 : decode cX3_commonDivisor 13 = .ok (.ifCond .eq 32, 3) := by decide +kernel
theorem dX3_commonDivisor_16 : decode cX3_commonDivisor 16 = .ok (.iload 8, 2) := by decide +kernel
theorem dX3_commonDivisor_18 : decode cX3_commonDivisor 18 = .ok (.sipush 1000, 3) := by decide +kernel
theorem dX3_commonDivisor_21 : decode cX3_commonDivisor 21 = .ok (.if_icmp .ge 24, 3) := by decide +kernel
theorem dX3_commonDivisor_24 : decode cX3_commonDivisor 24 = .ok (.lload 4, 2) := by decide +kernel
theorem dX3_commonDivisor_26 : decode cX3_commonDivisor 26 = .ok (.lload 6, 2) := by decide +kernel
theorem dX3_commonDivisor_28 : decode cX3_commonDivisor 28 = .ok (.lrem, 1) := by decide +kernel
theorem dX3_commonDivisor_29 : decode cX3_commonDivisor 29 = .ok (.lstore 9, 2) := by decide +kernel
theorem dX3_commonDivisor_31 : decode cX3_commonDivisor 31 = .ok (.lload 6, 2) := by decide +kernel
theorem dX3_commonDivisor_33 : decode cX3_commonDivisor 33 = .ok (.lstore 4, 2) := by decide +kernel
theorem dX3_commonDivisor_35 : decode cX3_commonDivisor 35 = .ok (.lload 9, 2) := by decide +kernel
theorem dX3_commonDivisor_37 : decode cX3_commonDivisor 37 = .ok (.lstore 6, 2) := by decide +kernel
theorem dX3_commonDivisor_39 : decode cX3_commonDivisor 39 = .ok (.iinc 8 1, 3) := by decide +kernel
theorem dX3_commonDivisor_42 : decode cX3_commonDivisor 42 = .ok (.goto (-33), 3) := by decide +kernel
theorem dX3_commonDivisor_45 : decode cX3_commonDivisor 45 = .ok (.lload 4, 2) := by decide +kernel
theorem dX3_commonDivisor_47 : decode cX3_commonDivisor 47 = .ok (.lreturn, 1) := by decide +kernel
theorem dX4_init_0 : decode cX4_init 0 = .ok (.aload_n 0, 1) := by decide +kernel
theorem dX4_init_1 : decode cX4_init 1 = .ok (.invokespecial 1, 3) := by decide +kernel
theorem dX4_init_4 : decode cX4_init 4 = .ok (.aload_n 0, 1) := by decide +kernel
theorem dX4_init_5 : decode cX4_init 5 = .ok (.lconst 0, 1) := by decide +kernel
theorem dX4_init_6 : decode cX4_init 6 = .ok (.putfield 7, 3) := by decide +kernel
theorem dX4_init_9 : decode cX4_init 9 = .ok (.aload_n 0, 1) := by decide +kernel
theorem dX4_init_10 : decode cX4_init 10 = .ok (.lconst 1, 1) := by decide +kernel
theorem dX4_init_11 : decode cX4_init 11 = .ok (.putfield 13, 3) := by decide +kernel
theorem dX4_init_14 : decode cX4_init 14 = .ok (.return_, 1) := by decide +kernel
set_option maxRecDepth 20000 in
theorem ggX4_become_X3_commonDivisor : GoodIn wsX4_become wsX3_commonDivisor := goodIn_r _ [10] (by decide +kernel) (by decide +kernel)
set_option maxRecDepth 20000 in
theorem gX4_become_X3_commonDivisor : GoodIn wsX4_become (va_wsS RX4 22 yX3_commonDivisor wsX3_commonDivisor) := goodIn_app (goodIn_of _ (by decide +kernel)) ggX4_become_X3_commonDivisor
theorem dX4_become_0 : decode cX4_become 0 = .ok (.lload_n 1, 1) := by decide +kernel
theorem dX4_become_1 : decode cX4_become 1 = .ok (.invokestatic 16, 3) := by decide +kernel
theorem dX4_become_4 : decode cX4_become 4 = .ok (.lload_n 3, 1) := by decide +kernel
theorem dX4_become_5 : decode cX4_become 5 = .ok (.invokestatic 22, 3) := by decide +kernel
theorem dX4_become_8 : decode cX4_become 8 = .ok (.lstore 5, 2) := by decide +kernel
theorem dX4_become_10 : decode cX4_become 10 = .ok (.lload 5, 2) := by decide +kernel
theorem dX4_become_12 : decode cX4_become 12 = .ok (.lconst 0, 1) := by decide +kernel
theorem dX4_become_13 : decode cX4_become 13 = .ok (.lcmp, 1) := by decide +kernel
theorem dX4_become_14 : decode cX4_become 14 = .ok (.ifCond .gt 4, 3) := by decide +kernel
theorem dX4_become_17 : decode cX4_become 17 = .ok (.return_, 1) := by decide +kernel
theorem dX4_become_18 : decode cX4_become 18 = .ok (.aload_n 0, 1) := by decide +kernel
theorem dX4_become_19 : decode cX4_become 19 = .ok (.lload_n 1, 1) := by decide +kernel
theorem dX4_become_20 : decode cX4_become 20 = .ok (.lload 5, 2) := by decide +kernel
theorem dX4_become_22 : decode cX4_become 22 = .ok (.ldiv, 1) := by decide +kernel
theorem dX4_become_23 : decode cX4_become 23 = .ok (.putfield 7, 3) := by decide +kernel
theorem dX4_become_26 : decode cX4_become 26 = .ok (.aload_n 0, 1) := by decide +kernel
theorem dX4_become_27 : decode cX4_become 27 = .ok (.lload_n 3, 1) := by decide +kernel
theorem dX4_become_28 : decode cX4_become 28 = .ok (.lload 5, 2) := by decide +kernel
theorem dX4_become_30 : decode cX4_become 30 = .ok (.ldiv, 1) := by decide +kernel
theorem dX4_become_31 : decode cX4_become 31 = .ok (.putfield 13, 3) := by decide +kernel
theorem dX4_become_34 : decode cX4_become 34 = .ok (.return_, 1) := by decide +kernel
theorem dX4_isAbove_0 : decode cX4_isAbove 0 = .ok (.aload_n 0, 1) := by decide +kernel
theorem dX4_isAbove_1 : decode cX4_isAbove 1 = .ok (.getfield 7, 3) := by decide +kernel
theorem dX4_isAbove_4 : decode cX4_isAbove 4 = .ok (.lload_n 3, 1) := by decide +kernel
theorem dX4_isAbove_5 : decode cX4_isAbove 5 = .ok (.lmul, 1) := by decide +kernel
theorem dX4_isAbove_6 : decode cX4_isAbove 6 = .ok (.lload_n 1, 1) := by decide +kernel
theorem dX4_isAbove_7 : decode cX4_isAbove 7 = .ok (.aload_n 0, 1) := by decide +kernel
theorem dX4_isAbove_8 : decode cX4_isAbove 8 = .ok (.getfield 13, 3) := by decide +kernel
theorem dX4_isAbove_11 : decode cX4_isAbove 11 = .ok (.lmul, 1) := by decide +kernel
theorem dX4_isAbove_12 : decode cX4_isAbove 12 = .ok (.lcmp, 1) := by decide +kernel
theorem dX4_isAbove_13 : decode cX4_isAbove 13 = .ok (.ifCond .le 7, 3) := by decide +kernel
theorem dX4_isAbove_16 : decode cX4_isAbove 16 = .ok (.iconst 1, 1) := by decide +kernel
theorem dX4_isAbove_17 : decode cX4_isAbove 17 = .ok (.goto 4, 3) := by decide +kernel
theorem dX4_isAbove_20 : decode cX4_isAbove 20 = .ok (.iconst 0, 1) := by decide +kernel
theorem dX4_isAbove_21 : decode cX4_isAbove 21 = .ok (.ireturn, 1) := by decide +kernel
theorem dX4_isBelow_0 : decode cX4_isBelow 0 = .ok (.aload_n 0, 1) := by decide +kernel
theorem dX4_isBelow_1 : decode cX4_isBelow 1 = .ok (.getfield 7, 3) := by decide +kernel
theorem dX4_isBelow_4 : decode cX4_isBelow 4 = .ok (.lload_n 3, 1) := by decide +kernel
theorem dX4_isBelow_5 : decode cX4_isBelow 5 = .ok (.lmul, 1) := by decide +kernel
theorem dX4_isBelow_6 : decode cX4_isBelow 6 = .ok (.lload_n 1, 1) := by decide +kernel
theorem dX4_isBelow_7 : decode cX4_isBelow 7 = .ok (.aload_n 0, 1) := by decide +kernel
theorem dX4_isBelow_8 : decode cX4_isBelow 8 = .ok (.getfield 13, 3) := by decide +kernel
theorem dX4_isBelow_11 : decode cX4_isBelow 11 = .ok (.lmul, 1) := by decide +kernel
theorem dX4_isBelow_12 : decode cX4_isBelow 12 = .ok (.lcmp, 1) := by decide +kernel
theorem dX4_isBelow_13 : decode cX4_isBelow 13 = .ok (.ifCond .ge 7, 3) := by decide +kernel
theorem dX4_isBelow_16 : decode cX4_isBelow 16 = .ok (.iconst 1, 1) := by decide +kernel
theorem dX4_isBelow_17 : decode cX4_isBelow 17 = .ok (.goto 4, 3) := by decide +kernel
theorem dX4_isBelow_20 : decode cX4_isBelow 20 = .ok (.iconst 0, 1) := by decide +kernel
theorem dX4_isBelow_21 : decode cX4_isBelow 21 = .ok (.ireturn, 1) := by decide +kernel
set_option maxRecDepth 20000 in
theorem ggX4_capAtOne_X4_become : GoodIn wsX4_capAtOne wsX4_become := goodIn_r _ [7, 8, 9, 10, 11, 1, 2, 12, 13, 14, 15, 16, 17] (by decide +kernel) (by decide +kernel)
set_option maxRecDepth 20000 in
theorem gX4_capAtOne_X4_become : GoodIn wsX4_capAtOne (wsV RX4 28 RX4 yX4_become wsX4_become) := goodIn_app (goodIn_of _ (by decide +kernel)) ggX4_capAtOne_X4_become
theorem dX4_capAtOne_0 : decode cX4_capAtOne 0 = .ok (.aload_n 0, 1) := by decide +kernel
theorem dX4_capAtOne_1 : decode cX4_capAtOne 1 = .ok (.getfield 7, 3) := by decide +kernel
theorem dX4_capAtOne_4 : decode cX4_capAtOne 4 = .ok (.aload_n 0, 1) := by decide +kernel
theorem dX4_capAtOne_5 : decode cX4_capAtOne 5 = .ok (.getfield 13, 3) := by decide +kernel
theorem dX4_capAtOne_8 : decode cX4_capAtOne 8 = .ok (.lcmp, 1) := by decide +kernel
theorem dX4_capAtOne_9 : decode cX4_capAtOne 9 = .ok (.ifCond .le 9, 3) := by decide +kernel
theorem dX4_capAtOne_12 : decode cX4_capAtOne 12 = .ok (.aload_n 0, 1) := by decide +kernel
theorem dX4_capAtOne_13 : decode cX4_capAtOne 13 = .ok (.lconst 1, 1) := by decide +kernel
theorem dX4_capAtOne_14 : decode cX4_capAtOne 14 = .ok (.lconst 1, 1) := by decide +kernel
theorem dX4_capAtOne_15 : decode cX4_capAtOne 15 = .ok (.invokevirtual 28, 3) := by decide +kernel
theorem dX4_capAtOne_18 : decode cX4_capAtOne 18 = .ok (.return_, 1) := by decide +kernel
theorem dX4_told_0 : decode cX4_told 0 = .ok (.iload_n 1, 1) := by decide +kernel
theorem dX4_told_1 : decode cX4_told 1 = .ok (.ifCond .ne 10, 3) := by decide +kernel
theorem dX4_told_4 : decode cX4_told 4 = .ok (.aload_n 0, 1) := by decide +kernel
theorem dX4_told_5 : decode cX4_told 5 = .ok (.getfield 7, 3) := by decide +kernel
theorem dX4_told_8 : decode cX4_told 8 = .ok (.goto 7, 3) := by decide +kernel
theorem dX4_told_11 : decode cX4_told 11 = .ok (.aload_n 0, 1) := by decide +kernel
theorem dX4_told_12 : decode cX4_told 12 = .ok (.getfield 13, 3) := by decide +kernel
theorem dX4_told_15 : decode cX4_told 15 = .ok (.lreturn, 1) := by decide +kernel
theorem dX5_init_0 : decode cX5_init 0 = .ok (.aload_n 0, 1) := by decide +kernel
theorem dX5_init_1 : decode cX5_init 1 = .ok (.invokespecial 1, 3) := by decide +kernel
theorem dX5_init_4 : decode cX5_init 4 = .ok (.aload_n 0, 1) := by decide +kernel
theorem dX5_init_5 : decode cX5_init 5 = .ok (.bipush 30, 2) := by decide +kernel
theorem dX5_init_7 : decode cX5_init 7 = .ok (.newarray .int, 2) := by decide +kernel
theorem dX5_init_9 : decode cX5_init 9 = .ok (.putfield 9, 3) := by decide +kernel
theorem dX5_init_12 : decode cX5_init 12 = .ok (.aload_n 0, 1) := by decide +kernel
theorem dX5_init_13 : decode cX5_init 13 = .ok (.bipush 30, 2) := by decide +kernel
theorem dX5_init_15 : decode cX5_init 15 = .ok (.newarray .int, 2) := by decide +kernel
theorem dX5_init_17 : decode cX5_init 17 = .ok (.putfield 13, 3) := by decide +kernel
theorem dX5_init_20 : decode cX5_init 20 = .ok (.aload_n 0, 1) := by decide +kernel
theorem dX5_init_21 : decode cX5_init 21 = .ok (.bipush 30, 2) := by decide +kernel
theorem dX5_init_23 : decode cX5_init 23 = .ok (.newarray .int, 2) := by decide +kernel
theorem dX5_init_25 : decode cX5_init 25 = .ok (.putfield 16, 3) := by decide +kernel
theorem dX5_init_28 : decode cX5_init 28 = .ok (.aload_n 0, 1) := by decide +kernel
theorem dX5_init_29 : decode cX5_init 29 = .ok (.iconst 0, 1) := by decide +kernel
theorem dX5_init_30 : decode cX5_init 30 = .ok (.putfield 19, 3) := by decide +kernel
theorem dX5_init_33 : decode cX5_init 33 = .ok (.return_, 1) := by decide +kernel
theorem dX5_size_0 : decode cX5_size 0 = .ok (.aload_n 0, 1) := by decide +kernel
theorem dX5_size_1 : decode cX5_size 1 = .ok (.getfield 19, 3) := by decide +kernel
theorem dX5_size_4 : decode cX5_size 4 = .ok (.ireturn, 1) := by decide +kernel
theorem dX5_isFull_0 : decode cX5_isFull 0 = .ok (.aload_n 0, 1) := by decide +kernel
theorem dX5_isFull_1 : decode cX5_isFull 1 = .ok (.getfield 19, 3) := by decide +kernel
theorem dX5_isFull_4 : decode cX5_isFull 4 = .ok (.bipush 30, 2) := by decide +kernel
theorem dX5_isFull_6 : decode cX5_isFull 6 = .ok (.if_icmp .lt 7, 3) := by decide +kernel
theorem dX5_isFull_9 : decode cX5_isFull 9 = .ok (.iconst 1, 1) := by decide +kernel
theorem dX5_isFull_10 : decode cX5_isFull 10 = .ok (.goto 4, 3) := by decide +kernel
theorem dX5_isFull_13 : decode cX5_isFull 13 = .ok (.iconst 0, 1) := by decide +kernel
theorem dX5_isFull_14 : decode cX5_isFull 14 = .ok (.ireturn, 1) := by decide +kernel
set_option maxRecDepth 20000 in
theorem ggX5_add_X5_isFull : GoodIn wsX5_add wsX5_isFull := goodIn_r _ [9, 2, 10, 11, 12, 13] (by decide +kernel) (by decide +kernel)
set_option maxRecDepth 20000 in
theorem gX5_add_X5_isFull : GoodIn wsX5_add (wsV RX5 23 RX5 yX5_isFull wsX5_isFull) := goodIn_app (goodIn_of _ (by decide +kernel)) ggX5_add_X5_isFull
theorem dX5_add_0 : decode cX5_add 0 = .ok (.aload_n 0, 1) := by decide +kernel
theorem dX5_add_1 : decode cX5_add 1 = .ok (.invokevirtual 23, 3) := by decide +kernel
theorem dX5_add_4 : decode cX5_add 4 = .ok (.ifCond .eq 4, 3) := by decide +kernel
theorem dX5_add_7 : decode cX5_add 7 = .ok (.return_, 1) := by decide +kernel
theorem dX5_add_8 : decode cX5_add 8 = .ok (.aload_n 0, 1) := by decide +kernel
theorem dX5_add_9 : decode cX5_add 9 = .ok (.getfield 9, 3) := by decide +kernel
theorem dX5_add_12 : decode cX5_add 12 = .ok (.aload_n 0, 1) := by decide +kernel
theorem dX5_add_13 : decode cX5_add 13 = .ok (.getfield 19, 3) := by decide +kernel
theorem dX5_add_16 : decode cX5_add 16 = .ok (.iload_n 1, 1) := by decide +kernel
theorem dX5_add_17 : decode cX5_add 17 = .ok (.iastore, 1) := by decide +kernel
theorem dX5_add_18 : decode cX5_add 18 = .ok (.aload_n 0, 1) := by decide +kernel
theorem dX5_add_19 : decode cX5_add 19 = .ok (.getfield 13, 3) := by decide +kernel
theorem dX5_add_22 : decode cX5_add 22 = .ok (.aload_n 0, 1) := by decide +kernel
theorem dX5_add_23 : decode cX5_add 23 = .ok (.getfield 19, 3) := by decide +kernel
theorem dX5_add_26 : decode cX5_add 26 = .ok (.iload_n 2, 1) := by decide +kernel
theorem dX5_add_27 : decode cX5_add 27 = .ok (.iastore, 1) := by decide +kernel
theorem dX5_add_28 : decode cX5_add 28 = .ok (.aload_n 0, 1) := by decide +kernel
theorem dX5_add_29 : decode cX5_add 29 = .ok (.getfield 16, 3) := by decide +kernel
theorem dX5_add_32 : decode cX5_add 32 = .ok (.aload_n 0, 1) := by decide +kernel
theorem dX5_add_33 : decode cX5_add 33 = .ok (.getfield 19, 3) := by decide +kernel
theorem dX5_add_36 : decode cX5_add 36 = .ok (.iload_n 3, 1) := by decide +kernel
theorem dX5_add_37 : decode cX5_add 37 = .ok (.iastore, 1) := by decide +kernel
theorem dX5_add_38 : decode cX5_add 38 = .ok (.aload_n 0, 1) := by decide +kernel
theorem dX5_add_39 : decode cX5_add 39 = .ok (.dup, 1) := by decide +kernel
theorem dX5_add_40 : decode cX5_add 40 = .ok (.getfield 19, 3) := by decide +kernel
theorem dX5_add_43 : decode cX5_add 43 = .ok (.iconst 1, 1) := by decide +kernel
theorem dX5_add_44 : decode cX5_add 44 = .ok (.iadd, 1) := by decide +kernel
theorem dX5_add_45 : decode cX5_add 45 = .ok (.putfield 19, 3) := by decide +kernel
theorem dX5_add_48 : decode cX5_add 48 = .ok (.return_, 1) := by decide +kernel
theorem dX5_removeLast_0 : decode cX5_removeLast 0 = .ok (.aload_n 0, 1) := by decide +kernel
theorem dX5_removeLast_1 : decode cX5_removeLast 1 = .ok (.getfield 19, 3) := by decide +kernel
theorem dX5_removeLast_4 : decode cX5_removeLast 4 = .ok (.ifCond .le 13, 3) := by decide +kernel
theorem dX5_removeLast_7 : decode cX5_removeLast 7 = .ok (.aload_n 0, 1) := by decide +kernel
theorem dX5_removeLast_8 : decode cX5_removeLast 8 = .ok (.dup, 1) := by decide +kernel
theorem dX5_removeLast_9 : decode cX5_removeLast 9 = .ok (.getfield 19, 3) := by decide +kernel
theorem dX5_removeLast_12 : decode cX5_removeLast 12 = .ok (.iconst 1, 1) := by decide +kernel
theorem dX5_removeLast_13 : decode cX5_removeLast 13 = .ok (.isub, 1) := by decide +kernel
theorem dX5_removeLast_14 : decode cX5_removeLast 14 = .ok (.putfield 19, 3) := by decide +kernel
theorem dX5_removeLast_17 : decode cX5_removeLast 17 = .ok (.return_, 1) := by decide +kernel
theorem dX5_empty_0 : decode cX5_empty 0 = .ok (.aload_n 0, 1) := by decide +kernel
theorem dX5_empty_1 : decode cX5_empty 1 = .ok (.iconst 0, 1) := by decide +kernel
theorem dX5_empty_2 : decode cX5_empty 2 = .ok (.putfield 19, 3) := by decide +kernel
theorem dX5_empty_5 : decode cX5_empty 5 = .ok (.return_, 1) := by decide +kernel
theorem dX5_difference_0 : decode cX5_difference 0 = .ok (.iload_n 1, 1) := by decide +kernel
theorem dX5_difference_1 : decode cX5_difference 1 = .ok (.ifCond .lt 27, 3) := by decide +kernel
theorem dX5_difference_4 : decode cX5_difference 4 = .ok (.iload_n 1, 1) := by decide +kernel
theorem dX5_difference_5 : decode cX5_difference 5 = .ok (.aload_n 0, 1) := by decide +kernel
theorem dX5_difference_6 : decode cX5_difference 6 = .ok (.getfield 19, 3) := by decide +kernel
theorem dX5_difference_9 : decode cX5_difference 9 = .ok (.if_icmp .ge 19, 3) := by decide +kernel
theorem dX5_difference_12 : decode cX5_difference 12 = .ok (.aload_n 0, 1) := by decide +kernel
theorem dX5_difference_13 : decode cX5_difference 13 = .ok (.getfield 13, 3) := by decide +kernel
theorem dX5_difference_16 : decode cX5_difference 16 = .ok (.iload_n 1, 1) := by decide +kernel
theorem dX5_difference_17 : decode cX5_difference 17 = .ok (.iaload, 1) := by decide +kernel
theorem dX5_difference_18 : decode cX5_difference 18 = .ok (.aload_n 0, 1) := by decide +kernel
theorem dX5_difference_19 : decode cX5_difference 19 = .ok (.getfield 16, 3) := by decide +kernel
theorem dX5_difference_22 : decode cX5_difference 22 = .ok (.iload_n 1, 1) := by decide +kernel
theorem dX5_difference_23 : decode cX5_difference 23 = .ok (.iaload, 1) := by decide +kernel
theorem dX5_difference_24 : decode cX5_difference 24 = .ok (.isub, 1) := by decide +kernel
theorem dX5_difference_25 : decode cX5_difference 25 = .ok (.goto 4, 3) := by decide +kernel
theorem dX5_difference_28 : decode cX5_difference 28 = .ok (.iconst 0, 1) := by decide +kernel
theorem dX5_difference_29 : decode cX5_difference 29 = .ok (.ireturn, 1) := by decide +kernel
theorem dX5_sizeOfGroup_0 : decode cX5_sizeOfGroup 0 = .ok (.iconst 0, 1) := by decide +kernel
theorem dX5_sizeOfGroup_1 : decode cX5_sizeOfGroup 1 = .ok (.istore_n 2, 1) := by decide +kernel
theorem dX5_sizeOfGroup_2 : decode cX5_sizeOfGroup 2 = .ok (.iconst 0, 1) := by decide +kernel
theorem dX5_sizeOfGroup_3 : decode cX5_sizeOfGroup 3 = .ok (.istore_n 3, 1) := by decide +kernel
theorem dX5_sizeOfGroup_4 : decode cX5_sizeOfGroup 4 = .ok (.iload_n 3, 1) := by decide +kernel
theorem dX5_sizeOfGroup_5 : decode cX5_sizeOfGroup 5 = .ok (.aload_n 0, 1) := by decide +kernel
theorem dX5_sizeOfGroup_6 : decode cX5_sizeOfGroup 6 = .ok (.getfield 19, 3) := by decide +kernel
theorem dX5_sizeOfGroup_9 : decode cX5_sizeOfGroup 9 = .ok (.if_icmp .ge 22, 3) := by decide +kernel
theorem dX5_sizeOfGroup_12 : decode cX5_sizeOfGroup 12 = .ok (.aload_n 0, 1) := by decide +kernel
theorem dX5_sizeOfGroup_13 : decode cX5_sizeOfGroup 13 = .ok (.getfield 9, 3) := by decide +kernel
theorem dX5_sizeOfGroup_16 : decode cX5_sizeOfGroup 16 = .ok (.iload_n 3, 1) := by decide +kernel
theorem dX5_sizeOfGroup_17 : decode cX5_sizeOfGroup 17 = .ok (.iaload, 1) := by decide +kernel
theorem dX5_sizeOfGroup_18 : decode cX5_sizeOfGroup 18 = .ok (.iload_n 1, 1) := by decide +kernel
theorem dX5_sizeOfGroup_19 : decode cX5_sizeOfGroup 19 = .ok (.if_icmp .ne 6, 3) := by decide +kernel
theorem dX5_sizeOfGroup_22 : decode cX5_sizeOfGroup 22 = .ok (.iinc 2 1, 3) := by decide +kernel
theorem dX5_sizeOfGroup_25 : decode cX5_sizeOfGroup 25 = .ok (.iinc 3 1, 3) := by decide +kernel
theorem dX5_sizeOfGroup_28 : decode cX5_sizeOfGroup 28 = .ok (.goto (-24), 3) := by decide +kernel
theorem dX5_sizeOfGroup_31 : decode cX5_sizeOfGroup 31 = .ok (.iload_n 2, 1) := by decide +kernel
theorem dX5_sizeOfGroup_32 : decode cX5_sizeOfGroup 32 = .ok (.ireturn, 1) := by decide +kernel
theorem dX5_differenceOfGroup_0 : decode cX5_differenceOfGroup 0 = .ok (.iconst 0, 1) := by decide +kernel
theorem dX5_differenceOfGroup_1 : decode cX5_differenceOfGroup 1 = .ok (.istore_n 2, 1) := by decide +kernel
theorem dX5_differenceOfGroup_2 : decode cX5_differenceOfGroup 2 = .ok (.iconst 0, 1) := by decide +kernel
theorem dX5_differenceOfGroup_3 : decode cX5_differenceOfGroup 3 = .ok (.istore_n 3, 1) := by decide +kernel
theorem dX5_differenceOfGroup_4 : decode cX5_differenceOfGroup 4 = .ok (.iload_n 3, 1) := by decide +kernel
theorem dX5_differenceOfGroup_5 : decode cX5_differenceOfGroup 5 = .ok (.aload_n 0, 1) := by decide +kernel
theorem dX5_differenceOfGroup_6 : decode cX5_differenceOfGroup 6 = .ok (.getfield 19, 3) := by decide +kernel
theorem dX5_differenceOfGroup_9 : decode cX5_differenceOfGroup 9 = .ok (.if_icmp .ge 35, 3) := by decide +kernel
theorem dX5_differenceOfGroup_12 : decode cX5_differenceOfGroup 12 = .ok (.aload_n 0, 1) := by decide +kernel
theorem dX5_differenceOfGroup_13 : decode cX5_differenceOfGroup 13 = .ok (.getfield 9, 3) := by decide +kernel
theorem dX5_differenceOfGroup_16 : decode cX5_differenceOfGroup 16 = .ok (.iload_n 3, 1) := by decide +kernel
theorem dX5_differenceOfGroup_17 : decode cX5_differenceOfGroup 17 = .ok (.iaload, 1) := by decide +kernel
theorem dX5_differenceOfGroup_18 : decode cX5_differenceOfGroup 18 = .ok (.iload_n 1, 1) := by decide +kernel
theorem dX5_differenceOfGroup_19 : decode cX5_differenceOfGroup 19 = .ok (.if_icmp .ne 19, 3) := by decide +kernel
theorem dX5_differenceOfGroup_22 : decode cX5_differenceOfGroup 22 = .ok (.iload_n 2, 1) := by decide +kernel
theorem dX5_differenceOfGroup_23 : decode cX5_differenceOfGroup 23 = .ok (.aload_n 0, 1) := by decide +kernel
theorem dX5_differenceOfGroup_24 : decode cX5_differenceOfGroup 24 = .ok (.getfield 13, 3) := by decide +kernel
theorem dX5_differenceOfGroup_27 : decode cX5_differenceOfGroup 27 = .ok (.iload_n 3, 1) := by decide +kernel
theorem dX5_differenceOfGroup_28 : decode cX5_differenceOfGroup 28 = .ok (.iaload, 1) := by decide +kernel
theorem dX5_differenceOfGroup_29 : decode cX5_differenceOfGroup 29 = .ok (.aload_n 0, 1) := by decide +kernel
theorem dX5_differenceOfGroup_30 : decode cX5_differenceOfGroup 30 = .ok (.getfield 16, 3) := by decide +kernel
theorem dX5_differenceOfGroup_33 : decode cX5_differenceOfGroup 33 = .ok (.iload_n 3, 1) := by decide +kernel
theorem dX5_differenceOfGroup_34 : decode cX5_differenceOfGroup 34 = .ok (.iaload, 1) := by decide +kernel
theorem dX5_differenceOfGroup_35 : decode cX5_differenceOfGroup 35 = .ok (.isub, 1) := by decide +kernel
theorem dX5_differenceOfGroup_36 : decode cX5_differenceOfGroup 36 = .ok (.iadd, 1) := by decide +kernel
theorem dX5_differenceOfGroup_37 : decode cX5_differenceOfGroup 37 = .ok (.istore_n 2, 1) := by decide +kernel
theorem dX5_differenceOfGroup_38 : decode cX5_differenceOfGroup 38 = .ok (.iinc 3 1, 3) := by decide +kernel
theorem dX5_differenceOfGroup_41 : decode cX5_differenceOfGroup 41 = .ok (.goto (-37), 3) := by decide +kernel
theorem dX5_differenceOfGroup_44 : decode cX5_differenceOfGroup 44 = .ok (.iload_n 2, 1) := by decide +kernel
theorem dX5_differenceOfGroup_45 : decode cX5_differenceOfGroup 45 = .ok (.ireturn, 1) := by decide +kernel
set_option maxRecDepth 20000 in
theorem ggX5_groupsWithRows_X5_sizeOfGroup : GoodIn wsX5_groupsWithRows wsX5_sizeOfGroup := goodIn_r _ [5, 6, 7, 8, 9, 10, 11] (by decide +kernel) (by decide +kernel)
set_option maxRecDepth 20000 in
theorem gX5_groupsWithRows_X5_sizeOfGroup : GoodIn wsX5_groupsWithRows (wsV RX5 27 RX5 yX5_sizeOfGroup wsX5_sizeOfGroup) := goodIn_app (goodIn_of _ (by decide +kernel)) ggX5_groupsWithRows_X5_sizeOfGroup
theorem dX5_groupsWithRows_0 : decode cX5_groupsWithRows 0 = .ok (.iconst 0, 1) := by decide +kernel
theorem dX5_groupsWithRows_1 : decode cX5_groupsWithRows 1 = .ok (.istore_n 1, 1) := by decide +kernel
theorem dX5_groupsWithRows_2 : decode cX5_groupsWithRows 2 = .ok (.iconst 0, 1) := by decide +kernel
theorem dX5_groupsWithRows_3 : decode cX5_groupsWithRows 3 = .ok (.istore_n 2, 1) := by decide +kernel
theorem dX5_groupsWithRows_4 : decode cX5_groupsWithRows 4 = .ok (.iload_n 2, 1) := by decide +kernel
theorem dX5_groupsWithRows_5 : decode cX5_groupsWithRows 5 = .ok (.bipush 8, 2) := by decide +kernel
theorem dX5_groupsWithRows_7 : decode cX5_groupsWithRows 7 = .ok (.if_icmp .ge 20, 3) := by decide +kernel
theorem dX5_groupsWithRows_10 : decode cX5_groupsWithRows 10 = .ok (.aload_n 0, 1) := by decide +kernel
theorem dX5_groupsWithRows_11 : decode cX5_groupsWithRows 11 = .ok (.iload_n 2, 1) := by decide +kernel
theorem dX5_groupsWithRows_12 : decode cX5_groupsWithRows 12 = .ok (.invokevirtual 27, 3) := by decide +kernel
theorem dX5_groupsWithRows_15 : decode cX5_groupsWithRows 15 = .ok (.ifCond .le 6, 3) := by decide +kernel
theorem dX5_groupsWithRows_18 : decode cX5_groupsWithRows 18 = .ok (.iinc 1 1, 3) := by decide +kernel
theorem dX5_groupsWithRows_21 : decode cX5_groupsWithRows 21 = .ok (.iinc 2 1, 3) := by decide +kernel
theorem dX5_groupsWithRows_24 : decode cX5_groupsWithRows 24 = .ok (.goto (-20), 3) := by decide +kernel
theorem dX5_groupsWithRows_27 : decode cX5_groupsWithRows 27 = .ok (.iload_n 1, 1) := by decide +kernel
theorem dX5_groupsWithRows_28 : decode cX5_groupsWithRows 28 = .ok (.ireturn, 1) := by decide +kernel
set_option maxRecDepth 20000 in
theorem ggX5_winsBy_X5_reachedAlone : GoodIn wsX5_winsBy wsX5_reachedAlone := goodIn_r _ [7, 8, 9, 10, 11, 12] (by decide +kernel) (by decide +kernel)
set_option maxRecDepth 20000 in
theorem gX5_winsBy_X5_reachedAlone : GoodIn wsX5_winsBy (wsV RX5 31 RX5 yX5_reachedAlone wsX5_reachedAlone) := goodIn_app (goodIn_of _ (by decide +kernel)) ggX5_winsBy_X5_reachedAlone
theorem dX5_winsBy_0 : decode cX5_winsBy 0 = .ok (.aload_n 0, 1) := by decide +kernel
theorem dX5_winsBy_1 : decode cX5_winsBy 1 = .ok (.aload_n 0, 1) := by decide +kernel
theorem dX5_winsBy_2 : decode cX5_winsBy 2 = .ok (.getfield 13, 3) := by decide +kernel
theorem dX5_winsBy_5 : decode cX5_winsBy 5 = .ok (.aload_n 0, 1) := by decide +kernel
theorem dX5_winsBy_6 : decode cX5_winsBy 6 = .ok (.getfield 16, 3) := by decide +kernel
theorem dX5_winsBy_9 : decode cX5_winsBy 9 = .ok (.iload_n 1, 1) := by decide +kernel
theorem dX5_winsBy_10 : decode cX5_winsBy 10 = .ok (.invokevirtual 31, 3) := by decide +kernel
theorem dX5_winsBy_13 : decode cX5_winsBy 13 = .ok (.ireturn, 1) := by decide +kernel
set_option maxRecDepth 20000 in
theorem ggX5_lossesBy_X5_reachedAlone : GoodIn wsX5_lossesBy wsX5_reachedAlone := goodIn_r _ [7, 8, 9, 10, 11, 12] (by decide +kernel) (by decide +kernel)
set_option maxRecDepth 20000 in
theorem gX5_lossesBy_X5_reachedAlone : GoodIn wsX5_lossesBy (wsV RX5 31 RX5 yX5_reachedAlone wsX5_reachedAlone) := goodIn_app (goodIn_of _ (by decide +kernel)) ggX5_lossesBy_X5_reachedAlone
theorem dX5_lossesBy_0 : decode cX5_lossesBy 0 = .ok (.aload_n 0, 1) := by decide +kernel
theorem dX5_lossesBy_1 : decode cX5_lossesBy 1 = .ok (.aload_n 0, 1) := by decide +kernel
theorem dX5_lossesBy_2 : decode cX5_lossesBy 2 = .ok (.getfield 16, 3) := by decide +kernel
theorem dX5_lossesBy_5 : decode cX5_lossesBy 5 = .ok (.aload_n 0, 1) := by decide +kernel
theorem dX5_lossesBy_6 : decode cX5_lossesBy 6 = .ok (.getfield 13, 3) := by decide +kernel
theorem dX5_lossesBy_9 : decode cX5_lossesBy 9 = .ok (.iload_n 1, 1) := by decide +kernel
theorem dX5_lossesBy_10 : decode cX5_lossesBy 10 = .ok (.invokevirtual 31, 3) := by decide +kernel
theorem dX5_lossesBy_13 : decode cX5_lossesBy 13 = .ok (.ireturn, 1) := by decide +kernel
theorem dX5_reachedAlone_0 : decode cX5_reachedAlone 0 = .ok (.iconst 0, 1) := by decide +kernel
theorem dX5_reachedAlone_1 : decode cX5_reachedAlone 1 = .ok (.istore 4, 2) := by decide +kernel
theorem dX5_reachedAlone_3 : decode cX5_reachedAlone 3 = .ok (.iconst 0, 1) := by decide +kernel
theorem dX5_reachedAlone_4 : decode cX5_reachedAlone 4 = .ok (.istore 5, 2) := by decide +kernel
theorem dX5_reachedAlone_6 : decode cX5_reachedAlone 6 = .ok (.iload 5, 2) := by decide +kernel
theorem dX5_reachedAlone_8 : decode cX5_reachedAlone 8 = .ok (.aload_n 0, 1) := by decide +kernel
theorem dX5_reachedAlone_9 : decode cX5_reachedAlone 9 = .ok (.getfield 19, 3) := by decide +kernel
theorem dX5_reachedAlone_12 : decode cX5_reachedAlone 12 = .ok (.if_icmp .ge 28, 3) := by decide +kernel
theorem dX5_reachedAlone_15 : decode cX5_reachedAlone 15 = .ok (.aload_n 1, 1) := by decide +kernel
theorem dX5_reachedAlone_16 : decode cX5_reachedAlone 16 = .ok (.iload 5, 2) := by decide +kernel
theorem dX5_reachedAlone_18 : decode cX5_reachedAlone 18 = .ok (.iaload, 1) := by decide +kernel
theorem dX5_reachedAlone_19 : decode cX5_reachedAlone 19 = .ok (.iload_n 3, 1) := by decide +kernel
theorem dX5_reachedAlone_20 : decode cX5_reachedAlone 20 = .ok (.if_icmp .lt 14, 3) := by decide +kernel
theorem dX5_reachedAlone_23 : decode cX5_reachedAlone 23 = .ok (.aload_n 2, 1) := by decide +kernel
theorem dX5_reachedAlone_24 : decode cX5_reachedAlone 24 = .ok (.iload 5, 2) := by decide +kernel
theorem dX5_reachedAlone_26 : decode cX5_reachedAlone 26 = .ok (.iaload, 1) := by decide +kernel
theorem dX5_reachedAlone_27 : decode cX5_reachedAlone 27 = .ok (.iload_n 3, 1) := by decide +kernel
theorem dX5_reachedAlone_28 : decode cX5_reachedAlone 28 = .ok (.if_icmp .ge 6, 3) := by decide +kernel
theorem dX5_reachedAlone_31 : decode cX5_reachedAlone 31 = .ok (.iinc 4 1, 3) := by decide +kernel
theorem dX5_reachedAlone_34 : decode cX5_reachedAlone 34 = .ok (.iinc 5 1, 3) := by decide +kernel
theorem dX5_reachedAlone_37 : decode cX5_reachedAlone 37 = .ok (.goto (-31), 3) := by decide +kernel
theorem dX5_reachedAlone_40 : decode cX5_reachedAlone 40 = .ok (.iload 4, 2) := by decide +kernel
theorem dX5_reachedAlone_42 : decode cX5_reachedAlone 42 = .ok (.ireturn, 1) := by decide +kernel
set_option maxRecDepth 20000 in
theorem ggX6_init_X9_init : GoodIn wsX6_init wsX9_init := goodIn_r _ [11, 12, 2, 3, 13, 14, 15, 16, 17] (by decide +kernel) (by decide +kernel)
set_option maxRecDepth 20000 in
theorem gX6_init_X9_init : GoodIn wsX6_init (wsX9_init) := ggX6_init_X9_init
theorem dX6_init_0 : decode cX6_init 0 = .ok (.aload_n 0, 1) := by decide +kernel
theorem dX6_init_1 : decode cX6_init 1 = .ok (.invokespecial 1, 3) := by decide +kernel
theorem dX6_init_4 : decode cX6_init 4 = .ok (.aload_n 0, 1) := by decide +kernel
theorem dX6_init_5 : decode cX6_init 5 = .ok (.new 7, 3) := by decide +kernel
theorem dX6_init_8 : decode cX6_init 8 = .ok (.dup, 1) := by decide +kernel
theorem dX6_init_9 : decode cX6_init 9 = .ok (.invokespecial 9, 3) := by decide +kernel
theorem dX6_init_12 : decode cX6_init 12 = .ok (.putfield 10, 3) := by decide +kernel
theorem dX6_init_15 : decode cX6_init 15 = .ok (.aload_n 0, 1) := by decide +kernel
theorem dX6_init_16 : decode cX6_init 16 = .ok (.new 7, 3) := by decide +kernel
theorem dX6_init_19 : decode cX6_init 19 = .ok (.dup, 1) := by decide +kernel
theorem dX6_init_20 : decode cX6_init 20 = .ok (.invokespecial 9, 3) := by decide +kernel
theorem dX6_init_23 : decode cX6_init 23 = .ok (.putfield 16, 3) := by decide +kernel
theorem dX6_init_26 : decode cX6_init 26 = .ok (.return_, 1) := by decide +kernel
theorem dX6_start_0 : decode cX6_start 0 = .ok (.aload_n 0, 1) := by decide +kernel
theorem dX6_start_1 : decode cX6_start 1 = .ok (.iconst 1, 1) := by decide +kernel
theorem dX6_start_2 : decode cX6_start 2 = .ok (.putfield 19, 3) := by decide +kernel
theorem dX6_start_5 : decode cX6_start 5 = .ok (.aload_n 0, 1) := by decide +kernel
theorem dX6_start_6 : decode cX6_start 6 = .ok (.iload_n 1, 1) := by decide +kernel
theorem dX6_start_7 : decode cX6_start 7 = .ok (.putfield 23, 3) := by decide +kernel
theorem dX6_start_10 : decode cX6_start 10 = .ok (.aload_n 0, 1) := by decide +kernel
theorem dX6_start_11 : decode cX6_start 11 = .ok (.iload_n 2, 1) := by decide +kernel
theorem dX6_start_12 : decode cX6_start 12 = .ok (.putfield 27, 3) := by decide +kernel
theorem dX6_start_15 : decode cX6_start 15 = .ok (.aload_n 0, 1) := by decide +kernel
theorem dX6_start_16 : decode cX6_start 16 = .ok (.iload_n 3, 1) := by decide +kernel
theorem dX6_start_17 : decode cX6_start 17 = .ok (.putfield 30, 3) := by decide +kernel
theorem dX6_start_20 : decode cX6_start 20 = .ok (.aload_n 0, 1) := by decide +kernel
theorem dX6_start_21 : decode cX6_start 21 = .ok (.iload 4, 2) := by decide +kernel
theorem dX6_start_23 : decode cX6_start 23 = .ok (.putfield 33, 3) := by decide +kernel
theorem dX6_start_26 : decode cX6_start 26 = .ok (.aload_n 0, 1) := by decide +kernel
theorem dX6_start_27 : decode cX6_start 27 = .ok (.iconst 0, 1) := by decide +kernel
theorem dX6_start_28 : decode cX6_start 28 = .ok (.putfield 36, 3) := by decide +kernel
theorem dX6_start_31 : decode cX6_start 31 = .ok (.aload_n 0, 1) := by decide +kernel
theorem dX6_start_32 : decode cX6_start 32 = .ok (.iconst 0, 1) := by decide +kernel
theorem dX6_start_33 : decode cX6_start 33 = .ok (.putfield 39, 3) := by decide +kernel
theorem dX6_start_36 : decode cX6_start 36 = .ok (.aload_n 0, 1) := by decide +kernel
theorem dX6_start_37 : decode cX6_start 37 = .ok (.iconst 0, 1) := by decide +kernel
theorem dX6_start_38 : decode cX6_start 38 = .ok (.putfield 42, 3) := by decide +kernel
theorem dX6_start_41 : decode cX6_start 41 = .ok (.return_, 1) := by decide +kernel
theorem dX6_stop_0 : decode cX6_stop 0 = .ok (.aload_n 0, 1) := by decide +kernel
theorem dX6_stop_1 : decode cX6_stop 1 = .ok (.iconst 0, 1) := by decide +kernel
theorem dX6_stop_2 : decode cX6_stop 2 = .ok (.putfield 19, 3) := by decide +kernel
theorem dX6_stop_5 : decode cX6_stop 5 = .ok (.return_, 1) := by decide +kernel
theorem dX6_isOn_0 : decode cX6_isOn 0 = .ok (.aload_n 0, 1) := by decide +kernel
theorem dX6_isOn_1 : decode cX6_isOn 1 = .ok (.getfield 19, 3) := by decide +kernel
theorem dX6_isOn_4 : decode cX6_isOn 4 = .ok (.ireturn, 1) := by decide +kernel
theorem dX6_isFull_0 : decode cX6_isFull 0 = .ok (.aload_n 0, 1) := by decide +kernel
theorem dX6_isFull_1 : decode cX6_isFull 1 = .ok (.getfield 36, 3) := by decide +kernel
theorem dX6_isFull_4 : decode cX6_isFull 4 = .ok (.bipush 60, 2) := by decide +kernel
theorem dX6_isFull_6 : decode cX6_isFull 6 = .ok (.if_icmp .lt 7, 3) := by decide +kernel
theorem dX6_isFull_9 : decode cX6_isFull 9 = .ok (.iconst 1, 1) := by decide +kernel
theorem dX6_isFull_10 : decode cX6_isFull 10 = .ok (.goto 4, 3) := by decide +kernel
theorem dX6_isFull_13 : decode cX6_isFull 13 = .ok (.iconst 0, 1) := by decide +kernel
theorem dX6_isFull_14 : decode cX6_isFull 14 = .ok (.ireturn, 1) := by decide +kernel
set_option maxRecDepth 20000 in
theorem ggX6_take_X6_isFull : GoodIn wsX6_take wsX6_isFull := goodIn_r _ [8, 1, 44, 45, 46, 47, 48, 49, 50, 51, 52, 53] (by decide +kernel) (by decide +kernel)
set_option maxRecDepth 20000 in
theorem gX6_take_X6_isFull : GoodIn wsX6_take (wsV RX6 45 RX6 yX6_isFull wsX6_isFull) := goodIn_app (goodIn_of _ (by decide +kernel)) ggX6_take_X6_isFull
set_option maxRecDepth 20000 in
theorem ggX6_take_X6_isRich : GoodIn wsX6_take wsX6_isRich := goodIn_r _ [12, 13, 14, 15, 1, 16, 2, 17, 18, 19, 20, 21, 22, 23, 24, 25, 26, 27, 28, 29, 30, 31, 32, 33, 34, 35, 36, 37, 38, 39, 40, 41, 42, 43, 44, 45, 46, 47, 48, 49, 50, 51, 52, 53, 54, 55] (by decide +kernel) (by decide +kernel)
set_option maxRecDepth 20000 in
theorem gX6_take_X6_isRich : GoodIn wsX6_take (wsV RX6 49 RX6 yX6_isRich wsX6_isRich) := goodIn_app (goodIn_of _ (by decide +kernel)) ggX6_take_X6_isRich
theorem dX6_take_0 : decode cX6_take 0 = .ok (.aload_n 0, 1) := by decide +kernel
theorem dX6_take_1 : decode cX6_take 1 = .ok (.invokevirtual 45, 3) := by decide +kernel
theorem dX6_take_4 : decode cX6_take 4 = .ok (.ifCond .eq 4, 3) := by decide +kernel
theorem dX6_take_7 : decode cX6_take 7 = .ok (.return_, 1) := by decide +kernel
theorem dX6_take_8 : decode cX6_take 8 = .ok (.aload_n 0, 1) := by decide +kernel
theorem dX6_take_9 : decode cX6_take 9 = .ok (.dup, 1) := by decide +kernel
theorem dX6_take_10 : decode cX6_take 10 = .ok (.getfield 36, 3) := by decide +kernel
theorem dX6_take_13 : decode cX6_take 13 = .ok (.iconst 1, 1) := by decide +kernel
theorem dX6_take_14 : decode cX6_take 14 = .ok (.iadd, 1) := by decide +kernel
theorem dX6_take_15 : decode cX6_take 15 = .ok (.putfield 36, 3) := by decide +kernel
theorem dX6_take_18 : decode cX6_take 18 = .ok (.iload_n 1, 1) := by decide +kernel
theorem dX6_take_19 : decode cX6_take 19 = .ok (.ifCond .eq 13, 3) := by decide +kernel
theorem dX6_take_22 : decode cX6_take 22 = .ok (.aload_n 0, 1) := by decide +kernel
theorem dX6_take_23 : decode cX6_take 23 = .ok (.dup, 1) := by decide +kernel
theorem dX6_take_24 : decode cX6_take 24 = .ok (.getfield 39, 3) := by decide +kernel
theorem dX6_take_27 : decode cX6_take 27 = .ok (.iconst 1, 1) := by decide +kernel
theorem dX6_take_28 : decode cX6_take 28 = .ok (.iadd, 1) := by decide +kernel
theorem dX6_take_29 : decode cX6_take 29 = .ok (.putfield 39, 3) := by decide +kernel
theorem dX6_take_32 : decode cX6_take 32 = .ok (.aload_n 0, 1) := by decide +kernel
theorem dX6_take_33 : decode cX6_take 33 = .ok (.getfield 42, 3) := by decide +kernel
theorem dX6_take_36 : decode cX6_take 36 = .ok (.ifCond .ne 18, 3) := by decide +kernel
theorem dX6_take_39 : decode cX6_take 39 = .ok (.aload_n 0, 1) := by decide +kernel
theorem dX6_take_40 : decode cX6_take 40 = .ok (.invokevirtual 49, 3) := by decide +kernel
theorem dX6_take_43 : decode cX6_take 43 = .ok (.ifCond .eq 11, 3) := by decide +kernel
theorem dX6_take_46 : decode cX6_take 46 = .ok (.aload_n 0, 1) := by decide +kernel
theorem dX6_take_47 : decode cX6_take 47 = .ok (.aload_n 0, 1) := by decide +kernel
theorem dX6_take_48 : decode cX6_take 48 = .ok (.getfield 36, 3) := by decide +kernel
theorem dX6_take_51 : decode cX6_take 51 = .ok (.putfield 42, 3) := by decide +kernel
theorem dX6_take_54 : decode cX6_take 54 = .ok (.return_, 1) := by decide +kernel
theorem dX6_tries_0 : decode cX6_tries 0 = .ok (.aload_n 0, 1) := by decide +kernel
theorem dX6_tries_1 : decode cX6_tries 1 = .ok (.getfield 36, 3) := by decide +kernel
theorem dX6_tries_4 : decode cX6_tries 4 = .ok (.ireturn, 1) := by decide +kernel
theorem dX6_hits_0 : decode cX6_hits 0 = .ok (.aload_n 0, 1) := by decide +kernel
theorem dX6_hits_1 : decode cX6_hits 1 = .ok (.getfield 39, 3) := by decide +kernel
theorem dX6_hits_4 : decode cX6_hits 4 = .ok (.ireturn, 1) := by decide +kernel
theorem dX6_rejectedBehind_0 : decode cX6_rejectedBehind 0 = .ok (.aload_n 0, 1) := by decide +kernel
theorem dX6_rejectedBehind_1 : decode cX6_rejectedBehind 1 = .ok (.getfield 42, 3) := by decide +kernel
theorem dX6_rejectedBehind_4 : decode cX6_rejectedBehind 4 = .ok (.ireturn, 1) := by decide +kernel
set_option maxRecDepth 20000 in
theorem ggX6_isRich_X9_become : GoodIn wsX6_isRich wsX9_become := goodIn_r _ [13, 14, 15, 16, 44, 45] (by decide +kernel) (by decide +kernel)
set_option maxRecDepth 20000 in
theorem gX6_isRich_X9_become : GoodIn wsX6_isRich (wsV RX6 52 RX9 yX9_become wsX9_become) := goodIn_app (goodIn_of _ (by decide +kernel)) ggX6_isRich_X9_become
set_option maxRecDepth 20000 in
theorem ggX6_isRich_X9_multiplyOften : GoodIn wsX6_isRich wsX9_multiplyOften := goodIn_r _ [20, 21, 22, 23, 12, 24, 16, 14, 15, 44, 45] (by decide +kernel) (by decide +kernel)
set_option maxRecDepth 20000 in
theorem gX6_isRich_X9_multiplyOften : GoodIn wsX6_isRich (wsV RX6 56 RX9 yX9_multiplyOften wsX9_multiplyOften) := goodIn_app (goodIn_of _ (by decide +kernel)) ggX6_isRich_X9_multiplyOften
set_option maxRecDepth 20000 in
theorem ggX6_isRich_X3_setsOutOf : GoodIn wsX6_isRich wsX3_setsOutOf := goodIn_r _ [28] (by decide +kernel) (by decide +kernel)
set_option maxRecDepth 20000 in
theorem gX6_isRich_X3_setsOutOf : GoodIn wsX6_isRich (va_wsS RX6 60 yX3_setsOutOf wsX3_setsOutOf) := goodIn_app (goodIn_of _ (by decide +kernel)) ggX6_isRich_X3_setsOutOf
set_option maxRecDepth 20000 in
theorem ggX6_isRich_X9_multiply : GoodIn wsX6_isRich wsX9_multiply := goodIn_r _ [24, 16, 14, 15, 44, 45] (by decide +kernel) (by decide +kernel)
set_option maxRecDepth 20000 in
theorem gX6_isRich_X9_multiply : GoodIn wsX6_isRich (wsV RX6 66 RX9 yX9_multiply wsX9_multiply) := goodIn_app (goodIn_of _ (by decide +kernel)) ggX6_isRich_X9_multiply
set_option maxRecDepth 20000 in
theorem ggX6_isRich_X9_against : GoodIn wsX6_isRich wsX9_against := goodIn_r _ [33, 14, 44, 45] (by decide +kernel) (by decide +kernel)
set_option maxRecDepth 20000 in
theorem gX6_isRich_X9_against : GoodIn wsX6_isRich (wsV RX6 69 RX9 yX9_against wsX9_against) := goodIn_app (goodIn_of _ (by decide +kernel)) ggX6_isRich_X9_against
theorem dX6_isRich_0 : decode cX6_isRich 0 = .ok (.aload_n 0, 1) := by decide +kernel
theorem dX6_isRich_1 : decode cX6_isRich 1 = .ok (.getfield 10, 3) := by decide +kernel
theorem dX6_isRich_4 : decode cX6_isRich 4 = .ok (.aload_n 0, 1) := by decide +kernel
theorem dX6_isRich_5 : decode cX6_isRich 5 = .ok (.getfield 30, 3) := by decide +kernel
theorem dX6_isRich_8 : decode cX6_isRich 8 = .ok (.i2l, 1) := by decide +kernel
theorem dX6_isRich_9 : decode cX6_isRich 9 = .ok (.invokevirtual 52, 3) := by decide +kernel
theorem dX6_isRich_12 : decode cX6_isRich 12 = .ok (.aload_n 0, 1) := by decide +kernel
theorem dX6_isRich_13 : decode cX6_isRich 13 = .ok (.getfield 10, 3) := by decide +kernel
theorem dX6_isRich_16 : decode cX6_isRich 16 = .ok (.aload_n 0, 1) := by decide +kernel
theorem dX6_isRich_17 : decode cX6_isRich 17 = .ok (.getfield 27, 3) := by decide +kernel
theorem dX6_isRich_20 : decode cX6_isRich 20 = .ok (.i2l, 1) := by decide +kernel
theorem dX6_isRich_21 : decode cX6_isRich 21 = .ok (.aload_n 0, 1) := by decide +kernel
theorem dX6_isRich_22 : decode cX6_isRich 22 = .ok (.getfield 36, 3) := by decide +kernel
theorem dX6_isRich_25 : decode cX6_isRich 25 = .ok (.invokevirtual 56, 3) := by decide +kernel
theorem dX6_isRich_28 : decode cX6_isRich 28 = .ok (.aload_n 0, 1) := by decide +kernel
theorem dX6_isRich_29 : decode cX6_isRich 29 = .ok (.getfield 16, 3) := by decide +kernel
theorem dX6_isRich_32 : decode cX6_isRich 32 = .ok (.aload_n 0, 1) := by decide +kernel
theorem dX6_isRich_33 : decode cX6_isRich 33 = .ok (.getfield 36, 3) := by decide +kernel
theorem dX6_isRich_36 : decode cX6_isRich 36 = .ok (.aload_n 0, 1) := by decide +kernel
theorem dX6_isRich_37 : decode cX6_isRich 37 = .ok (.getfield 39, 3) := by decide +kernel
theorem dX6_isRich_40 : decode cX6_isRich 40 = .ok (.invokestatic 60, 3) := by decide +kernel
theorem dX6_isRich_43 : decode cX6_isRich 43 = .ok (.invokevirtual 52, 3) := by decide +kernel
theorem dX6_isRich_46 : decode cX6_isRich 46 = .ok (.aload_n 0, 1) := by decide +kernel
theorem dX6_isRich_47 : decode cX6_isRich 47 = .ok (.getfield 16, 3) := by decide +kernel
theorem dX6_isRich_50 : decode cX6_isRich 50 = .ok (.aload_n 0, 1) := by decide +kernel
theorem dX6_isRich_51 : decode cX6_isRich 51 = .ok (.getfield 36, 3) := by decide +kernel
theorem dX6_isRich_54 : decode cX6_isRich 54 = .ok (.iconst 1, 1) := by decide +kernel
theorem dX6_isRich_55 : decode cX6_isRich 55 = .ok (.iadd, 1) := by decide +kernel
theorem dX6_isRich_56 : decode cX6_isRich 56 = .ok (.i2l, 1) := by decide +kernel
theorem dX6_isRich_57 : decode cX6_isRich 57 = .ok (.invokevirtual 66, 3) := by decide +kernel
theorem dX6_isRich_60 : decode cX6_isRich 60 = .ok (.aload_n 0, 1) := by decide +kernel
theorem dX6_isRich_61 : decode cX6_isRich 61 = .ok (.getfield 16, 3) := by decide +kernel
theorem dX6_isRich_64 : decode cX6_isRich 64 = .ok (.aload_n 0, 1) := by decide +kernel
theorem dX6_isRich_65 : decode cX6_isRich 65 = .ok (.getfield 33, 3) := by decide +kernel
theorem dX6_isRich_68 : decode cX6_isRich 68 = .ok (.i2l, 1) := by decide +kernel
theorem dX6_isRich_69 : decode cX6_isRich 69 = .ok (.invokevirtual 66, 3) := by decide +kernel
theorem dX6_isRich_72 : decode cX6_isRich 72 = .ok (.aload_n 0, 1) := by decide +kernel
theorem dX6_isRich_73 : decode cX6_isRich 73 = .ok (.getfield 16, 3) := by decide +kernel
theorem dX6_isRich_76 : decode cX6_isRich 76 = .ok (.aload_n 0, 1) := by decide +kernel
theorem dX6_isRich_77 : decode cX6_isRich 77 = .ok (.getfield 23, 3) := by decide +kernel
theorem dX6_isRich_80 : decode cX6_isRich 80 = .ok (.i2l, 1) := by decide +kernel
theorem dX6_isRich_81 : decode cX6_isRich 81 = .ok (.aload_n 0, 1) := by decide +kernel
theorem dX6_isRich_82 : decode cX6_isRich 82 = .ok (.getfield 39, 3) := by decide +kernel
theorem dX6_isRich_85 : decode cX6_isRich 85 = .ok (.invokevirtual 56, 3) := by decide +kernel
theorem dX6_isRich_88 : decode cX6_isRich 88 = .ok (.aload_n 0, 1) := by decide +kernel
theorem dX6_isRich_89 : decode cX6_isRich 89 = .ok (.getfield 16, 3) := by decide +kernel
theorem dX6_isRich_92 : decode cX6_isRich 92 = .ok (.aload_n 0, 1) := by decide +kernel
theorem dX6_isRich_93 : decode cX6_isRich 93 = .ok (.getfield 27, 3) := by decide +kernel
theorem dX6_isRich_96 : decode cX6_isRich 96 = .ok (.aload_n 0, 1) := by decide +kernel
theorem dX6_isRich_97 : decode cX6_isRich 97 = .ok (.getfield 23, 3) := by decide +kernel
theorem dX6_isRich_100 : decode cX6_isRich 100 = .ok (.isub, 1) := by decide +kernel
theorem dX6_isRich_101 : decode cX6_isRich 101 = .ok (.i2l, 1) := by decide +kernel
theorem dX6_isRich_102 : decode cX6_isRich 102 = .ok (.aload_n 0, 1) := by decide +kernel
theorem dX6_isRich_103 : decode cX6_isRich 103 = .ok (.getfield 36, 3) := by decide +kernel
theorem dX6_isRich_106 : decode cX6_isRich 106 = .ok (.aload_n 0, 1) := by decide +kernel
theorem dX6_isRich_107 : decode cX6_isRich 107 = .ok (.getfield 39, 3) := by decide +kernel
theorem dX6_isRich_110 : decode cX6_isRich 110 = .ok (.isub, 1) := by decide +kernel
theorem dX6_isRich_111 : decode cX6_isRich 111 = .ok (.invokevirtual 56, 3) := by decide +kernel
theorem dX6_isRich_114 : decode cX6_isRich 114 = .ok (.aload_n 0, 1) := by decide +kernel
theorem dX6_isRich_115 : decode cX6_isRich 115 = .ok (.getfield 10, 3) := by decide +kernel
theorem dX6_isRich_118 : decode cX6_isRich 118 = .ok (.aload_n 0, 1) := by decide +kernel
theorem dX6_isRich_119 : decode cX6_isRich 119 = .ok (.getfield 16, 3) := by decide +kernel
theorem dX6_isRich_122 : decode cX6_isRich 122 = .ok (.invokevirtual 69, 3) := by decide +kernel
theorem dX6_isRich_125 : decode cX6_isRich 125 = .ok (.ifCond .lt 7, 3) := by decide +kernel
theorem dX6_isRich_128 : decode cX6_isRich 128 = .ok (.iconst 1, 1) := by decide +kernel
theorem dX6_isRich_129 : decode cX6_isRich 129 = .ok (.goto 4, 3) := by decide +kernel
theorem dX6_isRich_132 : decode cX6_isRich 132 = .ok (.iconst 0, 1) := by decide +kernel
theorem dX6_isRich_133 : decode cX6_isRich 133 = .ok (.ireturn, 1) := by decide +kernel
theorem dX7_init_0 : decode cX7_init 0 = .ok (.aload_n 0, 1) := by decide +kernel
theorem dX7_init_1 : decode cX7_init 1 = .ok (.invokespecial 1, 3) := by decide +kernel
theorem dX7_init_4 : decode cX7_init 4 = .ok (.aload_n 0, 1) := by decide +kernel
theorem dX7_init_5 : decode cX7_init 5 = .ok (.sipush 1501, 3) := by decide +kernel
theorem dX7_init_8 : decode cX7_init 8 = .ok (.newarray .long, 2) := by decide +kernel
theorem dX7_init_10 : decode cX7_init 10 = .ok (.putfield 9, 3) := by decide +kernel
theorem dX7_init_13 : decode cX7_init 13 = .ok (.aload_n 0, 1) := by decide +kernel
theorem dX7_init_14 : decode cX7_init 14 = .ok (.iconst 0, 1) := by decide +kernel
theorem dX7_init_15 : decode cX7_init 15 = .ok (.putfield 13, 3) := by decide +kernel
theorem dX7_init_18 : decode cX7_init 18 = .ok (.aload_n 0, 1) := by decide +kernel
theorem dX7_init_19 : decode cX7_init 19 = .ok (.iconst 0, 1) := by decide +kernel
theorem dX7_init_20 : decode cX7_init 20 = .ok (.putfield 17, 3) := by decide +kernel
theorem dX7_init_23 : decode cX7_init 23 = .ok (.aload_n 0, 1) := by decide +kernel
theorem dX7_init_24 : decode cX7_init 24 = .ok (.iconst 0, 1) := by decide +kernel
theorem dX7_init_25 : decode cX7_init 25 = .ok (.putfield 20, 3) := by decide +kernel
theorem dX7_init_28 : decode cX7_init 28 = .ok (.return_, 1) := by decide +kernel
set_option maxRecDepth 20000 in
theorem ggX7_take_X7_measure : GoodIn wsX7_take wsX7_measure := goodIn_r _ [13, 14, 15, 16, 17, 18, 4, 19, 20, 21, 22, 23, 24, 25, 26, 27, 28, 29, 30, 39, 40, 41, 42, 43, 44, 45] (by decide +kernel) (by decide +kernel)
set_option maxRecDepth 20000 in
theorem gX7_take_X7_measure : GoodIn wsX7_take (wsV RX7 23 RX7 yX7_measure wsX7_measure) := goodIn_app (goodIn_of _ (by decide +kernel)) ggX7_take_X7_measure
set_option maxRecDepth 20000 in
theorem ggX7_take_X7_reach : GoodIn wsX7_take wsX7_reach := goodIn_r _ [34, 15, 16, 6, 7, 4, 8, 39, 40, 41, 42] (by decide +kernel) (by decide +kernel)
set_option maxRecDepth 20000 in
theorem gX7_take_X7_reach : GoodIn wsX7_take (wsV RX7 27 RX7 yX7_reach wsX7_reach) := goodIn_app (goodIn_of _ (by decide +kernel)) ggX7_take_X7_reach
set_option maxRecDepth 20000 in
theorem ggX7_take_X8_size : GoodIn wsX7_take wsX8_size := goodIn_r _ [24, 25, 43, 44, 45] (by decide +kernel) (by decide +kernel)
set_option maxRecDepth 20000 in
theorem gX7_take_X8_size : GoodIn wsX7_take (wsV RX7 31 RX8 yX8_size wsX8_size) := goodIn_app (goodIn_of _ (by decide +kernel)) ggX7_take_X8_size
set_option maxRecDepth 20000 in
theorem ggX7_take_X8_difference : GoodIn wsX7_take wsX8_difference := goodIn_r _ [29, 25, 30, 43, 44, 45] (by decide +kernel) (by decide +kernel)
set_option maxRecDepth 20000 in
theorem gX7_take_X8_difference : GoodIn wsX7_take (wsV RX7 36 RX8 yX8_difference wsX8_difference) := goodIn_app (goodIn_of _ (by decide +kernel)) ggX7_take_X8_difference
set_option maxRecDepth 20000 in
theorem ggX7_take_X7_takeSign : GoodIn wsX7_take wsX7_takeSign := goodIn_r _ [38, 1, 39, 40, 41, 42] (by decide +kernel) (by decide +kernel)
set_option maxRecDepth 20000 in
theorem gX7_take_X7_takeSign : GoodIn wsX7_take (wsV RX7 49 RX7 yX7_takeSign wsX7_takeSign) := goodIn_app (goodIn_of _ (by decide +kernel)) ggX7_take_X7_takeSign
theorem dX7_take_0 : decode cX7_take 0 = .ok (.aload_n 0, 1) := by decide +kernel
theorem dX7_take_1 : decode cX7_take 1 = .ok (.aload_n 1, 1) := by decide +kernel
theorem dX7_take_2 : decode cX7_take 2 = .ok (.invokevirtual 23, 3) := by decide +kernel
theorem dX7_take_5 : decode cX7_take 5 = .ok (.aload_n 0, 1) := by decide +kernel
theorem dX7_take_6 : decode cX7_take 6 = .ok (.invokevirtual 27, 3) := by decide +kernel
theorem dX7_take_9 : decode cX7_take 9 = .ok (.istore_n 2, 1) := by decide +kernel
theorem dX7_take_10 : decode cX7_take 10 = .ok (.iconst 0, 1) := by decide +kernel
theorem dX7_take_11 : decode cX7_take 11 = .ok (.istore_n 3, 1) := by decide +kernel
theorem dX7_take_12 : decode cX7_take 12 = .ok (.iload_n 3, 1) := by decide +kernel
theorem dX7_take_13 : decode cX7_take 13 = .ok (.iload_n 2, 1) := by decide +kernel
theorem dX7_take_14 : decode cX7_take 14 = .ok (.if_icmp .gt 16, 3) := by decide +kernel
theorem dX7_take_17 : decode cX7_take 17 = .ok (.aload_n 0, 1) := by decide +kernel
theorem dX7_take_18 : decode cX7_take 18 = .ok (.getfield 9, 3) := by decide +kernel
theorem dX7_take_21 : decode cX7_take 21 = .ok (.iload_n 3, 1) := by decide +kernel
theorem dX7_take_22 : decode cX7_take 22 = .ok (.lconst 0, 1) := by decide +kernel
theorem dX7_take_23 : decode cX7_take 23 = .ok (.lastore, 1) := by decide +kernel
theorem dX7_take_24 : decode cX7_take 24 = .ok (.iinc 3 1, 3) := by decide +kernel
theorem dX7_take_27 : decode cX7_take 27 = .ok (.goto (-15), 3) := by decide +kernel
theorem dX7_take_30 : decode cX7_take 30 = .ok (.aload_n 0, 1) := by decide +kernel
theorem dX7_take_31 : decode cX7_take 31 = .ok (.getfield 9, 3) := by decide +kernel
theorem dX7_take_34 : decode cX7_take 34 = .ok (.iconst 0, 1) := by decide +kernel
theorem dX7_take_35 : decode cX7_take 35 = .ok (.lconst 1, 1) := by decide +kernel
theorem dX7_take_36 : decode cX7_take 36 = .ok (.lastore, 1) := by decide +kernel
theorem dX7_take_37 : decode cX7_take 37 = .ok (.iconst 0, 1) := by decide +kernel
theorem dX7_take_38 : decode cX7_take 38 = .ok (.istore_n 3, 1) := by decide +kernel
theorem dX7_take_39 : decode cX7_take 39 = .ok (.iconst 0, 1) := by decide +kernel
theorem dX7_take_40 : decode cX7_take 40 = .ok (.istore 4, 2) := by decide +kernel
theorem dX7_take_42 : decode cX7_take 42 = .ok (.iload 4, 2) := by decide +kernel
theorem dX7_take_44 : decode cX7_take 44 = .ok (.aload_n 1, 1) := by decide +kernel
theorem dX7_take_45 : decode cX7_take 45 = .ok (.invokevirtual 31, 3) := by decide +kernel
theorem dX7_take_48 : decode cX7_take 48 = .ok (.if_icmp .ge 41, 3) := by decide +kernel
theorem dX7_take_51 : decode cX7_take 51 = .ok (.aload_n 1, 1) := by decide +kernel
theorem dX7_take_52 : decode cX7_take 52 = .ok (.iload 4, 2) := by decide +kernel
theorem dX7_take_54 : decode cX7_take 54 = .ok (.invokevirtual 36, 3) := by decide +kernel
theorem dX7_take_57 : decode cX7_take 57 = .ok (.invokestatic 40, 3) := by decide +kernel
theorem dX7_take_60 : decode cX7_take 60 = .ok (.istore 5, 2) := by decide +kernel
theorem dX7_take_62 : decode cX7_take 62 = .ok (.iload 5, 2) := by decide +kernel
theorem dX7_take_64 : decode cX7_take 64 = .ok (.ifCond .le 19, 3) := by decide +kernel
theorem dX7_take_67 : decode cX7_take 67 = .ok (.iload_n 3, 1) := by decide +kernel
theorem dX7_take_68 : decode cX7_take 68 = .ok (.iload 5, 2) := by decide +kernel
theorem dX7_take_70 : decode cX7_take 70 = .ok (.iadd, 1) := by decide +kernel
theorem dX7_take_71 : decode cX7_take 71 = .ok (.iload_n 2, 1) := by decide +kernel
theorem dX7_take_72 : decode cX7_take 72 = .ok (.invokestatic 45, 3) := by decide +kernel
theorem dX7_take_75 : decode cX7_take 75 = .ok (.istore_n 3, 1) := by decide +kernel
theorem dX7_take_76 : decode cX7_take 76 = .ok (.aload_n 0, 1) := by decide +kernel
theorem dX7_take_77 : decode cX7_take 77 = .ok (.iload 5, 2) := by decide +kernel
end
section
theorem dX7_take_79 : decode cX7_take 79 = .ok (.iload_n 3, 1) := by decide +kernel
theorem dX7_take_80 : decode cX7_take 80 = .ok (.invokevirtual 49, 3) := by decide +kernel
theorem dX7_take_83 : decode cX7_take 83 = .ok (.iinc 4 1, 3) := by decide +kernel
theorem dX7_take_86 : decode cX7_take 86 = .ok (.goto (-44), 3) := by decide +kernel
theorem dX7_take_89 : decode cX7_take 89 = .ok (.return_, 1) := by decide +kernel
set_option maxRecDepth 20000 in
theorem ggX7_measure_X8_size : GoodIn wsX7_measure wsX8_size := goodIn_r _ [12, 13, 23, 24, 25] (by decide +kernel) (by decide +kernel)
set_option maxRecDepth 20000 in
theorem gX7_measure_X8_size : GoodIn wsX7_measure (wsV RX7 31 RX8 yX8_size wsX8_size) := goodIn_app (goodIn_of _ (by decide +kernel)) ggX7_measure_X8_size
set_option maxRecDepth 20000 in
theorem ggX7_measure_X8_difference : GoodIn wsX7_measure wsX8_difference := goodIn_r _ [17, 13, 18, 23, 24, 25] (by decide +kernel) (by decide +kernel)
set_option maxRecDepth 20000 in
theorem gX7_measure_X8_difference : GoodIn wsX7_measure (wsV RX7 36 RX8 yX8_difference wsX8_difference) := goodIn_app (goodIn_of _ (by decide +kernel)) ggX7_measure_X8_difference
theorem dX7_measure_0 : decode cX7_measure 0 = .ok (.aload_n 0, 1) := by decide +kernel
theorem dX7_measure_1 : decode cX7_measure 1 = .ok (.iconst 0, 1) := by decide +kernel
theorem dX7_measure_2 : decode cX7_measure 2 = .ok (.putfield 13, 3) := by decide +kernel
theorem dX7_measure_5 : decode cX7_measure 5 = .ok (.aload_n 0, 1) := by decide +kernel
theorem dX7_measure_6 : decode cX7_measure 6 = .ok (.iconst 0, 1) := by decide +kernel
theorem dX7_measure_7 : decode cX7_measure 7 = .ok (.putfield 17, 3) := by decide +kernel
theorem dX7_measure_10 : decode cX7_measure 10 = .ok (.aload_n 0, 1) := by decide +kernel
theorem dX7_measure_11 : decode cX7_measure 11 = .ok (.iconst 0, 1) := by decide +kernel
theorem dX7_measure_12 : decode cX7_measure 12 = .ok (.putfield 20, 3) := by decide +kernel
theorem dX7_measure_15 : decode cX7_measure 15 = .ok (.iconst 0, 1) := by decide +kernel
theorem dX7_measure_16 : decode cX7_measure 16 = .ok (.istore_n 2, 1) := by decide +kernel
theorem dX7_measure_17 : decode cX7_measure 17 = .ok (.iload_n 2, 1) := by decide +kernel
theorem dX7_measure_18 : decode cX7_measure 18 = .ok (.aload_n 1, 1) := by decide +kernel
theorem dX7_measure_19 : decode cX7_measure 19 = .ok (.invokevirtual 31, 3) := by decide +kernel
theorem dX7_measure_22 : decode cX7_measure 22 = .ok (.if_icmp .ge 58, 3) := by decide +kernel
theorem dX7_measure_25 : decode cX7_measure 25 = .ok (.aload_n 1, 1) := by decide +kernel
theorem dX7_measure_26 : decode cX7_measure 26 = .ok (.iload_n 2, 1) := by decide +kernel
theorem dX7_measure_27 : decode cX7_measure 27 = .ok (.invokevirtual 36, 3) := by decide +kernel
theorem dX7_measure_30 : decode cX7_measure 30 = .ok (.istore_n 3, 1) := by decide +kernel
theorem dX7_measure_31 : decode cX7_measure 31 = .ok (.iload_n 3, 1) := by decide +kernel
theorem dX7_measure_32 : decode cX7_measure 32 = .ok (.ifCond .eq 13, 3) := by decide +kernel
theorem dX7_measure_35 : decode cX7_measure 35 = .ok (.aload_n 0, 1) := by decide +kernel
theorem dX7_measure_36 : decode cX7_measure 36 = .ok (.dup, 1) := by decide +kernel
theorem dX7_measure_37 : decode cX7_measure 37 = .ok (.getfield 13, 3) := by decide +kernel
theorem dX7_measure_40 : decode cX7_measure 40 = .ok (.iconst 1, 1) := by decide +kernel
theorem dX7_measure_41 : decode cX7_measure 41 = .ok (.iadd, 1) := by decide +kernel
theorem dX7_measure_42 : decode cX7_measure 42 = .ok (.putfield 13, 3) := by decide +kernel
theorem dX7_measure_45 : decode cX7_measure 45 = .ok (.aload_n 0, 1) := by decide +kernel
theorem dX7_measure_46 : decode cX7_measure 46 = .ok (.dup, 1) := by decide +kernel
theorem dX7_measure_47 : decode cX7_measure 47 = .ok (.getfield 17, 3) := by decide +kernel
theorem dX7_measure_50 : decode cX7_measure 50 = .ok (.iload_n 3, 1) := by decide +kernel
theorem dX7_measure_51 : decode cX7_measure 51 = .ok (.iconst 0, 1) := by decide +kernel
theorem dX7_measure_52 : decode cX7_measure 52 = .ok (.invokestatic 53, 3) := by decide +kernel
theorem dX7_measure_55 : decode cX7_measure 55 = .ok (.iadd, 1) := by decide +kernel
theorem dX7_measure_56 : decode cX7_measure 56 = .ok (.putfield 17, 3) := by decide +kernel
theorem dX7_measure_59 : decode cX7_measure 59 = .ok (.aload_n 0, 1) := by decide +kernel
theorem dX7_measure_60 : decode cX7_measure 60 = .ok (.dup, 1) := by decide +kernel
theorem dX7_measure_61 : decode cX7_measure 61 = .ok (.getfield 20, 3) := by decide +kernel
theorem dX7_measure_64 : decode cX7_measure 64 = .ok (.iload_n 3, 1) := by decide +kernel
theorem dX7_measure_65 : decode cX7_measure 65 = .ok (.ineg, 1) := by decide +kernel
theorem dX7_measure_66 : decode cX7_measure 66 = .ok (.iconst 0, 1) := by decide +kernel
theorem dX7_measure_67 : decode cX7_measure 67 = .ok (.invokestatic 53, 3) := by decide +kernel
theorem dX7_measure_70 : decode cX7_measure 70 = .ok (.iadd, 1) := by decide +kernel
theorem dX7_measure_71 : decode cX7_measure 71 = .ok (.putfield 20, 3) := by decide +kernel
theorem dX7_measure_74 : decode cX7_measure 74 = .ok (.iinc 2 1, 3) := by decide +kernel
theorem dX7_measure_77 : decode cX7_measure 77 = .ok (.goto (-60), 3) := by decide +kernel
theorem dX7_measure_80 : decode cX7_measure 80 = .ok (.return_, 1) := by decide +kernel
theorem dX7_reach_0 : decode cX7_reach 0 = .ok (.aload_n 0, 1) := by decide +kernel
theorem dX7_reach_1 : decode cX7_reach 1 = .ok (.getfield 17, 3) := by decide +kernel
theorem dX7_reach_4 : decode cX7_reach 4 = .ok (.aload_n 0, 1) := by decide +kernel
theorem dX7_reach_5 : decode cX7_reach 5 = .ok (.getfield 20, 3) := by decide +kernel
theorem dX7_reach_8 : decode cX7_reach 8 = .ok (.invokestatic 45, 3) := by decide +kernel
theorem dX7_reach_11 : decode cX7_reach 11 = .ok (.sipush 1500, 3) := by decide +kernel
theorem dX7_reach_14 : decode cX7_reach 14 = .ok (.invokestatic 45, 3) := by decide +kernel
theorem dX7_reach_17 : decode cX7_reach 17 = .ok (.ireturn, 1) := by decide +kernel
theorem dX7_takeSign_0 : decode cX7_takeSign 0 = .ok (.iload_n 2, 1) := by decide +kernel
theorem dX7_takeSign_1 : decode cX7_takeSign 1 = .ok (.istore_n 3, 1) := by decide +kernel
theorem dX7_takeSign_2 : decode cX7_takeSign 2 = .ok (.iload_n 3, 1) := by decide +kernel
theorem dX7_takeSign_3 : decode cX7_takeSign 3 = .ok (.iload_n 1, 1) := by decide +kernel
theorem dX7_takeSign_4 : decode cX7_takeSign 4 = .ok (.if_icmp .lt 26, 3) := by decide +kernel
theorem dX7_takeSign_7 : decode cX7_takeSign 7 = .ok (.aload_n 0, 1) := by decide +kernel
theorem dX7_takeSign_8 : decode cX7_takeSign 8 = .ok (.getfield 9, 3) := by decide +kernel
theorem dX7_takeSign_11 : decode cX7_takeSign 11 = .ok (.iload_n 3, 1) := by decide +kernel
theorem dX7_takeSign_12 : decode cX7_takeSign 12 = .ok (.dup2, 1) := by decide +kernel
theorem dX7_takeSign_13 : decode cX7_takeSign 13 = .ok (.laload, 1) := by decide +kernel
theorem dX7_takeSign_14 : decode cX7_takeSign 14 = .ok (.aload_n 0, 1) := by decide +kernel
theorem dX7_takeSign_15 : decode cX7_takeSign 15 = .ok (.getfield 9, 3) := by decide +kernel
theorem dX7_takeSign_18 : decode cX7_takeSign 18 = .ok (.iload_n 3, 1) := by decide +kernel
theorem dX7_takeSign_19 : decode cX7_takeSign 19 = .ok (.iload_n 1, 1) := by decide +kernel
theorem dX7_takeSign_20 : decode cX7_takeSign 20 = .ok (.isub, 1) := by decide +kernel
theorem dX7_takeSign_21 : decode cX7_takeSign 21 = .ok (.laload, 1) := by decide +kernel
theorem dX7_takeSign_22 : decode cX7_takeSign 22 = .ok (.ladd, 1) := by decide +kernel
theorem dX7_takeSign_23 : decode cX7_takeSign 23 = .ok (.lastore, 1) := by decide +kernel
theorem dX7_takeSign_24 : decode cX7_takeSign 24 = .ok (.iinc 3 (-1), 3) := by decide +kernel
theorem dX7_takeSign_27 : decode cX7_takeSign 27 = .ok (.goto (-25), 3) := by decide +kernel
theorem dX7_takeSign_30 : decode cX7_takeSign 30 = .ok (.return_, 1) := by decide +kernel
theorem dX7_signs_0 : decode cX7_signs 0 = .ok (.aload_n 0, 1) := by decide +kernel
theorem dX7_signs_1 : decode cX7_signs 1 = .ok (.getfield 13, 3) := by decide +kernel
theorem dX7_signs_4 : decode cX7_signs 4 = .ok (.ireturn, 1) := by decide +kernel
set_option maxRecDepth 20000 in
theorem ggX7_waysAtLeast_X7_waysUpTo : GoodIn wsX7_waysAtLeast wsX7_waysUpTo := goodIn_r _ [7, 8, 9, 10, 11, 12, 18, 19, 20, 21] (by decide +kernel) (by decide +kernel)
set_option maxRecDepth 20000 in
theorem gX7_waysAtLeast_X7_waysUpTo : GoodIn wsX7_waysAtLeast (wsV RX7 56 RX7 yX7_waysUpTo wsX7_waysUpTo) := goodIn_app (goodIn_of _ (by decide +kernel)) ggX7_waysAtLeast_X7_waysUpTo
set_option maxRecDepth 20000 in
theorem ggX7_waysAtLeast_X7_allWays : GoodIn wsX7_waysAtLeast wsX7_allWays := goodIn_r _ [16, 17, 18, 19, 20, 21] (by decide +kernel) (by decide +kernel)
set_option maxRecDepth 20000 in
theorem gX7_waysAtLeast_X7_allWays : GoodIn wsX7_waysAtLeast (wsV RX7 60 RX7 yX7_allWays wsX7_allWays) := goodIn_app (goodIn_of _ (by decide +kernel)) ggX7_waysAtLeast_X7_allWays
theorem dX7_waysAtLeast_0 : decode cX7_waysAtLeast 0 = .ok (.aload_n 0, 1) := by decide +kernel
theorem dX7_waysAtLeast_1 : decode cX7_waysAtLeast 1 = .ok (.getfield 17, 3) := by decide +kernel
theorem dX7_waysAtLeast_4 : decode cX7_waysAtLeast 4 = .ok (.aload_n 0, 1) := by decide +kernel
theorem dX7_waysAtLeast_5 : decode cX7_waysAtLeast 5 = .ok (.getfield 20, 3) := by decide +kernel
theorem dX7_waysAtLeast_8 : decode cX7_waysAtLeast 8 = .ok (.if_icmp .lt 14, 3) := by decide +kernel
theorem dX7_waysAtLeast_11 : decode cX7_waysAtLeast 11 = .ok (.aload_n 0, 1) := by decide +kernel
theorem dX7_waysAtLeast_12 : decode cX7_waysAtLeast 12 = .ok (.aload_n 0, 1) := by decide +kernel
theorem dX7_waysAtLeast_13 : decode cX7_waysAtLeast 13 = .ok (.getfield 20, 3) := by decide +kernel
theorem dX7_waysAtLeast_16 : decode cX7_waysAtLeast 16 = .ok (.invokevirtual 56, 3) := by decide +kernel
theorem dX7_waysAtLeast_19 : decode cX7_waysAtLeast 19 = .ok (.goto 18, 3) := by decide +kernel
theorem dX7_waysAtLeast_22 : decode cX7_waysAtLeast 22 = .ok (.aload_n 0, 1) := by decide +kernel
theorem dX7_waysAtLeast_23 : decode cX7_waysAtLeast 23 = .ok (.invokevirtual 60, 3) := by decide +kernel
theorem dX7_waysAtLeast_26 : decode cX7_waysAtLeast 26 = .ok (.aload_n 0, 1) := by decide +kernel
theorem dX7_waysAtLeast_27 : decode cX7_waysAtLeast 27 = .ok (.aload_n 0, 1) := by decide +kernel
theorem dX7_waysAtLeast_28 : decode cX7_waysAtLeast 28 = .ok (.getfield 17, 3) := by decide +kernel
theorem dX7_waysAtLeast_31 : decode cX7_waysAtLeast 31 = .ok (.iconst 1, 1) := by decide +kernel
theorem dX7_waysAtLeast_32 : decode cX7_waysAtLeast 32 = .ok (.isub, 1) := by decide +kernel
theorem dX7_waysAtLeast_33 : decode cX7_waysAtLeast 33 = .ok (.invokevirtual 56, 3) := by decide +kernel
theorem dX7_waysAtLeast_36 : decode cX7_waysAtLeast 36 = .ok (.lsub, 1) := by decide +kernel
theorem dX7_waysAtLeast_37 : decode cX7_waysAtLeast 37 = .ok (.lreturn, 1) := by decide +kernel
set_option maxRecDepth 20000 in
theorem ggX7_waysAsFar_X7_allWays : GoodIn wsX7_waysAsFar wsX7_allWays := goodIn_r _ [8, 9, 23, 24, 25, 26] (by decide +kernel) (by decide +kernel)
set_option maxRecDepth 20000 in
theorem gX7_waysAsFar_X7_allWays : GoodIn wsX7_waysAsFar (wsV RX7 60 RX7 yX7_allWays wsX7_allWays) := goodIn_app (goodIn_of _ (by decide +kernel)) ggX7_waysAsFar_X7_allWays
set_option maxRecDepth 20000 in
theorem ggX7_waysAsFar_X7_reach : GoodIn wsX7_waysAsFar wsX7_reach := goodIn_r _ [13, 1, 2, 14, 15, 16, 17, 23, 24, 25, 26] (by decide +kernel) (by decide +kernel)
set_option maxRecDepth 20000 in
theorem gX7_waysAsFar_X7_reach : GoodIn wsX7_waysAsFar (wsV RX7 27 RX7 yX7_reach wsX7_reach) := goodIn_app (goodIn_of _ (by decide +kernel)) ggX7_waysAsFar_X7_reach
set_option maxRecDepth 20000 in
theorem ggX7_waysAsFar_X7_waysUpTo : GoodIn wsX7_waysAsFar wsX7_waysUpTo := goodIn_r _ [21, 14, 15, 16, 17, 22, 23, 24, 25, 26] (by decide +kernel) (by decide +kernel)
set_option maxRecDepth 20000 in
theorem gX7_waysAsFar_X7_waysUpTo : GoodIn wsX7_waysAsFar (wsV RX7 56 RX7 yX7_waysUpTo wsX7_waysUpTo) := goodIn_app (goodIn_of _ (by decide +kernel)) ggX7_waysAsFar_X7_waysUpTo
theorem dX7_waysAsFar_0 : decode cX7_waysAsFar 0 = .ok (.aload_n 0, 1) := by decide +kernel
theorem dX7_waysAsFar_1 : decode cX7_waysAsFar 1 = .ok (.getfield 17, 3) := by decide +kernel
theorem dX7_waysAsFar_4 : decode cX7_waysAsFar 4 = .ok (.aload_n 0, 1) := by decide +kernel
theorem dX7_waysAsFar_5 : decode cX7_waysAsFar 5 = .ok (.getfield 20, 3) := by decide +kernel
theorem dX7_waysAsFar_8 : decode cX7_waysAsFar 8 = .ok (.if_icmp .ne 10, 3) := by decide +kernel
theorem dX7_waysAsFar_11 : decode cX7_waysAsFar 11 = .ok (.aload_n 0, 1) := by decide +kernel
theorem dX7_waysAsFar_12 : decode cX7_waysAsFar 12 = .ok (.invokevirtual 60, 3) := by decide +kernel
theorem dX7_waysAsFar_15 : decode cX7_waysAsFar 15 = .ok (.goto 15, 3) := by decide +kernel
theorem dX7_waysAsFar_18 : decode cX7_waysAsFar 18 = .ok (.ldc2_w 64, 3) := by decide +kernel
theorem dX7_waysAsFar_21 : decode cX7_waysAsFar 21 = .ok (.aload_n 0, 1) := by decide +kernel
theorem dX7_waysAsFar_22 : decode cX7_waysAsFar 22 = .ok (.aload_n 0, 1) := by decide +kernel
theorem dX7_waysAsFar_23 : decode cX7_waysAsFar 23 = .ok (.invokevirtual 27, 3) := by decide +kernel
theorem dX7_waysAsFar_26 : decode cX7_waysAsFar 26 = .ok (.invokevirtual 56, 3) := by decide +kernel
theorem dX7_waysAsFar_29 : decode cX7_waysAsFar 29 = .ok (.lmul, 1) := by decide +kernel
theorem dX7_waysAsFar_30 : decode cX7_waysAsFar 30 = .ok (.lreturn, 1) := by decide +kernel
theorem dX7_allWays_0 : decode cX7_allWays 0 = .ok (.lconst 1, 1) := by decide +kernel
theorem dX7_allWays_1 : decode cX7_allWays 1 = .ok (.aload_n 0, 1) := by decide +kernel
theorem dX7_allWays_2 : decode cX7_allWays 2 = .ok (.getfield 13, 3) := by decide +kernel
theorem dX7_allWays_5 : decode cX7_allWays 5 = .ok (.lshl, 1) := by decide +kernel
theorem dX7_allWays_6 : decode cX7_allWays 6 = .ok (.lreturn, 1) := by decide +kernel
theorem dX7_waysUpTo_0 : decode cX7_waysUpTo 0 = .ok (.iload_n 1, 1) := by decide +kernel
theorem dX7_waysUpTo_1 : decode cX7_waysUpTo 1 = .ok (.sipush 1500, 3) := by decide +kernel
theorem dX7_waysUpTo_4 : decode cX7_waysUpTo 4 = .ok (.invokestatic 45, 3) := by decide +kernel
theorem dX7_waysUpTo_7 : decode cX7_waysUpTo 7 = .ok (.istore_n 2, 1) := by decide +kernel
theorem dX7_waysUpTo_8 : decode cX7_waysUpTo 8 = .ok (.lconst 0, 1) := by decide +kernel
theorem dX7_waysUpTo_9 : decode cX7_waysUpTo 9 = .ok (.lstore_n 3, 1) := by decide +kernel
theorem dX7_waysUpTo_10 : decode cX7_waysUpTo 10 = .ok (.iconst 0, 1) := by decide +kernel
theorem dX7_waysUpTo_11 : decode cX7_waysUpTo 11 = .ok (.istore 5, 2) := by decide +kernel
theorem dX7_waysUpTo_13 : decode cX7_waysUpTo 13 = .ok (.iload 5, 2) := by decide +kernel
theorem dX7_waysUpTo_15 : decode cX7_waysUpTo 15 = .ok (.iload_n 2, 1) := by decide +kernel
theorem dX7_waysUpTo_16 : decode cX7_waysUpTo 16 = .ok (.if_icmp .gt 19, 3) := by decide +kernel
theorem dX7_waysUpTo_19 : decode cX7_waysUpTo 19 = .ok (.lload_n 3, 1) := by decide +kernel
theorem dX7_waysUpTo_20 : decode cX7_waysUpTo 20 = .ok (.aload_n 0, 1) := by decide +kernel
theorem dX7_waysUpTo_21 : decode cX7_waysUpTo 21 = .ok (.getfield 9, 3) := by decide +kernel
theorem dX7_waysUpTo_24 : decode cX7_waysUpTo 24 = .ok (.iload 5, 2) := by decide +kernel
theorem dX7_waysUpTo_26 : decode cX7_waysUpTo 26 = .ok (.laload, 1) := by decide +kernel
theorem dX7_waysUpTo_27 : decode cX7_waysUpTo 27 = .ok (.ladd, 1) := by decide +kernel
theorem dX7_waysUpTo_28 : decode cX7_waysUpTo 28 = .ok (.lstore_n 3, 1) := by decide +kernel
theorem dX7_waysUpTo_29 : decode cX7_waysUpTo 29 = .ok (.iinc 5 1, 3) := by decide +kernel
theorem dX7_waysUpTo_32 : decode cX7_waysUpTo 32 = .ok (.goto (-19), 3) := by decide +kernel
theorem dX7_waysUpTo_35 : decode cX7_waysUpTo 35 = .ok (.lload_n 3, 1) := by decide +kernel
theorem dX7_waysUpTo_36 : decode cX7_waysUpTo 36 = .ok (.lreturn, 1) := by decide +kernel
theorem dX8_init_0 : decode cX8_init 0 = .ok (.aload_n 0, 1) := by decide +kernel
theorem dX8_init_1 : decode cX8_init 1 = .ok (.invokespecial 1, 3) := by decide +kernel
theorem dX8_init_4 : decode cX8_init 4 = .ok (.aload_n 0, 1) := by decide +kernel
theorem dX8_init_5 : decode cX8_init 5 = .ok (.bipush 30, 2) := by decide +kernel
theorem dX8_init_7 : decode cX8_init 7 = .ok (.newarray .int, 2) := by decide +kernel
theorem dX8_init_9 : decode cX8_init 9 = .ok (.putfield 9, 3) := by decide +kernel
theorem dX8_init_12 : decode cX8_init 12 = .ok (.aload_n 0, 1) := by decide +kernel
theorem dX8_init_13 : decode cX8_init 13 = .ok (.bipush 30, 2) := by decide +kernel
theorem dX8_init_15 : decode cX8_init 15 = .ok (.newarray .int, 2) := by decide +kernel
theorem dX8_init_17 : decode cX8_init 17 = .ok (.putfield 15, 3) := by decide +kernel
theorem dX8_init_20 : decode cX8_init 20 = .ok (.aload_n 0, 1) := by decide +kernel
theorem dX8_init_21 : decode cX8_init 21 = .ok (.iconst 0, 1) := by decide +kernel
theorem dX8_init_22 : decode cX8_init 22 = .ok (.putfield 18, 3) := by decide +kernel
theorem dX8_init_25 : decode cX8_init 25 = .ok (.return_, 1) := by decide +kernel
set_option maxRecDepth 20000 in
theorem ggX8_take_X8_takeGroups : GoodIn wsX8_take wsX8_takeGroups := goodIn_r _ [6, 7, 8, 9, 10, 11, 12, 13, 14, 15, 16, 17, 18, 19, 20, 21, 22, 5, 23, 1, 24, 25, 41, 42, 43, 44, 38, 39, 40] (by decide +kernel) (by decide +kernel)
set_option maxRecDepth 20000 in
theorem gX8_take_X8_takeGroups : GoodIn wsX8_take (wsV RX8 22 RX8 yX8_takeGroups wsX8_takeGroups) := goodIn_app (goodIn_of _ (by decide +kernel)) ggX8_take_X8_takeGroups
set_option maxRecDepth 20000 in
theorem ggX8_take_X8_takeRows : GoodIn wsX8_take wsX8_takeRows := goodIn_r _ [29, 30, 31, 32, 10, 33, 12, 34, 35, 36, 37, 18, 19, 20, 21, 22, 5, 23, 1, 24, 25, 41, 42, 43, 44, 38, 39, 40] (by decide +kernel) (by decide +kernel)
set_option maxRecDepth 20000 in
theorem gX8_take_X8_takeRows : GoodIn wsX8_take (wsV RX8 26 RX8 yX8_takeRows wsX8_takeRows) := goodIn_app (goodIn_of _ (by decide +kernel)) ggX8_take_X8_takeRows
theorem dX8_take_0 : decode cX8_take 0 = .ok (.aload_n 0, 1) := by decide +kernel
theorem dX8_take_1 : decode cX8_take 1 = .ok (.iconst 0, 1) := by decide +kernel
theorem dX8_take_2 : decode cX8_take 2 = .ok (.putfield 18, 3) := by decide +kernel
theorem dX8_take_5 : decode cX8_take 5 = .ok (.iload_n 2, 1) := by decide +kernel
theorem dX8_take_6 : decode cX8_take 6 = .ok (.ifCond .eq 11, 3) := by decide +kernel
theorem dX8_take_9 : decode cX8_take 9 = .ok (.aload_n 0, 1) := by decide +kernel
theorem dX8_take_10 : decode cX8_take 10 = .ok (.aload_n 1, 1) := by decide +kernel
theorem dX8_take_11 : decode cX8_take 11 = .ok (.invokevirtual 22, 3) := by decide +kernel
theorem dX8_take_14 : decode cX8_take 14 = .ok (.goto 8, 3) := by decide +kernel
theorem dX8_take_17 : decode cX8_take 17 = .ok (.aload_n 0, 1) := by decide +kernel
theorem dX8_take_18 : decode cX8_take 18 = .ok (.aload_n 1, 1) := by decide +kernel
theorem dX8_take_19 : decode cX8_take 19 = .ok (.invokevirtual 26, 3) := by decide +kernel
theorem dX8_take_22 : decode cX8_take 22 = .ok (.return_, 1) := by decide +kernel
set_option maxRecDepth 20000 in
theorem ggX8_takeRows_X5_size : GoodIn wsX8_takeRows wsX5_size := goodIn_r _ [5, 6, 21, 22, 23, 24] (by decide +kernel) (by decide +kernel)
set_option maxRecDepth 20000 in
theorem gX8_takeRows_X5_size : GoodIn wsX8_takeRows (wsV RX8 29 RX5 yX5_size wsX5_size) := goodIn_app (goodIn_of _ (by decide +kernel)) ggX8_takeRows_X5_size
set_option maxRecDepth 20000 in
theorem ggX8_takeRows_X5_difference : GoodIn wsX8_takeRows wsX5_difference := goodIn_r _ [10, 6, 11, 12, 21, 22, 23, 24] (by decide +kernel) (by decide +kernel)
set_option maxRecDepth 20000 in
theorem gX8_takeRows_X5_difference : GoodIn wsX8_takeRows (wsV RX8 33 RX5 yX5_difference wsX5_difference) := goodIn_app (goodIn_of _ (by decide +kernel)) ggX8_takeRows_X5_difference
set_option maxRecDepth 20000 in
theorem ggX8_takeRows_X8_add : GoodIn wsX8_takeRows wsX8_add := goodIn_r _ [17, 18, 19, 20, 25, 26, 27] (by decide +kernel) (by decide +kernel)
set_option maxRecDepth 20000 in
theorem gX8_takeRows_X8_add : GoodIn wsX8_takeRows (wsV RX8 37 RX8 yX8_add wsX8_add) := goodIn_app (goodIn_of _ (by decide +kernel)) ggX8_takeRows_X8_add
theorem dX8_takeRows_0 : decode cX8_takeRows 0 = .ok (.iconst 0, 1) := by decide +kernel
theorem dX8_takeRows_1 : decode cX8_takeRows 1 = .ok (.istore_n 2, 1) := by decide +kernel
theorem dX8_takeRows_2 : decode cX8_takeRows 2 = .ok (.iload_n 2, 1) := by decide +kernel
theorem dX8_takeRows_3 : decode cX8_takeRows 3 = .ok (.aload_n 1, 1) := by decide +kernel
theorem dX8_takeRows_4 : decode cX8_takeRows 4 = .ok (.invokevirtual 29, 3) := by decide +kernel
theorem dX8_takeRows_7 : decode cX8_takeRows 7 = .ok (.if_icmp .ge 19, 3) := by decide +kernel
theorem dX8_takeRows_10 : decode cX8_takeRows 10 = .ok (.aload_n 0, 1) := by decide +kernel
theorem dX8_takeRows_11 : decode cX8_takeRows 11 = .ok (.aload_n 1, 1) := by decide +kernel
theorem dX8_takeRows_12 : decode cX8_takeRows 12 = .ok (.iload_n 2, 1) := by decide +kernel
theorem dX8_takeRows_13 : decode cX8_takeRows 13 = .ok (.invokevirtual 33, 3) := by decide +kernel
theorem dX8_takeRows_16 : decode cX8_takeRows 16 = .ok (.iconst 1, 1) := by decide +kernel
theorem dX8_takeRows_17 : decode cX8_takeRows 17 = .ok (.invokevirtual 37, 3) := by decide +kernel
theorem dX8_takeRows_20 : decode cX8_takeRows 20 = .ok (.iinc 2 1, 3) := by decide +kernel
theorem dX8_takeRows_23 : decode cX8_takeRows 23 = .ok (.goto (-21), 3) := by decide +kernel
theorem dX8_takeRows_26 : decode cX8_takeRows 26 = .ok (.return_, 1) := by decide +kernel
set_option maxRecDepth 20000 in
theorem ggX8_takeGroups_X5_sizeOfGroup : GoodIn wsX8_takeGroups wsX5_sizeOfGroup := goodIn_r _ [5, 6, 7, 22, 23, 24, 25] (by decide +kernel) (by decide +kernel)
set_option maxRecDepth 20000 in
theorem gX8_takeGroups_X5_sizeOfGroup : GoodIn wsX8_takeGroups (wsV RX8 41 RX5 yX5_sizeOfGroup wsX5_sizeOfGroup) := goodIn_app (goodIn_of _ (by decide +kernel)) ggX8_takeGroups_X5_sizeOfGroup
set_option maxRecDepth 20000 in
theorem ggX8_takeGroups_X5_differenceOfGroup : GoodIn wsX8_takeGroups wsX5_differenceOfGroup := goodIn_r _ [11, 6, 7, 12, 13, 22, 23, 24, 25] (by decide +kernel) (by decide +kernel)
set_option maxRecDepth 20000 in
theorem gX8_takeGroups_X5_differenceOfGroup : GoodIn wsX8_takeGroups (wsV RX8 44 RX5 yX5_differenceOfGroup wsX5_differenceOfGroup) := goodIn_app (goodIn_of _ (by decide +kernel)) ggX8_takeGroups_X5_differenceOfGroup
set_option maxRecDepth 20000 in
theorem ggX8_takeGroups_X8_add : GoodIn wsX8_takeGroups wsX8_add := goodIn_r _ [18, 19, 20, 21, 26, 27, 28] (by decide +kernel) (by decide +kernel)
set_option maxRecDepth 20000 in
theorem gX8_takeGroups_X8_add : GoodIn wsX8_takeGroups (wsV RX8 37 RX8 yX8_add wsX8_add) := goodIn_app (goodIn_of _ (by decide +kernel)) ggX8_takeGroups_X8_add
theorem dX8_takeGroups_0 : decode cX8_takeGroups 0 = .ok (.iconst 0, 1) := by decide +kernel
theorem dX8_takeGroups_1 : decode cX8_takeGroups 1 = .ok (.istore_n 2, 1) := by decide +kernel
theorem dX8_takeGroups_2 : decode cX8_takeGroups 2 = .ok (.iload_n 2, 1) := by decide +kernel
theorem dX8_takeGroups_3 : decode cX8_takeGroups 3 = .ok (.bipush 8, 2) := by decide +kernel
theorem dX8_takeGroups_5 : decode cX8_takeGroups 5 = .ok (.if_icmp .ge 29, 3) := by decide +kernel
theorem dX8_takeGroups_8 : decode cX8_takeGroups 8 = .ok (.aload_n 1, 1) := by decide +kernel
theorem dX8_takeGroups_9 : decode cX8_takeGroups 9 = .ok (.iload_n 2, 1) := by decide +kernel
theorem dX8_takeGroups_10 : decode cX8_takeGroups 10 = .ok (.invokevirtual 41, 3) := by decide +kernel
theorem dX8_takeGroups_13 : decode cX8_takeGroups 13 = .ok (.istore_n 3, 1) := by decide +kernel
theorem dX8_takeGroups_14 : decode cX8_takeGroups 14 = .ok (.iload_n 3, 1) := by decide +kernel
theorem dX8_takeGroups_15 : decode cX8_takeGroups 15 = .ok (.ifCond .le 13, 3) := by decide +kernel
theorem dX8_takeGroups_18 : decode cX8_takeGroups 18 = .ok (.aload_n 0, 1) := by decide +kernel
theorem dX8_takeGroups_19 : decode cX8_takeGroups 19 = .ok (.aload_n 1, 1) := by decide +kernel
theorem dX8_takeGroups_20 : decode cX8_takeGroups 20 = .ok (.iload_n 2, 1) := by decide +kernel
theorem dX8_takeGroups_21 : decode cX8_takeGroups 21 = .ok (.invokevirtual 44, 3) := by decide +kernel
theorem dX8_takeGroups_24 : decode cX8_takeGroups 24 = .ok (.iload_n 3, 1) := by decide +kernel
theorem dX8_takeGroups_25 : decode cX8_takeGroups 25 = .ok (.invokevirtual 37, 3) := by decide +kernel
theorem dX8_takeGroups_28 : decode cX8_takeGroups 28 = .ok (.iinc 2 1, 3) := by decide +kernel
theorem dX8_takeGroups_31 : decode cX8_takeGroups 31 = .ok (.goto (-29), 3) := by decide +kernel
theorem dX8_takeGroups_34 : decode cX8_takeGroups 34 = .ok (.return_, 1) := by decide +kernel
theorem dX8_add_0 : decode cX8_add 0 = .ok (.aload_n 0, 1) := by decide +kernel
theorem dX8_add_1 : decode cX8_add 1 = .ok (.getfield 18, 3) := by decide +kernel
theorem dX8_add_4 : decode cX8_add 4 = .ok (.bipush 30, 2) := by decide +kernel
theorem dX8_add_6 : decode cX8_add 6 = .ok (.if_icmp .lt 4, 3) := by decide +kernel
theorem dX8_add_9 : decode cX8_add 9 = .ok (.return_, 1) := by decide +kernel
theorem dX8_add_10 : decode cX8_add 10 = .ok (.aload_n 0, 1) := by decide +kernel
theorem dX8_add_11 : decode cX8_add 11 = .ok (.getfield 9, 3) := by decide +kernel
theorem dX8_add_14 : decode cX8_add 14 = .ok (.aload_n 0, 1) := by decide +kernel
theorem dX8_add_15 : decode cX8_add 15 = .ok (.getfield 18, 3) := by decide +kernel
theorem dX8_add_18 : decode cX8_add 18 = .ok (.iload_n 1, 1) := by decide +kernel
theorem dX8_add_19 : decode cX8_add 19 = .ok (.iastore, 1) := by decide +kernel
theorem dX8_add_20 : decode cX8_add 20 = .ok (.aload_n 0, 1) := by decide +kernel
theorem dX8_add_21 : decode cX8_add 21 = .ok (.getfield 15, 3) := by decide +kernel
theorem dX8_add_24 : decode cX8_add 24 = .ok (.aload_n 0, 1) := by decide +kernel
theorem dX8_add_25 : decode cX8_add 25 = .ok (.getfield 18, 3) := by decide +kernel
theorem dX8_add_28 : decode cX8_add 28 = .ok (.iload_n 2, 1) := by decide +kernel
theorem dX8_add_29 : decode cX8_add 29 = .ok (.iastore, 1) := by decide +kernel
theorem dX8_add_30 : decode cX8_add 30 = .ok (.aload_n 0, 1) := by decide +kernel
theorem dX8_add_31 : decode cX8_add 31 = .ok (.dup, 1) := by decide +kernel
theorem dX8_add_32 : decode cX8_add 32 = .ok (.getfield 18, 3) := by decide +kernel
theorem dX8_add_35 : decode cX8_add 35 = .ok (.iconst 1, 1) := by decide +kernel
theorem dX8_add_36 : decode cX8_add 36 = .ok (.iadd, 1) := by decide +kernel
theorem dX8_add_37 : decode cX8_add 37 = .ok (.putfield 18, 3) := by decide +kernel
theorem dX8_add_40 : decode cX8_add 40 = .ok (.return_, 1) := by decide +kernel
theorem dX8_size_0 : decode cX8_size 0 = .ok (.aload_n 0, 1) := by decide +kernel
theorem dX8_size_1 : decode cX8_size 1 = .ok (.getfield 18, 3) := by decide +kernel
theorem dX8_size_4 : decode cX8_size 4 = .ok (.ireturn, 1) := by decide +kernel
theorem dX8_difference_0 : decode cX8_difference 0 = .ok (.iload_n 1, 1) := by decide +kernel
theorem dX8_difference_1 : decode cX8_difference 1 = .ok (.ifCond .lt 20, 3) := by decide +kernel
theorem dX8_difference_4 : decode cX8_difference 4 = .ok (.iload_n 1, 1) := by decide +kernel
theorem dX8_difference_5 : decode cX8_difference 5 = .ok (.aload_n 0, 1) := by decide +kernel
theorem dX8_difference_6 : decode cX8_difference 6 = .ok (.getfield 18, 3) := by decide +kernel
theorem dX8_difference_9 : decode cX8_difference 9 = .ok (.if_icmp .ge 12, 3) := by decide +kernel
theorem dX8_difference_12 : decode cX8_difference 12 = .ok (.aload_n 0, 1) := by decide +kernel
theorem dX8_difference_13 : decode cX8_difference 13 = .ok (.getfield 9, 3) := by decide +kernel
theorem dX8_difference_16 : decode cX8_difference 16 = .ok (.iload_n 1, 1) := by decide +kernel
theorem dX8_difference_17 : decode cX8_difference 17 = .ok (.iaload, 1) := by decide +kernel
theorem dX8_difference_18 : decode cX8_difference 18 = .ok (.goto 4, 3) := by decide +kernel
theorem dX8_difference_21 : decode cX8_difference 21 = .ok (.iconst 0, 1) := by decide +kernel
theorem dX8_difference_22 : decode cX8_difference 22 = .ok (.ireturn, 1) := by decide +kernel
theorem dX8_rowsOf_0 : decode cX8_rowsOf 0 = .ok (.iload_n 1, 1) := by decide +kernel
theorem dX8_rowsOf_1 : decode cX8_rowsOf 1 = .ok (.ifCond .lt 20, 3) := by decide +kernel
theorem dX8_rowsOf_4 : decode cX8_rowsOf 4 = .ok (.iload_n 1, 1) := by decide +kernel
theorem dX8_rowsOf_5 : decode cX8_rowsOf 5 = .ok (.aload_n 0, 1) := by decide +kernel
theorem dX8_rowsOf_6 : decode cX8_rowsOf 6 = .ok (.getfield 18, 3) := by decide +kernel
theorem dX8_rowsOf_9 : decode cX8_rowsOf 9 = .ok (.if_icmp .ge 12, 3) := by decide +kernel
theorem dX8_rowsOf_12 : decode cX8_rowsOf 12 = .ok (.aload_n 0, 1) := by decide +kernel
theorem dX8_rowsOf_13 : decode cX8_rowsOf 13 = .ok (.getfield 15, 3) := by decide +kernel
theorem dX8_rowsOf_16 : decode cX8_rowsOf 16 = .ok (.iload_n 1, 1) := by decide +kernel
theorem dX8_rowsOf_17 : decode cX8_rowsOf 17 = .ok (.iaload, 1) := by decide +kernel
theorem dX8_rowsOf_18 : decode cX8_rowsOf 18 = .ok (.goto 4, 3) := by decide +kernel
theorem dX8_rowsOf_21 : decode cX8_rowsOf 21 = .ok (.iconst 0, 1) := by decide +kernel
theorem dX8_rowsOf_22 : decode cX8_rowsOf 22 = .ok (.ireturn, 1) := by decide +kernel
theorem dX9_init_0 : decode cX9_init 0 = .ok (.aload_n 0, 1) := by decide +kernel
theorem dX9_init_1 : decode cX9_init 1 = .ok (.invokespecial 1, 3) := by decide +kernel
theorem dX9_init_4 : decode cX9_init 4 = .ok (.aload_n 0, 1) := by decide +kernel
theorem dX9_init_5 : decode cX9_init 5 = .ok (.bipush 14, 2) := by decide +kernel
theorem dX9_init_7 : decode cX9_init 7 = .ok (.newarray .long, 2) := by decide +kernel
theorem dX9_init_9 : decode cX9_init 9 = .ok (.putfield 9, 3) := by decide +kernel
theorem dX9_init_12 : decode cX9_init 12 = .ok (.aload_n 0, 1) := by decide +kernel
theorem dX9_init_13 : decode cX9_init 13 = .ok (.iconst 0, 1) := by decide +kernel
theorem dX9_init_14 : decode cX9_init 14 = .ok (.putfield 13, 3) := by decide +kernel
theorem dX9_init_17 : decode cX9_init 17 = .ok (.return_, 1) := by decide +kernel
theorem dX9_become_0 : decode cX9_become 0 = .ok (.iconst 0, 1) := by decide +kernel
theorem dX9_become_1 : decode cX9_become 1 = .ok (.istore_n 3, 1) := by decide +kernel
theorem dX9_become_2 : decode cX9_become 2 = .ok (.iload_n 3, 1) := by decide +kernel
theorem dX9_become_3 : decode cX9_become 3 = .ok (.bipush 14, 2) := by decide +kernel
theorem dX9_become_5 : decode cX9_become 5 = .ok (.if_icmp .ge 16, 3) := by decide +kernel
theorem dX9_become_8 : decode cX9_become 8 = .ok (.aload_n 0, 1) := by decide +kernel
theorem dX9_become_9 : decode cX9_become 9 = .ok (.getfield 9, 3) := by decide +kernel
theorem dX9_become_12 : decode cX9_become 12 = .ok (.iload_n 3, 1) := by decide +kernel
theorem dX9_become_13 : decode cX9_become 13 = .ok (.lconst 0, 1) := by decide +kernel
theorem dX9_become_14 : decode cX9_become 14 = .ok (.lastore, 1) := by decide +kernel
theorem dX9_become_15 : decode cX9_become 15 = .ok (.iinc 3 1, 3) := by decide +kernel
theorem dX9_become_18 : decode cX9_become 18 = .ok (.goto (-16), 3) := by decide +kernel
theorem dX9_become_21 : decode cX9_become 21 = .ok (.aload_n 0, 1) := by decide +kernel
theorem dX9_become_22 : decode cX9_become 22 = .ok (.getfield 9, 3) := by decide +kernel
theorem dX9_become_25 : decode cX9_become 25 = .ok (.iconst 0, 1) := by decide +kernel
theorem dX9_become_26 : decode cX9_become 26 = .ok (.lload_n 1, 1) := by decide +kernel
theorem dX9_become_27 : decode cX9_become 27 = .ok (.ldc2_w 17, 3) := by decide +kernel
theorem dX9_become_30 : decode cX9_become 30 = .ok (.land, 1) := by decide +kernel
theorem dX9_become_31 : decode cX9_become 31 = .ok (.lastore, 1) := by decide +kernel
theorem dX9_become_32 : decode cX9_become 32 = .ok (.aload_n 0, 1) := by decide +kernel
theorem dX9_become_33 : decode cX9_become 33 = .ok (.getfield 9, 3) := by decide +kernel
theorem dX9_become_36 : decode cX9_become 36 = .ok (.iconst 1, 1) := by decide +kernel
theorem dX9_become_37 : decode cX9_become 37 = .ok (.lload_n 1, 1) := by decide +kernel
theorem dX9_become_38 : decode cX9_become 38 = .ok (.bipush 32, 2) := by decide +kernel
theorem dX9_become_40 : decode cX9_become 40 = .ok (.lushr, 1) := by decide +kernel
theorem dX9_become_41 : decode cX9_become 41 = .ok (.lastore, 1) := by decide +kernel
theorem dX9_become_42 : decode cX9_become 42 = .ok (.aload_n 0, 1) := by decide +kernel
theorem dX9_become_43 : decode cX9_become 43 = .ok (.iconst 2, 1) := by decide +kernel
theorem dX9_become_44 : decode cX9_become 44 = .ok (.putfield 13, 3) := by decide +kernel
theorem dX9_become_47 : decode cX9_become 47 = .ok (.return_, 1) := by decide +kernel
theorem dX9_multiply_0 : decode cX9_multiply 0 = .ok (.lconst 0, 1) := by decide +kernel
theorem dX9_multiply_1 : decode cX9_multiply 1 = .ok (.lstore_n 3, 1) := by decide +kernel
theorem dX9_multiply_2 : decode cX9_multiply 2 = .ok (.iconst 0, 1) := by decide +kernel
theorem dX9_multiply_3 : decode cX9_multiply 3 = .ok (.istore 5, 2) := by decide +kernel
theorem dX9_multiply_5 : decode cX9_multiply 5 = .ok (.iload 5, 2) := by decide +kernel
theorem dX9_multiply_7 : decode cX9_multiply 7 = .ok (.aload_n 0, 1) := by decide +kernel
theorem dX9_multiply_8 : decode cX9_multiply 8 = .ok (.getfield 13, 3) := by decide +kernel
theorem dX9_multiply_11 : decode cX9_multiply 11 = .ok (.if_icmp .ge 41, 3) := by decide +kernel
theorem dX9_multiply_14 : decode cX9_multiply 14 = .ok (.aload_n 0, 1) := by decide +kernel
theorem dX9_multiply_15 : decode cX9_multiply 15 = .ok (.getfield 9, 3) := by decide +kernel
theorem dX9_multiply_18 : decode cX9_multiply 18 = .ok (.iload 5, 2) := by decide +kernel
theorem dX9_multiply_20 : decode cX9_multiply 20 = .ok (.laload, 1) := by decide +kernel
theorem dX9_multiply_21 : decode cX9_multiply 21 = .ok (.lload_n 1, 1) := by decide +kernel
theorem dX9_multiply_22 : decode cX9_multiply 22 = .ok (.lmul, 1) := by decide +kernel
theorem dX9_multiply_23 : decode cX9_multiply 23 = .ok (.lload_n 3, 1) := by decide +kernel
theorem dX9_multiply_24 : decode cX9_multiply 24 = .ok (.ladd, 1) := by decide +kernel
theorem dX9_multiply_25 : decode cX9_multiply 25 = .ok (.lstore 6, 2) := by decide +kernel
theorem dX9_multiply_27 : decode cX9_multiply 27 = .ok (.aload_n 0, 1) := by decide +kernel
theorem dX9_multiply_28 : decode cX9_multiply 28 = .ok (.getfield 9, 3) := by decide +kernel
theorem dX9_multiply_31 : decode cX9_multiply 31 = .ok (.iload 5, 2) := by decide +kernel
theorem dX9_multiply_33 : decode cX9_multiply 33 = .ok (.lload 6, 2) := by decide +kernel
theorem dX9_multiply_35 : decode cX9_multiply 35 = .ok (.ldc2_w 17, 3) := by decide +kernel
theorem dX9_multiply_38 : decode cX9_multiply 38 = .ok (.land, 1) := by decide +kernel
theorem dX9_multiply_39 : decode cX9_multiply 39 = .ok (.lastore, 1) := by decide +kernel
theorem dX9_multiply_40 : decode cX9_multiply 40 = .ok (.lload 6, 2) := by decide +kernel
theorem dX9_multiply_42 : decode cX9_multiply 42 = .ok (.bipush 32, 2) := by decide +kernel
theorem dX9_multiply_44 : decode cX9_multiply 44 = .ok (.lushr, 1) := by decide +kernel
theorem dX9_multiply_45 : decode cX9_multiply 45 = .ok (.lstore_n 3, 1) := by decide +kernel
theorem dX9_multiply_46 : decode cX9_multiply 46 = .ok (.iinc 5 1, 3) := by decide +kernel
theorem dX9_multiply_49 : decode cX9_multiply 49 = .ok (.goto (-44), 3) := by decide +kernel
theorem dX9_multiply_52 : decode cX9_multiply 52 = .ok (.lload_n 3, 1) := by decide +kernel
theorem dX9_multiply_53 : decode cX9_multiply 53 = .ok (.lconst 0, 1) := by decide +kernel
theorem dX9_multiply_54 : decode cX9_multiply 54 = .ok (.lcmp, 1) := by decide +kernel
theorem dX9_multiply_55 : decode cX9_multiply 55 = .ok (.ifCond .eq 32, 3) := by decide +kernel
theorem dX9_multiply_58 : decode cX9_multiply 58 = .ok (.aload_n 0, 1) := by decide +kernel
theorem dX9_multiply_59 : decode cX9_multiply 59 = .ok (.getfield 13, 3) := by decide +kernel
theorem dX9_multiply_62 : decode cX9_multiply 62 = .ok (.bipush 14, 2) := by decide +kernel
theorem dX9_multiply_64 : decode cX9_multiply 64 = .ok (.if_icmp .ge 23, 3) := by decide +kernel
theorem dX9_multiply_67 : decode cX9_multiply 67 = .ok (.aload_n 0, 1) := by decide +kernel
theorem dX9_multiply_68 : decode cX9_multiply 68 = .ok (.getfield 9, 3) := by decide +kernel
theorem dX9_multiply_71 : decode cX9_multiply 71 = .ok (.aload_n 0, 1) := by decide +kernel
theorem dX9_multiply_72 : decode cX9_multiply 72 = .ok (.getfield 13, 3) := by decide +kernel
theorem dX9_multiply_75 : decode cX9_multiply 75 = .ok (.lload_n 3, 1) := by decide +kernel
theorem dX9_multiply_76 : decode cX9_multiply 76 = .ok (.lastore, 1) := by decide +kernel
theorem dX9_multiply_77 : decode cX9_multiply 77 = .ok (.aload_n 0, 1) := by decide +kernel
theorem dX9_multiply_78 : decode cX9_multiply 78 = .ok (.dup, 1) := by decide +kernel
theorem dX9_multiply_79 : decode cX9_multiply 79 = .ok (.getfield 13, 3) := by decide +kernel
theorem dX9_multiply_82 : decode cX9_multiply 82 = .ok (.iconst 1, 1) := by decide +kernel
theorem dX9_multiply_83 : decode cX9_multiply 83 = .ok (.iadd, 1) := by decide +kernel
theorem dX9_multiply_84 : decode cX9_multiply 84 = .ok (.putfield 13, 3) := by decide +kernel
theorem dX9_multiply_87 : decode cX9_multiply 87 = .ok (.return_, 1) := by decide +kernel
set_option maxRecDepth 20000 in
theorem ggX9_multiplyOften_X9_multiply : GoodIn wsX9_multiplyOften wsX9_multiply := goodIn_r _ [5, 6, 7, 8, 9, 10] (by decide +kernel) (by decide +kernel)
set_option maxRecDepth 20000 in
theorem gX9_multiplyOften_X9_multiply : GoodIn wsX9_multiplyOften (wsV RX9 19 RX9 yX9_multiply wsX9_multiply) := goodIn_app (goodIn_of _ (by decide +kernel)) ggX9_multiplyOften_X9_multiply
theorem dX9_multiplyOften_0 : decode cX9_multiplyOften 0 = .ok (.iconst 0, 1) := by decide +kernel
theorem dX9_multiplyOften_1 : decode cX9_multiplyOften 1 = .ok (.istore 4, 2) := by decide +kernel
theorem dX9_multiplyOften_3 : decode cX9_multiplyOften 3 = .ok (.iload 4, 2) := by decide +kernel
theorem dX9_multiplyOften_5 : decode cX9_multiplyOften 5 = .ok (.iload_n 3, 1) := by decide +kernel
theorem dX9_multiplyOften_6 : decode cX9_multiplyOften 6 = .ok (.if_icmp .ge 14, 3) := by decide +kernel
theorem dX9_multiplyOften_9 : decode cX9_multiplyOften 9 = .ok (.aload_n 0, 1) := by decide +kernel
theorem dX9_multiplyOften_10 : decode cX9_multiplyOften 10 = .ok (.lload_n 1, 1) := by decide +kernel
theorem dX9_multiplyOften_11 : decode cX9_multiplyOften 11 = .ok (.invokevirtual 19, 3) := by decide +kernel
theorem dX9_multiplyOften_14 : decode cX9_multiplyOften 14 = .ok (.iinc 4 1, 3) := by decide +kernel
theorem dX9_multiplyOften_17 : decode cX9_multiplyOften 17 = .ok (.goto (-14), 3) := by decide +kernel
theorem dX9_multiplyOften_20 : decode cX9_multiplyOften 20 = .ok (.return_, 1) := by decide +kernel
theorem dX9_addTimes_0 : decode cX9_addTimes 0 = .ok (.aload_n 0, 1) := by decide +kernel
theorem dX9_addTimes_1 : decode cX9_addTimes 1 = .ok (.getfield 13, 3) := by decide +kernel
theorem dX9_addTimes_4 : decode cX9_addTimes 4 = .ok (.aload_n 1, 1) := by decide +kernel
theorem dX9_addTimes_5 : decode cX9_addTimes 5 = .ok (.getfield 13, 3) := by decide +kernel
theorem dX9_addTimes_8 : decode cX9_addTimes 8 = .ok (.invokestatic 23, 3) := by decide +kernel
theorem dX9_addTimes_11 : decode cX9_addTimes 11 = .ok (.iconst 1, 1) := by decide +kernel
theorem dX9_addTimes_12 : decode cX9_addTimes 12 = .ok (.iadd, 1) := by decide +kernel
theorem dX9_addTimes_13 : decode cX9_addTimes 13 = .ok (.bipush 14, 2) := by decide +kernel
theorem dX9_addTimes_15 : decode cX9_addTimes 15 = .ok (.invokestatic 29, 3) := by decide +kernel
theorem dX9_addTimes_18 : decode cX9_addTimes 18 = .ok (.istore 4, 2) := by decide +kernel
theorem dX9_addTimes_20 : decode cX9_addTimes 20 = .ok (.lconst 0, 1) := by decide +kernel
theorem dX9_addTimes_21 : decode cX9_addTimes 21 = .ok (.lstore 5, 2) := by decide +kernel
theorem dX9_addTimes_23 : decode cX9_addTimes 23 = .ok (.iconst 0, 1) := by decide +kernel
theorem dX9_addTimes_24 : decode cX9_addTimes 24 = .ok (.istore 7, 2) := by decide +kernel
theorem dX9_addTimes_26 : decode cX9_addTimes 26 = .ok (.iload 7, 2) := by decide +kernel
theorem dX9_addTimes_28 : decode cX9_addTimes 28 = .ok (.iload 4, 2) := by decide +kernel
theorem dX9_addTimes_30 : decode cX9_addTimes 30 = .ok (.if_icmp .ge 51, 3) := by decide +kernel
theorem dX9_addTimes_33 : decode cX9_addTimes 33 = .ok (.aload_n 0, 1) := by decide +kernel
theorem dX9_addTimes_34 : decode cX9_addTimes 34 = .ok (.getfield 9, 3) := by decide +kernel
theorem dX9_addTimes_37 : decode cX9_addTimes 37 = .ok (.iload 7, 2) := by decide +kernel
theorem dX9_addTimes_39 : decode cX9_addTimes 39 = .ok (.laload, 1) := by decide +kernel
theorem dX9_addTimes_40 : decode cX9_addTimes 40 = .ok (.aload_n 1, 1) := by decide +kernel
theorem dX9_addTimes_41 : decode cX9_addTimes 41 = .ok (.getfield 9, 3) := by decide +kernel
theorem dX9_addTimes_44 : decode cX9_addTimes 44 = .ok (.iload 7, 2) := by decide +kernel
theorem dX9_addTimes_46 : decode cX9_addTimes 46 = .ok (.laload, 1) := by decide +kernel
theorem dX9_addTimes_47 : decode cX9_addTimes 47 = .ok (.lload_n 2, 1) := by decide +kernel
theorem dX9_addTimes_48 : decode cX9_addTimes 48 = .ok (.lmul, 1) := by decide +kernel
theorem dX9_addTimes_49 : decode cX9_addTimes 49 = .ok (.ladd, 1) := by decide +kernel
theorem dX9_addTimes_50 : decode cX9_addTimes 50 = .ok (.lload 5, 2) := by decide +kernel
theorem dX9_addTimes_52 : decode cX9_addTimes 52 = .ok (.ladd, 1) := by decide +kernel
theorem dX9_addTimes_53 : decode cX9_addTimes 53 = .ok (.lstore 8, 2) := by decide +kernel
theorem dX9_addTimes_55 : decode cX9_addTimes 55 = .ok (.aload_n 0, 1) := by decide +kernel
theorem dX9_addTimes_56 : decode cX9_addTimes 56 = .ok (.getfield 9, 3) := by decide +kernel
theorem dX9_addTimes_59 : decode cX9_addTimes 59 = .ok (.iload 7, 2) := by decide +kernel
theorem dX9_addTimes_61 : decode cX9_addTimes 61 = .ok (.lload 8, 2) := by decide +kernel
theorem dX9_addTimes_63 : decode cX9_addTimes 63 = .ok (.ldc2_w 17, 3) := by decide +kernel
theorem dX9_addTimes_66 : decode cX9_addTimes 66 = .ok (.land, 1) := by decide +kernel
theorem dX9_addTimes_67 : decode cX9_addTimes 67 = .ok (.lastore, 1) := by decide +kernel
theorem dX9_addTimes_68 : decode cX9_addTimes 68 = .ok (.lload 8, 2) := by decide +kernel
theorem dX9_addTimes_70 : decode cX9_addTimes 70 = .ok (.bipush 32, 2) := by decide +kernel
theorem dX9_addTimes_72 : decode cX9_addTimes 72 = .ok (.lushr, 1) := by decide +kernel
theorem dX9_addTimes_73 : decode cX9_addTimes 73 = .ok (.lstore 5, 2) := by decide +kernel
theorem dX9_addTimes_75 : decode cX9_addTimes 75 = .ok (.iinc 7 1, 3) := by decide +kernel
theorem dX9_addTimes_78 : decode cX9_addTimes 78 = .ok (.goto (-52), 3) := by decide +kernel
theorem dX9_addTimes_81 : decode cX9_addTimes 81 = .ok (.aload_n 0, 1) := by decide +kernel
theorem dX9_addTimes_82 : decode cX9_addTimes 82 = .ok (.aload_n 0, 1) := by decide +kernel
theorem dX9_addTimes_83 : decode cX9_addTimes 83 = .ok (.getfield 9, 3) := by decide +kernel
theorem dX9_addTimes_86 : decode cX9_addTimes 86 = .ok (.iload 4, 2) := by decide +kernel
theorem dX9_addTimes_88 : decode cX9_addTimes 88 = .ok (.iconst 1, 1) := by decide +kernel
theorem dX9_addTimes_89 : decode cX9_addTimes 89 = .ok (.isub, 1) := by decide +kernel
theorem dX9_addTimes_90 : decode cX9_addTimes 90 = .ok (.laload, 1) := by decide +kernel
theorem dX9_addTimes_91 : decode cX9_addTimes 91 = .ok (.lconst 0, 1) := by decide +kernel
theorem dX9_addTimes_92 : decode cX9_addTimes 92 = .ok (.lcmp, 1) := by decide +kernel
theorem dX9_addTimes_93 : decode cX9_addTimes 93 = .ok (.ifCond .ne 10, 3) := by decide +kernel
theorem dX9_addTimes_96 : decode cX9_addTimes 96 = .ok (.iload 4, 2) := by decide +kernel
theorem dX9_addTimes_98 : decode cX9_addTimes 98 = .ok (.iconst 1, 1) := by decide +kernel
theorem dX9_addTimes_99 : decode cX9_addTimes 99 = .ok (.isub, 1) := by decide +kernel
theorem dX9_addTimes_100 : decode cX9_addTimes 100 = .ok (.goto 5, 3) := by decide +kernel
theorem dX9_addTimes_103 : decode cX9_addTimes 103 = .ok (.iload 4, 2) := by decide +kernel
theorem dX9_addTimes_105 : decode cX9_addTimes 105 = .ok (.putfield 13, 3) := by decide +kernel
theorem dX9_addTimes_108 : decode cX9_addTimes 108 = .ok (.return_, 1) := by decide +kernel
theorem dX9_against_0 : decode cX9_against 0 = .ok (.bipush 13, 2) := by decide +kernel
theorem dX9_against_2 : decode cX9_against 2 = .ok (.istore_n 2, 1) := by decide +kernel
theorem dX9_against_3 : decode cX9_against 3 = .ok (.iload_n 2, 1) := by decide +kernel
theorem dX9_against_4 : decode cX9_against 4 = .ok (.ifCond .lt 47, 3) := by decide +kernel
theorem dX9_against_7 : decode cX9_against 7 = .ok (.aload_n 0, 1) := by decide +kernel
theorem dX9_against_8 : decode cX9_against 8 = .ok (.getfield 9, 3) := by decide +kernel
theorem dX9_against_11 : decode cX9_against 11 = .ok (.iload_n 2, 1) := by decide +kernel
theorem dX9_against_12 : decode cX9_against 12 = .ok (.laload, 1) := by decide +kernel
theorem dX9_against_13 : decode cX9_against 13 = .ok (.aload_n 1, 1) := by decide +kernel
theorem dX9_against_14 : decode cX9_against 14 = .ok (.getfield 9, 3) := by decide +kernel
theorem dX9_against_17 : decode cX9_against 17 = .ok (.iload_n 2, 1) := by decide +kernel
theorem dX9_against_18 : decode cX9_against 18 = .ok (.laload, 1) := by decide +kernel
theorem dX9_against_19 : decode cX9_against 19 = .ok (.lcmp, 1) := by decide +kernel
theorem dX9_against_20 : decode cX9_against 20 = .ok (.ifCond .eq 25, 3) := by decide +kernel
theorem dX9_against_23 : decode cX9_against 23 = .ok (.aload_n 0, 1) := by decide +kernel
theorem dX9_against_24 : decode cX9_against 24 = .ok (.getfield 9, 3) := by decide +kernel
theorem dX9_against_27 : decode cX9_against 27 = .ok (.iload_n 2, 1) := by decide +kernel
theorem dX9_against_28 : decode cX9_against 28 = .ok (.laload, 1) := by decide +kernel
theorem dX9_against_29 : decode cX9_against 29 = .ok (.aload_n 1, 1) := by decide +kernel
theorem dX9_against_30 : decode cX9_against 30 = .ok (.getfield 9, 3) := by decide +kernel
theorem dX9_against_33 : decode cX9_against 33 = .ok (.iload_n 2, 1) := by decide +kernel
theorem dX9_against_34 : decode cX9_against 34 = .ok (.laload, 1) := by decide +kernel
theorem dX9_against_35 : decode cX9_against 35 = .ok (.lcmp, 1) := by decide +kernel
theorem dX9_against_36 : decode cX9_against 36 = .ok (.ifCond .ge 7, 3) := by decide +kernel
theorem dX9_against_39 : decode cX9_against 39 = .ok (.iconst (-1), 1) := by decide +kernel
theorem dX9_against_40 : decode cX9_against 40 = .ok (.goto 4, 3) := by decide +kernel
theorem dX9_against_43 : decode cX9_against 43 = .ok (.iconst 1, 1) := by decide +kernel
theorem dX9_against_44 : decode cX9_against 44 = .ok (.ireturn, 1) := by decide +kernel
theorem dX9_against_45 : decode cX9_against 45 = .ok (.iinc 2 (-1), 3) := by decide +kernel
theorem dX9_against_48 : decode cX9_against 48 = .ok (.goto (-45), 3) := by decide +kernel
theorem dX9_against_51 : decode cX9_against 51 = .ok (.iconst 0, 1) := by decide +kernel
theorem dX9_against_52 : decode cX9_against 52 = .ok (.ireturn, 1) := by decide +kernel
theorem dX9_limb_0 : decode cX9_limb 0 = .ok (.iload_n 1, 1) := by decide +kernel
theorem dX9_limb_1 : decode cX9_limb 1 = .ok (.ifCond .lt 18, 3) := by decide +kernel
theorem dX9_limb_4 : decode cX9_limb 4 = .ok (.iload_n 1, 1) := by decide +kernel
theorem dX9_limb_5 : decode cX9_limb 5 = .ok (.bipush 14, 2) := by decide +kernel
theorem dX9_limb_7 : decode cX9_limb 7 = .ok (.if_icmp .ge 12, 3) := by decide +kernel
theorem dX9_limb_10 : decode cX9_limb 10 = .ok (.aload_n 0, 1) := by decide +kernel
theorem dX9_limb_11 : decode cX9_limb 11 = .ok (.getfield 9, 3) := by decide +kernel
theorem dX9_limb_14 : decode cX9_limb 14 = .ok (.iload_n 1, 1) := by decide +kernel
theorem dX9_limb_15 : decode cX9_limb 15 = .ok (.laload, 1) := by decide +kernel
theorem dX9_limb_16 : decode cX9_limb 16 = .ok (.goto 4, 3) := by decide +kernel
theorem dX9_limb_19 : decode cX9_limb 19 = .ok (.lconst 0, 1) := by decide +kernel
theorem dX9_limb_20 : decode cX9_limb 20 = .ok (.lreturn, 1) := by decide +kernel
set_option maxRecDepth 20000 in
theorem ggX10_init_X1_init : GoodIn wsX10_init wsX1_init := goodIn_r _ [38, 39, 2, 3, 40, 41, 42, 43, 44, 45, 46, 47, 48, 49, 50, 51, 52, 149, 150, 108, 109, 110] (by decide +kernel) (by decide +kernel)
set_option maxRecDepth 20000 in
theorem gX10_init_X1_init : GoodIn wsX10_init (wsX1_init) := ggX10_init_X1_init
set_option maxRecDepth 20000 in
theorem ggX10_init_X5_init : GoodIn wsX10_init wsX5_init := goodIn_r _ [55, 56, 2, 3, 57, 58, 59, 60, 61, 119, 120, 121, 122] (by decide +kernel) (by decide +kernel)
set_option maxRecDepth 20000 in
theorem gX10_init_X5_init : GoodIn wsX10_init (wsX5_init) := ggX10_init_X5_init
set_option maxRecDepth 20000 in
theorem ggX10_init_X8_init : GoodIn wsX10_init wsX8_init := goodIn_r _ [64, 65, 2, 3, 57, 66, 67, 68, 123, 124, 125] (by decide +kernel) (by decide +kernel)
set_option maxRecDepth 20000 in
theorem gX10_init_X8_init : GoodIn wsX10_init (wsX8_init) := ggX10_init_X8_init
set_option maxRecDepth 20000 in
theorem ggX10_init_X7_init : GoodIn wsX10_init wsX7_init := goodIn_r _ [71, 72, 2, 3, 50, 73, 74, 75, 76, 126, 127, 128, 129] (by decide +kernel) (by decide +kernel)
set_option maxRecDepth 20000 in
theorem gX10_init_X7_init : GoodIn wsX10_init (wsX7_init) := ggX10_init_X7_init
set_option maxRecDepth 20000 in
theorem ggX10_init_X2_init : GoodIn wsX10_init wsX2_init := goodIn_r _ [79, 80, 2, 3, 50, 81, 82, 83, 33, 34, 84, 85, 86, 87, 88, 89, 90, 91, 130, 131, 132, 133, 147, 148] (by decide +kernel) (by decide +kernel)
set_option maxRecDepth 20000 in
theorem gX10_init_X2_init : GoodIn wsX10_init (wsX2_init) := ggX10_init_X2_init
set_option maxRecDepth 20000 in
theorem ggX10_init_X0_init : GoodIn wsX10_init wsX0_init := goodIn_r _ [94, 95, 2, 3, 57, 96, 97, 98, 134, 135, 136] (by decide +kernel) (by decide +kernel)
set_option maxRecDepth 20000 in
theorem gX10_init_X0_init : GoodIn wsX10_init (wsX0_init) := ggX10_init_X0_init
set_option maxRecDepth 20000 in
theorem ggX10_init_X6_init : GoodIn wsX10_init wsX6_init := goodIn_r _ [101, 102, 2, 3, 103, 41, 42, 104, 105, 106, 47, 48, 49, 50, 51, 52, 149, 150, 137, 138, 139, 140, 141, 142, 143, 144, 145, 146] (by decide +kernel) (by decide +kernel)
set_option maxRecDepth 20000 in
theorem gX10_init_X6_init : GoodIn wsX10_init (wsX6_init) := ggX10_init_X6_init
set_option maxRecDepth 20000 in
theorem ggX10_init_X4_init : GoodIn wsX10_init wsX4_init := goodIn_r _ [88, 89, 2, 3, 90, 91, 147, 148] (by decide +kernel) (by decide +kernel)
set_option maxRecDepth 20000 in
theorem gX10_init_X4_init : GoodIn wsX10_init (wsX4_init) := ggX10_init_X4_init
theorem dX10_init_0 : decode cX10_init 0 = .ok (.aload_n 0, 1) := by decide +kernel
theorem dX10_init_1 : decode cX10_init 1 = .ok (.invokespecial 1, 3) := by decide +kernel
theorem dX10_init_4 : decode cX10_init 4 = .ok (.aload_n 0, 1) := by decide +kernel
theorem dX10_init_5 : decode cX10_init 5 = .ok (.new 7, 3) := by decide +kernel
theorem dX10_init_8 : decode cX10_init 8 = .ok (.dup, 1) := by decide +kernel
theorem dX10_init_9 : decode cX10_init 9 = .ok (.invokespecial 9, 3) := by decide +kernel
theorem dX10_init_12 : decode cX10_init 12 = .ok (.putfield 10, 3) := by decide +kernel
theorem dX10_init_15 : decode cX10_init 15 = .ok (.aload_n 0, 1) := by decide +kernel
theorem dX10_init_16 : decode cX10_init 16 = .ok (.new 16, 3) := by decide +kernel
theorem dX10_init_19 : decode cX10_init 19 = .ok (.dup, 1) := by decide +kernel
theorem dX10_init_20 : decode cX10_init 20 = .ok (.invokespecial 18, 3) := by decide +kernel
theorem dX10_init_23 : decode cX10_init 23 = .ok (.putfield 19, 3) := by decide +kernel
theorem dX10_init_26 : decode cX10_init 26 = .ok (.aload_n 0, 1) := by decide +kernel
theorem dX10_init_27 : decode cX10_init 27 = .ok (.new 23, 3) := by decide +kernel
theorem dX10_init_30 : decode cX10_init 30 = .ok (.dup, 1) := by decide +kernel
theorem dX10_init_31 : decode cX10_init 31 = .ok (.invokespecial 25, 3) := by decide +kernel
theorem dX10_init_34 : decode cX10_init 34 = .ok (.putfield 26, 3) := by decide +kernel
theorem dX10_init_37 : decode cX10_init 37 = .ok (.aload_n 0, 1) := by decide +kernel
theorem dX10_init_38 : decode cX10_init 38 = .ok (.new 30, 3) := by decide +kernel
theorem dX10_init_41 : decode cX10_init 41 = .ok (.dup, 1) := by decide +kernel
theorem dX10_init_42 : decode cX10_init 42 = .ok (.invokespecial 32, 3) := by decide +kernel
theorem dX10_init_45 : decode cX10_init 45 = .ok (.putfield 33, 3) := by decide +kernel
theorem dX10_init_48 : decode cX10_init 48 = .ok (.aload_n 0, 1) := by decide +kernel
theorem dX10_init_49 : decode cX10_init 49 = .ok (.new 37, 3) := by decide +kernel
theorem dX10_init_52 : decode cX10_init 52 = .ok (.dup, 1) := by decide +kernel
theorem dX10_init_53 : decode cX10_init 53 = .ok (.invokespecial 39, 3) := by decide +kernel
theorem dX10_init_56 : decode cX10_init 56 = .ok (.putfield 40, 3) := by decide +kernel
theorem dX10_init_59 : decode cX10_init 59 = .ok (.aload_n 0, 1) := by decide +kernel
theorem dX10_init_60 : decode cX10_init 60 = .ok (.new 44, 3) := by decide +kernel
theorem dX10_init_63 : decode cX10_init 63 = .ok (.dup, 1) := by decide +kernel
theorem dX10_init_64 : decode cX10_init 64 = .ok (.invokespecial 46, 3) := by decide +kernel
theorem dX10_init_67 : decode cX10_init 67 = .ok (.putfield 47, 3) := by decide +kernel
theorem dX10_init_70 : decode cX10_init 70 = .ok (.aload_n 0, 1) := by decide +kernel
theorem dX10_init_71 : decode cX10_init 71 = .ok (.new 51, 3) := by decide +kernel
theorem dX10_init_74 : decode cX10_init 74 = .ok (.dup, 1) := by decide +kernel
theorem dX10_init_75 : decode cX10_init 75 = .ok (.invokespecial 53, 3) := by decide +kernel
end
section
theorem dX10_init_78 : decode cX10_init 78 = .ok (.putfield 54, 3) := by decide +kernel
theorem dX10_init_81 : decode cX10_init 81 = .ok (.aload_n 0, 1) := by decide +kernel
theorem dX10_init_82 : decode cX10_init 82 = .ok (.new 58, 3) := by decide +kernel
theorem dX10_init_85 : decode cX10_init 85 = .ok (.dup, 1) := by decide +kernel
theorem dX10_init_86 : decode cX10_init 86 = .ok (.invokespecial 60, 3) := by decide +kernel
theorem dX10_init_89 : decode cX10_init 89 = .ok (.putfield 61, 3) := by decide +kernel
theorem dX10_init_92 : decode cX10_init 92 = .ok (.return_, 1) := by decide +kernel
set_option maxRecDepth 20000 in
theorem ggX10_above_X10_areHits : GoodIn wsX10_above wsX10_areHits := goodIn_r _ [6, 7, 8, 9, 10, 11, 12, 5, 13] (by decide +kernel) (by decide +kernel)
set_option maxRecDepth 20000 in
theorem gX10_above_X10_areHits : GoodIn wsX10_above (va_wsS RX10 65 yX10_areHits wsX10_areHits) := goodIn_app (goodIn_of _ (by decide +kernel)) ggX10_above_X10_areHits
set_option maxRecDepth 20000 in
theorem ggX10_above_X3_within : GoodIn wsX10_above wsX3_within := goodIn_r _ [10] (by decide +kernel) (by decide +kernel)
set_option maxRecDepth 20000 in
theorem gX10_above_X3_within : GoodIn wsX10_above (va_wsS RX10 69 yX3_within wsX3_within) := goodIn_app (goodIn_of _ (by decide +kernel)) ggX10_above_X3_within
set_option maxRecDepth 20000 in
theorem ggX10_above_X1_limbOfAbove : GoodIn wsX10_above wsX1_limbOfAbove := goodIn_r _ [18, 19, 20, 21, 22, 17, 23, 24, 25, 26, 27, 28, 29, 30, 31, 32, 33, 34, 35, 36, 37, 38, 39, 40, 41, 42, 43, 44, 45, 46, 47, 48, 49, 50, 51, 52, 53, 54, 55, 56, 57, 58, 59, 60, 69, 70, 71, 72, 73] (by decide +kernel) (by decide +kernel)
set_option maxRecDepth 20000 in
theorem gX10_above_X1_limbOfAbove : GoodIn wsX10_above (wsV RX10 77 RX1 yX1_limbOfAbove wsX1_limbOfAbove) := goodIn_app (goodIn_of _ (by decide +kernel)) ggX10_above_X1_limbOfAbove
theorem dX10_above_0 : decode cX10_above 0 = .ok (.iload_n 1, 1) := by decide +kernel
theorem dX10_above_1 : decode cX10_above 1 = .ok (.iload_n 2, 1) := by decide +kernel
theorem dX10_above_2 : decode cX10_above 2 = .ok (.iload_n 3, 1) := by decide +kernel
theorem dX10_above_3 : decode cX10_above 3 = .ok (.iload 4, 2) := by decide +kernel
theorem dX10_above_5 : decode cX10_above 5 = .ok (.iload 5, 2) := by decide +kernel
theorem dX10_above_7 : decode cX10_above 7 = .ok (.invokestatic 65, 3) := by decide +kernel
theorem dX10_above_10 : decode cX10_above 10 = .ok (.ifCond .eq 14, 3) := by decide +kernel
theorem dX10_above_13 : decode cX10_above 13 = .ok (.iload 6, 2) := by decide +kernel
theorem dX10_above_15 : decode cX10_above 15 = .ok (.iconst 0, 1) := by decide +kernel
theorem dX10_above_16 : decode cX10_above 16 = .ok (.bipush 10, 2) := by decide +kernel
theorem dX10_above_18 : decode cX10_above 18 = .ok (.invokestatic 69, 3) := by decide +kernel
theorem dX10_above_21 : decode cX10_above 21 = .ok (.ifCond .ne 7, 3) := by decide +kernel
theorem dX10_above_24 : decode cX10_above 24 = .ok (.ldc2_w 75, 3) := by decide +kernel
theorem dX10_above_27 : decode cX10_above 27 = .ok (.lreturn, 1) := by decide +kernel
theorem dX10_above_28 : decode cX10_above 28 = .ok (.aload_n 0, 1) := by decide +kernel
theorem dX10_above_29 : decode cX10_above 29 = .ok (.getfield 10, 3) := by decide +kernel
theorem dX10_above_32 : decode cX10_above 32 = .ok (.iload_n 1, 1) := by decide +kernel
theorem dX10_above_33 : decode cX10_above 33 = .ok (.iload_n 2, 1) := by decide +kernel
theorem dX10_above_34 : decode cX10_above 34 = .ok (.iload_n 3, 1) := by decide +kernel
theorem dX10_above_35 : decode cX10_above 35 = .ok (.iload 4, 2) := by decide +kernel
theorem dX10_above_37 : decode cX10_above 37 = .ok (.iload 5, 2) := by decide +kernel
theorem dX10_above_39 : decode cX10_above 39 = .ok (.iload 6, 2) := by decide +kernel
theorem dX10_above_41 : decode cX10_above 41 = .ok (.invokevirtual 77, 3) := by decide +kernel
theorem dX10_above_44 : decode cX10_above 44 = .ok (.lreturn, 1) := by decide +kernel
set_option maxRecDepth 20000 in
theorem ggX10_odds_X10_areHits : GoodIn wsX10_odds wsX10_areHits := goodIn_r _ [5, 6, 7, 8, 9, 10, 11, 4, 12] (by decide +kernel) (by decide +kernel)
set_option maxRecDepth 20000 in
theorem gX10_odds_X10_areHits : GoodIn wsX10_odds (va_wsS RX10 65 yX10_areHits wsX10_areHits) := goodIn_app (goodIn_of _ (by decide +kernel)) ggX10_odds_X10_areHits
set_option maxRecDepth 20000 in
theorem ggX10_odds_X3_within : GoodIn wsX10_odds wsX3_within := goodIn_r _ [9] (by decide +kernel) (by decide +kernel)
set_option maxRecDepth 20000 in
theorem gX10_odds_X3_within : GoodIn wsX10_odds (va_wsS RX10 69 yX3_within wsX3_within) := goodIn_app (goodIn_of _ (by decide +kernel)) ggX10_odds_X3_within
set_option maxRecDepth 20000 in
theorem ggX10_odds_X1_oddsAgainst : GoodIn wsX10_odds wsX1_oddsAgainst := goodIn_r _ [17, 18, 19, 20, 21, 22, 23, 24, 25, 26, 27, 28, 29, 30, 31, 32, 33, 34, 35, 36, 37, 38, 16, 39, 40, 41, 42, 43, 44, 45, 46, 47, 48, 49, 50, 51, 52, 53, 54, 55, 56, 57, 58, 59, 60, 69, 70, 71, 72, 73] (by decide +kernel) (by decide +kernel)
set_option maxRecDepth 20000 in
theorem gX10_odds_X1_oddsAgainst : GoodIn wsX10_odds (wsV RX10 81 RX1 yX1_oddsAgainst wsX1_oddsAgainst) := goodIn_app (goodIn_of _ (by decide +kernel)) ggX10_odds_X1_oddsAgainst
theorem dX10_odds_0 : decode cX10_odds 0 = .ok (.iload_n 1, 1) := by decide +kernel
theorem dX10_odds_1 : decode cX10_odds 1 = .ok (.iload_n 2, 1) := by decide +kernel
theorem dX10_odds_2 : decode cX10_odds 2 = .ok (.iload_n 3, 1) := by decide +kernel
theorem dX10_odds_3 : decode cX10_odds 3 = .ok (.iload 4, 2) := by decide +kernel
theorem dX10_odds_5 : decode cX10_odds 5 = .ok (.iload 5, 2) := by decide +kernel
theorem dX10_odds_7 : decode cX10_odds 7 = .ok (.invokestatic 65, 3) := by decide +kernel
theorem dX10_odds_10 : decode cX10_odds 10 = .ok (.ifCond .eq 26, 3) := by decide +kernel
theorem dX10_odds_13 : decode cX10_odds 13 = .ok (.iload 7, 2) := by decide +kernel
theorem dX10_odds_15 : decode cX10_odds 15 = .ok (.iconst 1, 1) := by decide +kernel
theorem dX10_odds_16 : decode cX10_odds 16 = .ok (.sipush 1000, 3) := by decide +kernel
theorem dX10_odds_19 : decode cX10_odds 19 = .ok (.invokestatic 69, 3) := by decide +kernel
theorem dX10_odds_22 : decode cX10_odds 22 = .ok (.ifCond .eq 14, 3) := by decide +kernel
theorem dX10_odds_25 : decode cX10_odds 25 = .ok (.iload 6, 2) := by decide +kernel
theorem dX10_odds_27 : decode cX10_odds 27 = .ok (.iconst 0, 1) := by decide +kernel
theorem dX10_odds_28 : decode cX10_odds 28 = .ok (.iload 7, 2) := by decide +kernel
theorem dX10_odds_30 : decode cX10_odds 30 = .ok (.invokestatic 69, 3) := by decide +kernel
theorem dX10_odds_33 : decode cX10_odds 33 = .ok (.ifCond .ne 5, 3) := by decide +kernel
theorem dX10_odds_36 : decode cX10_odds 36 = .ok (.iconst (-1), 1) := by decide +kernel
theorem dX10_odds_37 : decode cX10_odds 37 = .ok (.ireturn, 1) := by decide +kernel
theorem dX10_odds_38 : decode cX10_odds 38 = .ok (.iconst 1, 1) := by decide +kernel
theorem dX10_odds_39 : decode cX10_odds 39 = .ok (.aload_n 0, 1) := by decide +kernel
theorem dX10_odds_40 : decode cX10_odds 40 = .ok (.getfield 10, 3) := by decide +kernel
theorem dX10_odds_43 : decode cX10_odds 43 = .ok (.iload_n 1, 1) := by decide +kernel
theorem dX10_odds_44 : decode cX10_odds 44 = .ok (.iload_n 2, 1) := by decide +kernel
theorem dX10_odds_45 : decode cX10_odds 45 = .ok (.iload_n 3, 1) := by decide +kernel
theorem dX10_odds_46 : decode cX10_odds 46 = .ok (.iload 4, 2) := by decide +kernel
theorem dX10_odds_48 : decode cX10_odds 48 = .ok (.iload 5, 2) := by decide +kernel
theorem dX10_odds_50 : decode cX10_odds 50 = .ok (.iload 6, 2) := by decide +kernel
theorem dX10_odds_52 : decode cX10_odds 52 = .ok (.iload 7, 2) := by decide +kernel
theorem dX10_odds_54 : decode cX10_odds 54 = .ok (.invokevirtual 81, 3) := by decide +kernel
theorem dX10_odds_57 : decode cX10_odds 57 = .ok (.iadd, 1) := by decide +kernel
theorem dX10_odds_58 : decode cX10_odds 58 = .ok (.ireturn, 1) := by decide +kernel
set_option maxRecDepth 20000 in
theorem ggX10_bound_X3_within : GoodIn wsX10_bound wsX3_within := goodIn_r _ [7] (by decide +kernel) (by decide +kernel)
set_option maxRecDepth 20000 in
theorem gX10_bound_X3_within : GoodIn wsX10_bound (va_wsS RX10 69 yX3_within wsX3_within) := goodIn_app (goodIn_of _ (by decide +kernel)) ggX10_bound_X3_within
set_option maxRecDepth 20000 in
theorem ggX10_bound_X10_isSide : GoodIn wsX10_bound wsX10_isSide := goodIn_r _ [11] (by decide +kernel) (by decide +kernel)
set_option maxRecDepth 20000 in
theorem gX10_bound_X10_isSide : GoodIn wsX10_bound (va_wsS RX10 85 yX10_isSide wsX10_isSide) := goodIn_app (goodIn_of _ (by decide +kernel)) ggX10_bound_X10_isSide
set_option maxRecDepth 20000 in
theorem ggX10_bound_X10_isTrust : GoodIn wsX10_bound wsX10_isTrust := goodIn_r _ [14, 4, 5, 6, 7] (by decide +kernel) (by decide +kernel)
set_option maxRecDepth 20000 in
theorem gX10_bound_X10_isTrust : GoodIn wsX10_bound (va_wsS RX10 89 yX10_isTrust wsX10_isTrust) := goodIn_app (goodIn_of _ (by decide +kernel)) ggX10_bound_X10_isTrust
set_option maxRecDepth 20000 in
theorem ggX10_bound_X1_upper : GoodIn wsX10_bound wsX1_upper := goodIn_r _ [19, 20, 21, 22, 23, 24, 25, 26, 27, 28, 29, 30, 31, 32, 33, 34, 35, 36, 37, 38, 39, 40, 41, 18, 42, 43, 44, 45, 46, 47, 48, 49, 50, 51, 52, 53, 54, 55, 56, 57, 58, 59, 60, 61, 62, 63, 77, 78, 79, 80, 81] (by decide +kernel) (by decide +kernel)
set_option maxRecDepth 20000 in
theorem gX10_bound_X1_upper : GoodIn wsX10_bound (wsV RX10 100 RX1 yX1_upper wsX1_upper) := goodIn_app (goodIn_of _ (by decide +kernel)) ggX10_bound_X1_upper
set_option maxRecDepth 20000 in
theorem ggX10_bound_X1_lower : GoodIn wsX10_bound wsX1_lower := goodIn_r _ [67, 68, 16, 17, 18, 19, 20, 21, 22, 23, 24, 25, 26, 27, 28, 29, 30, 31, 32, 33, 34, 35, 36, 37, 38, 39, 40, 41, 42, 43, 44, 45, 46, 47, 48, 49, 50, 51, 52, 53, 54, 55, 56, 57, 58, 59, 60, 61, 62, 63, 77, 78, 79, 80, 81] (by decide +kernel) (by decide +kernel)
set_option maxRecDepth 20000 in
theorem gX10_bound_X1_lower : GoodIn wsX10_bound (wsV RX10 104 RX1 yX1_lower wsX1_lower) := goodIn_app (goodIn_of _ (by decide +kernel)) ggX10_bound_X1_lower
theorem dX10_bound_0 : decode cX10_bound 0 = .ok (.iload_n 1, 1) := by decide +kernel
theorem dX10_bound_1 : decode cX10_bound 1 = .ok (.iconst 1, 1) := by decide +kernel
theorem dX10_bound_2 : decode cX10_bound 2 = .ok (.bipush 30, 2) := by decide +kernel
theorem dX10_bound_4 : decode cX10_bound 4 = .ok (.invokestatic 69, 3) := by decide +kernel
theorem dX10_bound_7 : decode cX10_bound 7 = .ok (.ifCond .eq 19, 3) := by decide +kernel
theorem dX10_bound_10 : decode cX10_bound 10 = .ok (.iload_n 2, 1) := by decide +kernel
theorem dX10_bound_11 : decode cX10_bound 11 = .ok (.iconst 0, 1) := by decide +kernel
theorem dX10_bound_12 : decode cX10_bound 12 = .ok (.iload_n 1, 1) := by decide +kernel
theorem dX10_bound_13 : decode cX10_bound 13 = .ok (.invokestatic 69, 3) := by decide +kernel
theorem dX10_bound_16 : decode cX10_bound 16 = .ok (.ifCond .eq 10, 3) := by decide +kernel
theorem dX10_bound_19 : decode cX10_bound 19 = .ok (.iload_n 3, 1) := by decide +kernel
theorem dX10_bound_20 : decode cX10_bound 20 = .ok (.invokestatic 85, 3) := by decide +kernel
theorem dX10_bound_23 : decode cX10_bound 23 = .ok (.ifCond .ne 5, 3) := by decide +kernel
theorem dX10_bound_26 : decode cX10_bound 26 = .ok (.iconst (-1), 1) := by decide +kernel
theorem dX10_bound_27 : decode cX10_bound 27 = .ok (.ireturn, 1) := by decide +kernel
theorem dX10_bound_28 : decode cX10_bound 28 = .ok (.iload 4, 2) := by decide +kernel
theorem dX10_bound_30 : decode cX10_bound 30 = .ok (.iload 5, 2) := by decide +kernel
theorem dX10_bound_32 : decode cX10_bound 32 = .ok (.invokestatic 89, 3) := by decide +kernel
theorem dX10_bound_35 : decode cX10_bound 35 = .ok (.ifCond .ne 13, 3) := by decide +kernel
theorem dX10_bound_38 : decode cX10_bound 38 = .ok (.new 93, 3) := by decide +kernel
theorem dX10_bound_41 : decode cX10_bound 41 = .ok (.dup, 1) := by decide +kernel
theorem dX10_bound_42 : decode cX10_bound 42 = .ok (.ldc 95, 2) := by decide +kernel
theorem dX10_bound_44 : decode cX10_bound 44 = .ok (.invokespecial 97, 3) := by decide +kernel
theorem dX10_bound_47 : decode cX10_bound 47 = .ok (.athrow, 1) := by decide +kernel
theorem dX10_bound_48 : decode cX10_bound 48 = .ok (.iload_n 3, 1) := by decide +kernel
theorem dX10_bound_49 : decode cX10_bound 49 = .ok (.ifCond .ne 19, 3) := by decide +kernel
theorem dX10_bound_52 : decode cX10_bound 52 = .ok (.aload_n 0, 1) := by decide +kernel
theorem dX10_bound_53 : decode cX10_bound 53 = .ok (.getfield 10, 3) := by decide +kernel
theorem dX10_bound_56 : decode cX10_bound 56 = .ok (.iload_n 1, 1) := by decide +kernel
theorem dX10_bound_57 : decode cX10_bound 57 = .ok (.iload_n 2, 1) := by decide +kernel
theorem dX10_bound_58 : decode cX10_bound 58 = .ok (.iload 4, 2) := by decide +kernel
theorem dX10_bound_60 : decode cX10_bound 60 = .ok (.iload 5, 2) := by decide +kernel
theorem dX10_bound_62 : decode cX10_bound 62 = .ok (.invokevirtual 100, 3) := by decide +kernel
theorem dX10_bound_65 : decode cX10_bound 65 = .ok (.goto 16, 3) := by decide +kernel
theorem dX10_bound_68 : decode cX10_bound 68 = .ok (.aload_n 0, 1) := by decide +kernel
theorem dX10_bound_69 : decode cX10_bound 69 = .ok (.getfield 10, 3) := by decide +kernel
theorem dX10_bound_72 : decode cX10_bound 72 = .ok (.iload_n 1, 1) := by decide +kernel
theorem dX10_bound_73 : decode cX10_bound 73 = .ok (.iload_n 2, 1) := by decide +kernel
theorem dX10_bound_74 : decode cX10_bound 74 = .ok (.iload 4, 2) := by decide +kernel
theorem dX10_bound_76 : decode cX10_bound 76 = .ok (.iload 5, 2) := by decide +kernel
theorem dX10_bound_78 : decode cX10_bound 78 = .ok (.invokevirtual 104, 3) := by decide +kernel
theorem dX10_bound_81 : decode cX10_bound 81 = .ok (.ireturn, 1) := by decide +kernel
set_option maxRecDepth 20000 in
theorem ggX10_row_X3_within : GoodIn wsX10_row wsX3_within := goodIn_r _ [5] (by decide +kernel) (by decide +kernel)
set_option maxRecDepth 20000 in
theorem gX10_row_X3_within : GoodIn wsX10_row (va_wsS RX10 69 yX3_within wsX3_within) := goodIn_app (goodIn_of _ (by decide +kernel)) ggX10_row_X3_within
set_option maxRecDepth 20000 in
theorem ggX10_row_X5_isFull : GoodIn wsX10_row wsX5_isFull := goodIn_r _ [10, 11, 32, 33, 34, 35] (by decide +kernel) (by decide +kernel)
set_option maxRecDepth 20000 in
theorem gX10_row_X5_isFull : GoodIn wsX10_row (wsV RX10 107 RX5 yX5_isFull wsX5_isFull) := goodIn_app (goodIn_of _ (by decide +kernel)) ggX10_row_X5_isFull
set_option maxRecDepth 20000 in
theorem ggX10_row_X5_add : GoodIn wsX10_row wsX5_add := goodIn_r _ [15, 16, 11, 17, 18, 19, 7, 8, 9, 10, 32, 33, 34, 35] (by decide +kernel) (by decide +kernel)
set_option maxRecDepth 20000 in
theorem gX10_row_X5_add : GoodIn wsX10_row (wsV RX10 111 RX5 yX5_add wsX5_add) := goodIn_app (goodIn_of _ (by decide +kernel)) ggX10_row_X5_add
set_option maxRecDepth 20000 in
theorem ggX10_row_X5_size : GoodIn wsX10_row wsX5_size := goodIn_r _ [23, 11, 32, 33, 34, 35] (by decide +kernel) (by decide +kernel)
set_option maxRecDepth 20000 in
theorem gX10_row_X5_size : GoodIn wsX10_row (wsV RX10 115 RX5 yX5_size wsX5_size) := goodIn_app (goodIn_of _ (by decide +kernel)) ggX10_row_X5_size
theorem dX10_row_0 : decode cX10_row 0 = .ok (.iload_n 1, 1) := by decide +kernel
theorem dX10_row_1 : decode cX10_row 1 = .ok (.iconst 0, 1) := by decide +kernel
theorem dX10_row_2 : decode cX10_row 2 = .ok (.bipush 7, 2) := by decide +kernel
theorem dX10_row_4 : decode cX10_row 4 = .ok (.invokestatic 69, 3) := by decide +kernel
theorem dX10_row_7 : decode cX10_row 7 = .ok (.ifCond .eq 23, 3) := by decide +kernel
theorem dX10_row_10 : decode cX10_row 10 = .ok (.iload_n 2, 1) := by decide +kernel
theorem dX10_row_11 : decode cX10_row 11 = .ok (.iconst 0, 1) := by decide +kernel
theorem dX10_row_12 : decode cX10_row 12 = .ok (.bipush 100, 2) := by decide +kernel
theorem dX10_row_14 : decode cX10_row 14 = .ok (.invokestatic 69, 3) := by decide +kernel
theorem dX10_row_17 : decode cX10_row 17 = .ok (.ifCond .eq 13, 3) := by decide +kernel
theorem dX10_row_20 : decode cX10_row 20 = .ok (.iload_n 3, 1) := by decide +kernel
theorem dX10_row_21 : decode cX10_row 21 = .ok (.iconst 0, 1) := by decide +kernel
theorem dX10_row_22 : decode cX10_row 22 = .ok (.bipush 100, 2) := by decide +kernel
theorem dX10_row_24 : decode cX10_row 24 = .ok (.invokestatic 69, 3) := by decide +kernel
theorem dX10_row_27 : decode cX10_row 27 = .ok (.ifCond .ne 5, 3) := by decide +kernel
theorem dX10_row_30 : decode cX10_row 30 = .ok (.iconst (-1), 1) := by decide +kernel
theorem dX10_row_31 : decode cX10_row 31 = .ok (.ireturn, 1) := by decide +kernel
theorem dX10_row_32 : decode cX10_row 32 = .ok (.aload_n 0, 1) := by decide +kernel
theorem dX10_row_33 : decode cX10_row 33 = .ok (.getfield 19, 3) := by decide +kernel
theorem dX10_row_36 : decode cX10_row 36 = .ok (.invokevirtual 107, 3) := by decide +kernel
theorem dX10_row_39 : decode cX10_row 39 = .ok (.ifCond .eq 6, 3) := by decide +kernel
theorem dX10_row_42 : decode cX10_row 42 = .ok (.bipush (-2), 2) := by decide +kernel
theorem dX10_row_44 : decode cX10_row 44 = .ok (.ireturn, 1) := by decide +kernel
theorem dX10_row_45 : decode cX10_row 45 = .ok (.aload_n 0, 1) := by decide +kernel
theorem dX10_row_46 : decode cX10_row 46 = .ok (.getfield 19, 3) := by decide +kernel
theorem dX10_row_49 : decode cX10_row 49 = .ok (.iload_n 1, 1) := by decide +kernel
theorem dX10_row_50 : decode cX10_row 50 = .ok (.iload_n 2, 1) := by decide +kernel
theorem dX10_row_51 : decode cX10_row 51 = .ok (.iload_n 3, 1) := by decide +kernel
theorem dX10_row_52 : decode cX10_row 52 = .ok (.invokevirtual 111, 3) := by decide +kernel
theorem dX10_row_55 : decode cX10_row 55 = .ok (.aload_n 0, 1) := by decide +kernel
theorem dX10_row_56 : decode cX10_row 56 = .ok (.getfield 19, 3) := by decide +kernel
theorem dX10_row_59 : decode cX10_row 59 = .ok (.invokevirtual 115, 3) := by decide +kernel
theorem dX10_row_62 : decode cX10_row 62 = .ok (.ireturn, 1) := by decide +kernel
set_option maxRecDepth 20000 in
theorem ggX10_drop_X5_size : GoodIn wsX10_drop wsX5_size := goodIn_r _ [6, 7, 20, 21, 22, 23] (by decide +kernel) (by decide +kernel)
set_option maxRecDepth 20000 in
theorem gX10_drop_X5_size : GoodIn wsX10_drop (wsV RX10 115 RX5 yX5_size wsX5_size) := goodIn_app (goodIn_of _ (by decide +kernel)) ggX10_drop_X5_size
set_option maxRecDepth 20000 in
theorem ggX10_drop_X5_removeLast : GoodIn wsX10_drop wsX5_removeLast := goodIn_r _ [11, 7, 20, 21, 22, 23] (by decide +kernel) (by decide +kernel)
set_option maxRecDepth 20000 in
theorem gX10_drop_X5_removeLast : GoodIn wsX10_drop (wsV RX10 119 RX5 yX5_removeLast wsX5_removeLast) := goodIn_app (goodIn_of _ (by decide +kernel)) ggX10_drop_X5_removeLast
theorem dX10_drop_0 : decode cX10_drop 0 = .ok (.aload_n 0, 1) := by decide +kernel
theorem dX10_drop_1 : decode cX10_drop 1 = .ok (.getfield 19, 3) := by decide +kernel
theorem dX10_drop_4 : decode cX10_drop 4 = .ok (.invokevirtual 115, 3) := by decide +kernel
theorem dX10_drop_7 : decode cX10_drop 7 = .ok (.ifCond .ne 6, 3) := by decide +kernel
theorem dX10_drop_10 : decode cX10_drop 10 = .ok (.bipush (-3), 2) := by decide +kernel
theorem dX10_drop_12 : decode cX10_drop 12 = .ok (.ireturn, 1) := by decide +kernel
theorem dX10_drop_13 : decode cX10_drop 13 = .ok (.aload_n 0, 1) := by decide +kernel
theorem dX10_drop_14 : decode cX10_drop 14 = .ok (.getfield 19, 3) := by decide +kernel
theorem dX10_drop_17 : decode cX10_drop 17 = .ok (.invokevirtual 119, 3) := by decide +kernel
theorem dX10_drop_20 : decode cX10_drop 20 = .ok (.aload_n 0, 1) := by decide +kernel
theorem dX10_drop_21 : decode cX10_drop 21 = .ok (.getfield 19, 3) := by decide +kernel
theorem dX10_drop_24 : decode cX10_drop 24 = .ok (.invokevirtual 115, 3) := by decide +kernel
theorem dX10_drop_27 : decode cX10_drop 27 = .ok (.ireturn, 1) := by decide +kernel
set_option maxRecDepth 20000 in
theorem ggX10_turned_X3_within : GoodIn wsX10_turned wsX3_within := goodIn_r _ [8] (by decide +kernel) (by decide +kernel)
set_option maxRecDepth 20000 in
theorem gX10_turned_X3_within : GoodIn wsX10_turned (va_wsS RX10 69 yX3_within wsX3_within) := goodIn_app (goodIn_of _ (by decide +kernel)) ggX10_turned_X3_within
set_option maxRecDepth 20000 in
theorem ggX10_turned_X8_take : GoodIn wsX10_turned wsX8_take := goodIn_r _ [13, 14, 15, 16, 17, 12, 18, 19, 20, 21, 22, 23, 24, 25, 26, 27, 28, 29, 30, 31, 32, 33, 34, 35, 36, 37, 38, 39, 40, 41, 42, 43, 44, 45, 46, 47, 48, 49, 118, 119, 120, 121, 122, 123, 124] (by decide +kernel) (by decide +kernel)
set_option maxRecDepth 20000 in
theorem gX10_turned_X8_take : GoodIn wsX10_turned (wsV RX10 122 RX8 yX8_take wsX8_take) := goodIn_app (goodIn_of _ (by decide +kernel)) ggX10_turned_X8_take
set_option maxRecDepth 20000 in
theorem ggX10_turned_X7_take : GoodIn wsX10_turned wsX7_take := goodIn_r _ [54, 55, 56, 57, 58, 59, 60, 61, 62, 63, 64, 65, 53, 66, 67, 68, 69, 70, 71, 72, 73, 74, 75, 12, 76, 14, 77, 78, 79, 80, 36, 81, 82, 83, 84, 85, 86, 87, 88, 125, 126, 127, 128, 118, 119, 120] (by decide +kernel) (by decide +kernel)
set_option maxRecDepth 20000 in
theorem gX10_turned_X7_take : GoodIn wsX10_turned (wsV RX10 126 RX7 yX7_take wsX7_take) := goodIn_app (goodIn_of _ (by decide +kernel)) ggX10_turned_X7_take
set_option maxRecDepth 20000 in
theorem ggX10_turned_X7_signs : GoodIn wsX10_turned wsX7_signs := goodIn_r _ [92, 67, 125, 126, 127, 128] (by decide +kernel) (by decide +kernel)
set_option maxRecDepth 20000 in
theorem gX10_turned_X7_signs : GoodIn wsX10_turned (wsV RX10 129 RX7 yX7_signs wsX7_signs) := goodIn_app (goodIn_of _ (by decide +kernel)) ggX10_turned_X7_signs
set_option maxRecDepth 20000 in
theorem ggX10_turned_X7_waysAtLeast : GoodIn wsX10_turned wsX7_waysAtLeast := goodIn_r _ [96, 68, 69, 97, 98, 99, 53, 100, 60, 61, 58, 62, 55, 101, 102, 103, 104, 67, 125, 126, 127, 128] (by decide +kernel) (by decide +kernel)
set_option maxRecDepth 20000 in
theorem gX10_turned_X7_waysAtLeast : GoodIn wsX10_turned (wsV RX10 132 RX7 yX7_waysAtLeast wsX7_waysAtLeast) := goodIn_app (goodIn_of _ (by decide +kernel)) ggX10_turned_X7_waysAtLeast
set_option maxRecDepth 20000 in
theorem ggX10_turned_X7_waysAsFar : GoodIn wsX10_turned wsX7_waysAsFar := goodIn_r _ [108, 68, 69, 109, 101, 102, 103, 53, 104, 67, 81, 82, 83, 84, 60, 61, 58, 62, 97, 98, 99, 100, 55, 125, 126, 127, 128] (by decide +kernel) (by decide +kernel)
set_option maxRecDepth 20000 in
theorem gX10_turned_X7_waysAsFar : GoodIn wsX10_turned (wsV RX10 136 RX7 yX7_waysAsFar wsX7_waysAsFar) := goodIn_app (goodIn_of _ (by decide +kernel)) ggX10_turned_X7_waysAsFar
theorem dX10_turned_0 : decode cX10_turned 0 = .ok (.iload_n 2, 1) := by decide +kernel
theorem dX10_turned_1 : decode cX10_turned 1 = .ok (.iconst 0, 1) := by decide +kernel
theorem dX10_turned_2 : decode cX10_turned 2 = .ok (.iconst 2, 1) := by decide +kernel
theorem dX10_turned_3 : decode cX10_turned 3 = .ok (.invokestatic 69, 3) := by decide +kernel
theorem dX10_turned_6 : decode cX10_turned 6 = .ok (.ifCond .ne 7, 3) := by decide +kernel
theorem dX10_turned_9 : decode cX10_turned 9 = .ok (.ldc2_w 75, 3) := by decide +kernel
theorem dX10_turned_12 : decode cX10_turned 12 = .ok (.lreturn, 1) := by decide +kernel
theorem dX10_turned_13 : decode cX10_turned 13 = .ok (.aload_n 0, 1) := by decide +kernel
theorem dX10_turned_14 : decode cX10_turned 14 = .ok (.getfield 26, 3) := by decide +kernel
theorem dX10_turned_17 : decode cX10_turned 17 = .ok (.aload_n 0, 1) := by decide +kernel
theorem dX10_turned_18 : decode cX10_turned 18 = .ok (.getfield 19, 3) := by decide +kernel
theorem dX10_turned_21 : decode cX10_turned 21 = .ok (.iload_n 1, 1) := by decide +kernel
theorem dX10_turned_22 : decode cX10_turned 22 = .ok (.invokevirtual 122, 3) := by decide +kernel
theorem dX10_turned_25 : decode cX10_turned 25 = .ok (.aload_n 0, 1) := by decide +kernel
theorem dX10_turned_26 : decode cX10_turned 26 = .ok (.getfield 33, 3) := by decide +kernel
theorem dX10_turned_29 : decode cX10_turned 29 = .ok (.aload_n 0, 1) := by decide +kernel
theorem dX10_turned_30 : decode cX10_turned 30 = .ok (.getfield 26, 3) := by decide +kernel
theorem dX10_turned_33 : decode cX10_turned 33 = .ok (.invokevirtual 126, 3) := by decide +kernel
theorem dX10_turned_36 : decode cX10_turned 36 = .ok (.iload_n 2, 1) := by decide +kernel
theorem dX10_turned_37 : decode cX10_turned 37 = .ok (.ifCond .ne 12, 3) := by decide +kernel
theorem dX10_turned_40 : decode cX10_turned 40 = .ok (.aload_n 0, 1) := by decide +kernel
theorem dX10_turned_41 : decode cX10_turned 41 = .ok (.getfield 33, 3) := by decide +kernel
theorem dX10_turned_44 : decode cX10_turned 44 = .ok (.invokevirtual 129, 3) := by decide +kernel
theorem dX10_turned_47 : decode cX10_turned 47 = .ok (.i2l, 1) := by decide +kernel
theorem dX10_turned_48 : decode cX10_turned 48 = .ok (.lreturn, 1) := by decide +kernel
theorem dX10_turned_49 : decode cX10_turned 49 = .ok (.iload_n 2, 1) := by decide +kernel
theorem dX10_turned_50 : decode cX10_turned 50 = .ok (.iconst 1, 1) := by decide +kernel
theorem dX10_turned_51 : decode cX10_turned 51 = .ok (.if_icmp .ne 13, 3) := by decide +kernel
theorem dX10_turned_54 : decode cX10_turned 54 = .ok (.aload_n 0, 1) := by decide +kernel
theorem dX10_turned_55 : decode cX10_turned 55 = .ok (.getfield 33, 3) := by decide +kernel
theorem dX10_turned_58 : decode cX10_turned 58 = .ok (.invokevirtual 132, 3) := by decide +kernel
theorem dX10_turned_61 : decode cX10_turned 61 = .ok (.goto 10, 3) := by decide +kernel
theorem dX10_turned_64 : decode cX10_turned 64 = .ok (.aload_n 0, 1) := by decide +kernel
theorem dX10_turned_65 : decode cX10_turned 65 = .ok (.getfield 33, 3) := by decide +kernel
theorem dX10_turned_68 : decode cX10_turned 68 = .ok (.invokevirtual 136, 3) := by decide +kernel
theorem dX10_turned_71 : decode cX10_turned 71 = .ok (.lreturn, 1) := by decide +kernel
set_option maxRecDepth 20000 in
theorem ggX10_wins_X3_within : GoodIn wsX10_wins wsX3_within := goodIn_r _ [5] (by decide +kernel) (by decide +kernel)
set_option maxRecDepth 20000 in
theorem gX10_wins_X3_within : GoodIn wsX10_wins (va_wsS RX10 69 yX3_within wsX3_within) := goodIn_app (goodIn_of _ (by decide +kernel)) ggX10_wins_X3_within
set_option maxRecDepth 20000 in
theorem ggX10_wins_X5_winsBy : GoodIn wsX10_wins wsX5_winsBy := goodIn_r _ [10, 11, 12, 13, 14, 15, 9, 16, 17, 30, 31, 32, 33] (by decide +kernel) (by decide +kernel)
set_option maxRecDepth 20000 in
theorem gX10_wins_X5_winsBy : GoodIn wsX10_wins (wsV RX10 139 RX5 yX5_winsBy wsX5_winsBy) := goodIn_app (goodIn_of _ (by decide +kernel)) ggX10_wins_X5_winsBy
set_option maxRecDepth 20000 in
theorem ggX10_wins_X5_lossesBy : GoodIn wsX10_wins wsX5_lossesBy := goodIn_r _ [21, 12, 11, 13, 14, 15, 9, 16, 17, 30, 31, 32, 33] (by decide +kernel) (by decide +kernel)
set_option maxRecDepth 20000 in
theorem gX10_wins_X5_lossesBy : GoodIn wsX10_wins (wsV RX10 143 RX5 yX5_lossesBy wsX5_lossesBy) := goodIn_app (goodIn_of _ (by decide +kernel)) ggX10_wins_X5_lossesBy
theorem dX10_wins_0 : decode cX10_wins 0 = .ok (.iload_n 1, 1) := by decide +kernel
theorem dX10_wins_1 : decode cX10_wins 1 = .ok (.iconst 0, 1) := by decide +kernel
theorem dX10_wins_2 : decode cX10_wins 2 = .ok (.bipush 101, 2) := by decide +kernel
theorem dX10_wins_4 : decode cX10_wins 4 = .ok (.invokestatic 69, 3) := by decide +kernel
theorem dX10_wins_7 : decode cX10_wins 7 = .ok (.ifCond .eq 12, 3) := by decide +kernel
theorem dX10_wins_10 : decode cX10_wins 10 = .ok (.iload_n 2, 1) := by decide +kernel
theorem dX10_wins_11 : decode cX10_wins 11 = .ok (.iconst 0, 1) := by decide +kernel
theorem dX10_wins_12 : decode cX10_wins 12 = .ok (.iconst 1, 1) := by decide +kernel
theorem dX10_wins_13 : decode cX10_wins 13 = .ok (.invokestatic 69, 3) := by decide +kernel
theorem dX10_wins_16 : decode cX10_wins 16 = .ok (.ifCond .ne 5, 3) := by decide +kernel
theorem dX10_wins_19 : decode cX10_wins 19 = .ok (.iconst (-1), 1) := by decide +kernel
theorem dX10_wins_20 : decode cX10_wins 20 = .ok (.ireturn, 1) := by decide +kernel
theorem dX10_wins_21 : decode cX10_wins 21 = .ok (.iload_n 2, 1) := by decide +kernel
theorem dX10_wins_22 : decode cX10_wins 22 = .ok (.ifCond .ne 14, 3) := by decide +kernel
theorem dX10_wins_25 : decode cX10_wins 25 = .ok (.aload_n 0, 1) := by decide +kernel
theorem dX10_wins_26 : decode cX10_wins 26 = .ok (.getfield 19, 3) := by decide +kernel
theorem dX10_wins_29 : decode cX10_wins 29 = .ok (.iload_n 1, 1) := by decide +kernel
theorem dX10_wins_30 : decode cX10_wins 30 = .ok (.invokevirtual 139, 3) := by decide +kernel
theorem dX10_wins_33 : decode cX10_wins 33 = .ok (.goto 11, 3) := by decide +kernel
theorem dX10_wins_36 : decode cX10_wins 36 = .ok (.aload_n 0, 1) := by decide +kernel
theorem dX10_wins_37 : decode cX10_wins 37 = .ok (.getfield 19, 3) := by decide +kernel
theorem dX10_wins_40 : decode cX10_wins 40 = .ok (.iload_n 1, 1) := by decide +kernel
theorem dX10_wins_41 : decode cX10_wins 41 = .ok (.invokevirtual 143, 3) := by decide +kernel
theorem dX10_wins_44 : decode cX10_wins 44 = .ok (.ireturn, 1) := by decide +kernel
set_option maxRecDepth 20000 in
theorem ggX10_even_X3_within : GoodIn wsX10_even wsX3_within := goodIn_r _ [7] (by decide +kernel) (by decide +kernel)
set_option maxRecDepth 20000 in
theorem gX10_even_X3_within : GoodIn wsX10_even (va_wsS RX10 69 yX3_within wsX3_within) := goodIn_app (goodIn_of _ (by decide +kernel)) ggX10_even_X3_within
set_option maxRecDepth 20000 in
theorem ggX10_even_X10_isSide : GoodIn wsX10_even wsX10_isSide := goodIn_r _ [11] (by decide +kernel) (by decide +kernel)
set_option maxRecDepth 20000 in
theorem gX10_even_X10_isSide : GoodIn wsX10_even (va_wsS RX10 85 yX10_isSide wsX10_isSide) := goodIn_app (goodIn_of _ (by decide +kernel)) ggX10_even_X10_isSide
set_option maxRecDepth 20000 in
theorem ggX10_even_X5_winsBy : GoodIn wsX10_even wsX5_winsBy := goodIn_r _ [16, 17, 18, 19, 20, 21, 15, 22, 23, 70, 71, 72, 73] (by decide +kernel) (by decide +kernel)
set_option maxRecDepth 20000 in
theorem gX10_even_X5_winsBy : GoodIn wsX10_even (wsV RX10 139 RX5 yX5_winsBy wsX5_winsBy) := goodIn_app (goodIn_of _ (by decide +kernel)) ggX10_even_X5_winsBy
set_option maxRecDepth 20000 in
theorem ggX10_even_X5_lossesBy : GoodIn wsX10_even wsX5_lossesBy := goodIn_r _ [27, 18, 17, 19, 20, 21, 15, 22, 23, 70, 71, 72, 73] (by decide +kernel) (by decide +kernel)
set_option maxRecDepth 20000 in
theorem gX10_even_X5_lossesBy : GoodIn wsX10_even (wsV RX10 143 RX5 yX5_lossesBy wsX5_lossesBy) := goodIn_app (goodIn_of _ (by decide +kernel)) ggX10_even_X5_lossesBy
set_option maxRecDepth 20000 in
theorem ggX10_even_X10_takeOddsOf : GoodIn wsX10_even wsX10_takeOddsOf := goodIn_r _ [31, 32, 33, 34, 35, 3, 36, 37, 38, 6, 39, 40, 41, 42, 43, 44, 45, 46, 47, 48, 49, 50, 51, 52, 53, 54, 55, 56, 57, 62, 63, 64, 65, 66, 67, 68, 69, 74, 75] (by decide +kernel) (by decide +kernel)
set_option maxRecDepth 20000 in
theorem gX10_even_X10_takeOddsOf : GoodIn wsX10_even (wsV RX10 146 RX10 yX10_takeOddsOf wsX10_takeOddsOf) := goodIn_app (goodIn_of _ (by decide +kernel)) ggX10_even_X10_takeOddsOf
set_option maxRecDepth 20000 in
theorem ggX10_even_X4_told : GoodIn wsX10_even wsX4_told := goodIn_r _ [61, 48, 49, 74, 75] (by decide +kernel) (by decide +kernel)
set_option maxRecDepth 20000 in
theorem gX10_even_X4_told : GoodIn wsX10_even (wsV RX10 150 RX4 yX4_told wsX4_told) := goodIn_app (goodIn_of _ (by decide +kernel)) ggX10_even_X4_told
theorem dX10_even_0 : decode cX10_even 0 = .ok (.iload_n 1, 1) := by decide +kernel
theorem dX10_even_1 : decode cX10_even 1 = .ok (.iconst 0, 1) := by decide +kernel
theorem dX10_even_2 : decode cX10_even 2 = .ok (.bipush 101, 2) := by decide +kernel
theorem dX10_even_4 : decode cX10_even 4 = .ok (.invokestatic 69, 3) := by decide +kernel
theorem dX10_even_7 : decode cX10_even 7 = .ok (.ifCond .eq 10, 3) := by decide +kernel
theorem dX10_even_10 : decode cX10_even 10 = .ok (.iload_n 2, 1) := by decide +kernel
theorem dX10_even_11 : decode cX10_even 11 = .ok (.invokestatic 85, 3) := by decide +kernel
theorem dX10_even_14 : decode cX10_even 14 = .ok (.ifCond .ne 7, 3) := by decide +kernel
theorem dX10_even_17 : decode cX10_even 17 = .ok (.ldc2_w 75, 3) := by decide +kernel
theorem dX10_even_20 : decode cX10_even 20 = .ok (.lreturn, 1) := by decide +kernel
theorem dX10_even_21 : decode cX10_even 21 = .ok (.aload_n 0, 1) := by decide +kernel
theorem dX10_even_22 : decode cX10_even 22 = .ok (.aload_n 0, 1) := by decide +kernel
theorem dX10_even_23 : decode cX10_even 23 = .ok (.getfield 19, 3) := by decide +kernel
theorem dX10_even_26 : decode cX10_even 26 = .ok (.iload_n 1, 1) := by decide +kernel
theorem dX10_even_27 : decode cX10_even 27 = .ok (.invokevirtual 139, 3) := by decide +kernel
theorem dX10_even_30 : decode cX10_even 30 = .ok (.aload_n 0, 1) := by decide +kernel
theorem dX10_even_31 : decode cX10_even 31 = .ok (.getfield 19, 3) := by decide +kernel
theorem dX10_even_34 : decode cX10_even 34 = .ok (.iload_n 1, 1) := by decide +kernel
theorem dX10_even_35 : decode cX10_even 35 = .ok (.invokevirtual 143, 3) := by decide +kernel
theorem dX10_even_38 : decode cX10_even 38 = .ok (.invokevirtual 146, 3) := by decide +kernel
theorem dX10_even_41 : decode cX10_even 41 = .ok (.aload_n 0, 1) := by decide +kernel
theorem dX10_even_42 : decode cX10_even 42 = .ok (.getfield 61, 3) := by decide +kernel
theorem dX10_even_45 : decode cX10_even 45 = .ok (.iload_n 2, 1) := by decide +kernel
theorem dX10_even_46 : decode cX10_even 46 = .ok (.invokevirtual 150, 3) := by decide +kernel
theorem dX10_even_49 : decode cX10_even 49 = .ok (.lreturn, 1) := by decide +kernel
set_option maxRecDepth 20000 in
theorem ggX10_draw_X3_within : GoodIn wsX10_draw wsX3_within := goodIn_r _ [7] (by decide +kernel) (by decide +kernel)
set_option maxRecDepth 20000 in
theorem gX10_draw_X3_within : GoodIn wsX10_draw (va_wsS RX10 69 yX3_within wsX3_within) := goodIn_app (goodIn_of _ (by decide +kernel)) ggX10_draw_X3_within
set_option maxRecDepth 20000 in
theorem ggX10_draw_X5_size : GoodIn wsX10_draw wsX5_size := goodIn_r _ [12, 13, 108, 109, 110, 111] (by decide +kernel) (by decide +kernel)
set_option maxRecDepth 20000 in
theorem gX10_draw_X5_size : GoodIn wsX10_draw (wsV RX10 115 RX5 yX5_size wsX5_size) := goodIn_app (goodIn_of _ (by decide +kernel)) ggX10_draw_X5_size
set_option maxRecDepth 20000 in
theorem ggX10_draw_X8_take : GoodIn wsX10_draw wsX8_take := goodIn_r _ [18, 19, 20, 21, 22, 17, 23, 24, 25, 26, 11, 27, 13, 28, 29, 30, 31, 32, 33, 34, 35, 36, 37, 38, 39, 40, 41, 42, 43, 44, 45, 9, 10, 12, 46, 47, 48, 49, 112, 113, 114, 108, 109, 110, 111] (by decide +kernel) (by decide +kernel)
set_option maxRecDepth 20000 in
theorem gX10_draw_X8_take : GoodIn wsX10_draw (wsV RX10 122 RX8 yX8_take wsX8_take) := goodIn_app (goodIn_of _ (by decide +kernel)) ggX10_draw_X8_take
set_option maxRecDepth 20000 in
theorem ggX10_draw_X2_drawAnew : GoodIn wsX10_draw wsX2_drawAnew := goodIn_r _ [54, 55, 56, 57, 58, 59, 60, 61, 17, 62, 19, 63, 64, 65, 66, 39, 67, 68, 69, 70, 40, 71, 72, 73, 74, 75, 76, 77, 78, 79, 80, 81, 82, 83, 6, 84, 85, 86, 87, 53, 88, 89, 90, 91, 92, 93, 94, 95, 96, 97, 98, 115, 116, 117, 118, 112, 113, 114, 119, 120] (by decide +kernel) (by decide +kernel)
set_option maxRecDepth 20000 in
theorem gX10_draw_X2_drawAnew : GoodIn wsX10_draw (wsV RX10 154 RX2 yX2_drawAnew wsX2_drawAnew) := goodIn_app (goodIn_of _ (by decide +kernel)) ggX10_draw_X2_drawAnew
set_option maxRecDepth 20000 in
theorem ggX10_draw_X8_size : GoodIn wsX10_draw wsX8_size := goodIn_r _ [62, 19, 112, 113, 114] (by decide +kernel) (by decide +kernel)
set_option maxRecDepth 20000 in
theorem gX10_draw_X8_size : GoodIn wsX10_draw (wsV RX10 158 RX8 yX8_size wsX8_size) := goodIn_app (goodIn_of _ (by decide +kernel)) ggX10_draw_X8_size
theorem dX10_draw_0 : decode cX10_draw 0 = .ok (.iload_n 3, 1) := by decide +kernel
theorem dX10_draw_1 : decode cX10_draw 1 = .ok (.iconst 1, 1) := by decide +kernel
theorem dX10_draw_2 : decode cX10_draw 2 = .ok (.bipush 60, 2) := by decide +kernel
theorem dX10_draw_4 : decode cX10_draw 4 = .ok (.invokestatic 69, 3) := by decide +kernel
theorem dX10_draw_7 : decode cX10_draw 7 = .ok (.ifCond .ne 5, 3) := by decide +kernel
theorem dX10_draw_10 : decode cX10_draw 10 = .ok (.iconst (-1), 1) := by decide +kernel
theorem dX10_draw_11 : decode cX10_draw 11 = .ok (.ireturn, 1) := by decide +kernel
theorem dX10_draw_12 : decode cX10_draw 12 = .ok (.aload_n 0, 1) := by decide +kernel
theorem dX10_draw_13 : decode cX10_draw 13 = .ok (.getfield 19, 3) := by decide +kernel
theorem dX10_draw_16 : decode cX10_draw 16 = .ok (.invokevirtual 115, 3) := by decide +kernel
theorem dX10_draw_19 : decode cX10_draw 19 = .ok (.ifCond .ne 6, 3) := by decide +kernel
theorem dX10_draw_22 : decode cX10_draw 22 = .ok (.bipush (-3), 2) := by decide +kernel
theorem dX10_draw_24 : decode cX10_draw 24 = .ok (.ireturn, 1) := by decide +kernel
theorem dX10_draw_25 : decode cX10_draw 25 = .ok (.aload_n 0, 1) := by decide +kernel
theorem dX10_draw_26 : decode cX10_draw 26 = .ok (.getfield 26, 3) := by decide +kernel
theorem dX10_draw_29 : decode cX10_draw 29 = .ok (.aload_n 0, 1) := by decide +kernel
theorem dX10_draw_30 : decode cX10_draw 30 = .ok (.getfield 19, 3) := by decide +kernel
theorem dX10_draw_33 : decode cX10_draw 33 = .ok (.iload 4, 2) := by decide +kernel
theorem dX10_draw_35 : decode cX10_draw 35 = .ok (.invokevirtual 122, 3) := by decide +kernel
theorem dX10_draw_38 : decode cX10_draw 38 = .ok (.aload_n 0, 1) := by decide +kernel
theorem dX10_draw_39 : decode cX10_draw 39 = .ok (.getfield 40, 3) := by decide +kernel
theorem dX10_draw_42 : decode cX10_draw 42 = .ok (.lload_n 1, 1) := by decide +kernel
theorem dX10_draw_43 : decode cX10_draw 43 = .ok (.iload_n 3, 1) := by decide +kernel
theorem dX10_draw_44 : decode cX10_draw 44 = .ok (.aload_n 0, 1) := by decide +kernel
theorem dX10_draw_45 : decode cX10_draw 45 = .ok (.getfield 26, 3) := by decide +kernel
theorem dX10_draw_48 : decode cX10_draw 48 = .ok (.invokevirtual 154, 3) := by decide +kernel
theorem dX10_draw_51 : decode cX10_draw 51 = .ok (.aload_n 0, 1) := by decide +kernel
theorem dX10_draw_52 : decode cX10_draw 52 = .ok (.getfield 26, 3) := by decide +kernel
theorem dX10_draw_55 : decode cX10_draw 55 = .ok (.invokevirtual 158, 3) := by decide +kernel
theorem dX10_draw_58 : decode cX10_draw 58 = .ok (.ireturn, 1) := by decide +kernel
set_option maxRecDepth 20000 in
theorem ggX10_drawn_X10_isSide : GoodIn wsX10_drawn wsX10_isSide := goodIn_r _ [8] (by decide +kernel) (by decide +kernel)
set_option maxRecDepth 20000 in
theorem gX10_drawn_X10_isSide : GoodIn wsX10_drawn (va_wsS RX10 85 yX10_isSide wsX10_isSide) := goodIn_app (goodIn_of _ (by decide +kernel)) ggX10_drawn_X10_isSide
set_option maxRecDepth 20000 in
theorem ggX10_drawn_X2_size : GoodIn wsX10_drawn wsX2_size := goodIn_r _ [13, 14, 29, 30, 31, 32] (by decide +kernel) (by decide +kernel)
set_option maxRecDepth 20000 in
theorem gX10_drawn_X2_size : GoodIn wsX10_drawn (wsV RX10 159 RX2 yX2_size wsX2_size) := goodIn_app (goodIn_of _ (by decide +kernel)) ggX10_drawn_X2_size
set_option maxRecDepth 20000 in
theorem ggX10_drawn_X2_told : GoodIn wsX10_drawn wsX2_told := goodIn_r _ [18, 14, 19, 20, 29, 30, 31, 32] (by decide +kernel) (by decide +kernel)
set_option maxRecDepth 20000 in
theorem gX10_drawn_X2_told : GoodIn wsX10_drawn (wsV RX10 165 RX2 yX2_told wsX2_told) := goodIn_app (goodIn_of _ (by decide +kernel)) ggX10_drawn_X2_told
theorem dX10_drawn_0 : decode cX10_drawn 0 = .ok (.iload_n 2, 1) := by decide +kernel
theorem dX10_drawn_1 : decode cX10_drawn 1 = .ok (.invokestatic 85, 3) := by decide +kernel
theorem dX10_drawn_4 : decode cX10_drawn 4 = .ok (.ifCond .ne 7, 3) := by decide +kernel
theorem dX10_drawn_7 : decode cX10_drawn 7 = .ok (.ldc2_w 75, 3) := by decide +kernel
theorem dX10_drawn_10 : decode cX10_drawn 10 = .ok (.lreturn, 1) := by decide +kernel
theorem dX10_drawn_11 : decode cX10_drawn 11 = .ok (.iload_n 1, 1) := by decide +kernel
theorem dX10_drawn_12 : decode cX10_drawn 12 = .ok (.ifCond .lt 14, 3) := by decide +kernel
theorem dX10_drawn_15 : decode cX10_drawn 15 = .ok (.iload_n 1, 1) := by decide +kernel
theorem dX10_drawn_16 : decode cX10_drawn 16 = .ok (.aload_n 0, 1) := by decide +kernel
theorem dX10_drawn_17 : decode cX10_drawn 17 = .ok (.getfield 40, 3) := by decide +kernel
theorem dX10_drawn_20 : decode cX10_drawn 20 = .ok (.invokevirtual 159, 3) := by decide +kernel
theorem dX10_drawn_23 : decode cX10_drawn 23 = .ok (.if_icmp .lt 13, 3) := by decide +kernel
theorem dX10_drawn_26 : decode cX10_drawn 26 = .ok (.new 160, 3) := by decide +kernel
theorem dX10_drawn_29 : decode cX10_drawn 29 = .ok (.dup, 1) := by decide +kernel
theorem dX10_drawn_30 : decode cX10_drawn 30 = .ok (.ldc 162, 2) := by decide +kernel
theorem dX10_drawn_32 : decode cX10_drawn 32 = .ok (.invokespecial 164, 3) := by decide +kernel
theorem dX10_drawn_35 : decode cX10_drawn 35 = .ok (.athrow, 1) := by decide +kernel
theorem dX10_drawn_36 : decode cX10_drawn 36 = .ok (.aload_n 0, 1) := by decide +kernel
theorem dX10_drawn_37 : decode cX10_drawn 37 = .ok (.getfield 40, 3) := by decide +kernel
theorem dX10_drawn_40 : decode cX10_drawn 40 = .ok (.iload_n 1, 1) := by decide +kernel
theorem dX10_drawn_41 : decode cX10_drawn 41 = .ok (.iload_n 2, 1) := by decide +kernel
theorem dX10_drawn_42 : decode cX10_drawn 42 = .ok (.invokevirtual 165, 3) := by decide +kernel
theorem dX10_drawn_45 : decode cX10_drawn 45 = .ok (.lreturn, 1) := by decide +kernel
set_option maxRecDepth 20000 in
theorem ggX10_percentile_X3_within : GoodIn wsX10_percentile wsX3_within := goodIn_r _ [11] (by decide +kernel) (by decide +kernel)
set_option maxRecDepth 20000 in
theorem gX10_percentile_X3_within : GoodIn wsX10_percentile (va_wsS RX10 69 yX3_within wsX3_within) := goodIn_app (goodIn_of _ (by decide +kernel)) ggX10_percentile_X3_within
set_option maxRecDepth 20000 in
theorem ggX10_percentile_X10_isSide : GoodIn wsX10_percentile wsX10_isSide := goodIn_r _ [15] (by decide +kernel) (by decide +kernel)
set_option maxRecDepth 20000 in
theorem gX10_percentile_X10_isSide : GoodIn wsX10_percentile (va_wsS RX10 85 yX10_isSide wsX10_isSide) := goodIn_app (goodIn_of _ (by decide +kernel)) ggX10_percentile_X10_isSide
set_option maxRecDepth 20000 in
theorem ggX10_percentile_X2_size : GoodIn wsX10_percentile wsX2_size := goodIn_r _ [20, 21, 36, 37, 38, 39] (by decide +kernel) (by decide +kernel)
set_option maxRecDepth 20000 in
theorem gX10_percentile_X2_size : GoodIn wsX10_percentile (wsV RX10 159 RX2 yX2_size wsX2_size) := goodIn_app (goodIn_of _ (by decide +kernel)) ggX10_percentile_X2_size
set_option maxRecDepth 20000 in
theorem ggX10_percentile_X2_told : GoodIn wsX10_percentile wsX2_told := goodIn_r _ [25, 21, 26, 27, 36, 37, 38, 39] (by decide +kernel) (by decide +kernel)
set_option maxRecDepth 20000 in
theorem gX10_percentile_X2_told : GoodIn wsX10_percentile (wsV RX10 165 RX2 yX2_told wsX2_told) := goodIn_app (goodIn_of _ (by decide +kernel)) ggX10_percentile_X2_told
theorem dX10_percentile_0 : decode cX10_percentile 0 = .ok (.iload_n 2, 1) := by decide +kernel
theorem dX10_percentile_1 : decode cX10_percentile 1 = .ok (.iconst 1, 1) := by decide +kernel
theorem dX10_percentile_2 : decode cX10_percentile 2 = .ok (.sipush 1000, 3) := by decide +kernel
theorem dX10_percentile_5 : decode cX10_percentile 5 = .ok (.invokestatic 69, 3) := by decide +kernel
theorem dX10_percentile_8 : decode cX10_percentile 8 = .ok (.ifCond .eq 19, 3) := by decide +kernel
theorem dX10_percentile_11 : decode cX10_percentile 11 = .ok (.iload_n 1, 1) := by decide +kernel
theorem dX10_percentile_12 : decode cX10_percentile 12 = .ok (.iconst 0, 1) := by decide +kernel
theorem dX10_percentile_13 : decode cX10_percentile 13 = .ok (.iload_n 2, 1) := by decide +kernel
theorem dX10_percentile_14 : decode cX10_percentile 14 = .ok (.invokestatic 69, 3) := by decide +kernel
theorem dX10_percentile_17 : decode cX10_percentile 17 = .ok (.ifCond .eq 10, 3) := by decide +kernel
theorem dX10_percentile_20 : decode cX10_percentile 20 = .ok (.iload_n 3, 1) := by decide +kernel
theorem dX10_percentile_21 : decode cX10_percentile 21 = .ok (.invokestatic 85, 3) := by decide +kernel
theorem dX10_percentile_24 : decode cX10_percentile 24 = .ok (.ifCond .ne 7, 3) := by decide +kernel
theorem dX10_percentile_27 : decode cX10_percentile 27 = .ok (.ldc2_w 75, 3) := by decide +kernel
theorem dX10_percentile_30 : decode cX10_percentile 30 = .ok (.lreturn, 1) := by decide +kernel
theorem dX10_percentile_31 : decode cX10_percentile 31 = .ok (.aload_n 0, 1) := by decide +kernel
theorem dX10_percentile_32 : decode cX10_percentile 32 = .ok (.getfield 40, 3) := by decide +kernel
theorem dX10_percentile_35 : decode cX10_percentile 35 = .ok (.invokevirtual 159, 3) := by decide +kernel
theorem dX10_percentile_38 : decode cX10_percentile 38 = .ok (.ifCond .ne 7, 3) := by decide +kernel
theorem dX10_percentile_41 : decode cX10_percentile 41 = .ok (.ldc2_w 168, 3) := by decide +kernel
theorem dX10_percentile_44 : decode cX10_percentile 44 = .ok (.lreturn, 1) := by decide +kernel
theorem dX10_percentile_45 : decode cX10_percentile 45 = .ok (.aload_n 0, 1) := by decide +kernel
theorem dX10_percentile_46 : decode cX10_percentile 46 = .ok (.getfield 40, 3) := by decide +kernel
theorem dX10_percentile_49 : decode cX10_percentile 49 = .ok (.invokevirtual 159, 3) := by decide +kernel
theorem dX10_percentile_52 : decode cX10_percentile 52 = .ok (.iload_n 1, 1) := by decide +kernel
theorem dX10_percentile_53 : decode cX10_percentile 53 = .ok (.imul, 1) := by decide +kernel
theorem dX10_percentile_54 : decode cX10_percentile 54 = .ok (.iload_n 2, 1) := by decide +kernel
theorem dX10_percentile_55 : decode cX10_percentile 55 = .ok (.iadd, 1) := by decide +kernel
theorem dX10_percentile_56 : decode cX10_percentile 56 = .ok (.iconst 1, 1) := by decide +kernel
theorem dX10_percentile_57 : decode cX10_percentile 57 = .ok (.isub, 1) := by decide +kernel
theorem dX10_percentile_58 : decode cX10_percentile 58 = .ok (.iload_n 2, 1) := by decide +kernel
theorem dX10_percentile_59 : decode cX10_percentile 59 = .ok (.idiv, 1) := by decide +kernel
theorem dX10_percentile_60 : decode cX10_percentile 60 = .ok (.istore 4, 2) := by decide +kernel
theorem dX10_percentile_62 : decode cX10_percentile 62 = .ok (.aload_n 0, 1) := by decide +kernel
theorem dX10_percentile_63 : decode cX10_percentile 63 = .ok (.getfield 40, 3) := by decide +kernel
theorem dX10_percentile_66 : decode cX10_percentile 66 = .ok (.iload 4, 2) := by decide +kernel
theorem dX10_percentile_68 : decode cX10_percentile 68 = .ok (.iconst 1, 1) := by decide +kernel
theorem dX10_percentile_69 : decode cX10_percentile 69 = .ok (.isub, 1) := by decide +kernel
theorem dX10_percentile_70 : decode cX10_percentile 70 = .ok (.iconst 0, 1) := by decide +kernel
theorem dX10_percentile_71 : decode cX10_percentile 71 = .ok (.invokestatic 170, 3) := by decide +kernel
theorem dX10_percentile_74 : decode cX10_percentile 74 = .ok (.iload_n 3, 1) := by decide +kernel
theorem dX10_percentile_75 : decode cX10_percentile 75 = .ok (.invokevirtual 165, 3) := by decide +kernel
theorem dX10_percentile_78 : decode cX10_percentile 78 = .ok (.lreturn, 1) := by decide +kernel
set_option maxRecDepth 20000 in
theorem ggX10_share_X2_size : GoodIn wsX10_share wsX2_size := goodIn_r _ [8, 9, 23, 24, 25, 26] (by decide +kernel) (by decide +kernel)
set_option maxRecDepth 20000 in
theorem gX10_share_X2_size : GoodIn wsX10_share (wsV RX10 159 RX2 yX2_size wsX2_size) := goodIn_app (goodIn_of _ (by decide +kernel)) ggX10_share_X2_size
set_option maxRecDepth 20000 in
theorem ggX10_share_X2_aboveZero : GoodIn wsX10_share wsX2_aboveZero := goodIn_r _ [13, 9, 14, 23, 24, 25, 26] (by decide +kernel) (by decide +kernel)
set_option maxRecDepth 20000 in
theorem gX10_share_X2_aboveZero : GoodIn wsX10_share (wsV RX10 181 RX2 yX2_aboveZero wsX2_aboveZero) := goodIn_app (goodIn_of _ (by decide +kernel)) ggX10_share_X2_aboveZero
theorem dX10_share_0 : decode cX10_share 0 = .ok (.aload_n 0, 1) := by decide +kernel
theorem dX10_share_1 : decode cX10_share 1 = .ok (.getfield 40, 3) := by decide +kernel
theorem dX10_share_4 : decode cX10_share 4 = .ok (.invokevirtual 159, 3) := by decide +kernel
theorem dX10_share_7 : decode cX10_share 7 = .ok (.istore_n 1, 1) := by decide +kernel
theorem dX10_share_8 : decode cX10_share 8 = .ok (.iload_n 1, 1) := by decide +kernel
theorem dX10_share_9 : decode cX10_share 9 = .ok (.ifCond .ne 13, 3) := by decide +kernel
theorem dX10_share_12 : decode cX10_share 12 = .ok (.new 176, 3) := by decide +kernel
theorem dX10_share_15 : decode cX10_share 15 = .ok (.dup, 1) := by decide +kernel
theorem dX10_share_16 : decode cX10_share 16 = .ok (.ldc 178, 2) := by decide +kernel
theorem dX10_share_18 : decode cX10_share 18 = .ok (.invokespecial 180, 3) := by decide +kernel
theorem dX10_share_21 : decode cX10_share 21 = .ok (.athrow, 1) := by decide +kernel
theorem dX10_share_22 : decode cX10_share 22 = .ok (.sipush 1000, 3) := by decide +kernel
theorem dX10_share_25 : decode cX10_share 25 = .ok (.aload_n 0, 1) := by decide +kernel
theorem dX10_share_26 : decode cX10_share 26 = .ok (.getfield 40, 3) := by decide +kernel
theorem dX10_share_29 : decode cX10_share 29 = .ok (.invokevirtual 181, 3) := by decide +kernel
theorem dX10_share_32 : decode cX10_share 32 = .ok (.imul, 1) := by decide +kernel
theorem dX10_share_33 : decode cX10_share 33 = .ok (.iload_n 1, 1) := by decide +kernel
theorem dX10_share_34 : decode cX10_share 34 = .ok (.idiv, 1) := by decide +kernel
theorem dX10_share_35 : decode cX10_share 35 = .ok (.ireturn, 1) := by decide +kernel
set_option maxRecDepth 20000 in
theorem ggX10_compare_X3_within : GoodIn wsX10_compare wsX3_within := goodIn_r _ [6] (by decide +kernel) (by decide +kernel)
set_option maxRecDepth 20000 in
theorem gX10_compare_X3_within : GoodIn wsX10_compare (va_wsS RX10 69 yX3_within wsX3_within) := goodIn_app (goodIn_of _ (by decide +kernel)) ggX10_compare_X3_within
set_option maxRecDepth 20000 in
theorem ggX10_compare_X0_isFull : GoodIn wsX10_compare wsX0_isFull := goodIn_r _ [11, 12, 32, 33, 34] (by decide +kernel) (by decide +kernel)
set_option maxRecDepth 20000 in
theorem gX10_compare_X0_isFull : GoodIn wsX10_compare (wsV RX10 185 RX0 yX0_isFull wsX0_isFull) := goodIn_app (goodIn_of _ (by decide +kernel)) ggX10_compare_X0_isFull
set_option maxRecDepth 20000 in
theorem ggX10_compare_X0_add : GoodIn wsX10_compare wsX0_add := goodIn_r _ [16, 17, 12, 18, 19, 8, 9, 10, 11, 32, 33, 34] (by decide +kernel) (by decide +kernel)
set_option maxRecDepth 20000 in
theorem gX10_compare_X0_add : GoodIn wsX10_compare (wsV RX10 186 RX0 yX0_add wsX0_add) := goodIn_app (goodIn_of _ (by decide +kernel)) ggX10_compare_X0_add
set_option maxRecDepth 20000 in
theorem ggX10_compare_X0_size : GoodIn wsX10_compare wsX0_size := goodIn_r _ [23, 12, 32, 33, 34] (by decide +kernel) (by decide +kernel)
set_option maxRecDepth 20000 in
theorem gX10_compare_X0_size : GoodIn wsX10_compare (wsV RX10 188 RX0 yX0_size wsX0_size) := goodIn_app (goodIn_of _ (by decide +kernel)) ggX10_compare_X0_size
theorem dX10_compare_0 : decode cX10_compare 0 = .ok (.iload_n 2, 1) := by decide +kernel
theorem dX10_compare_1 : decode cX10_compare 1 = .ok (.iconst 1, 1) := by decide +kernel
theorem dX10_compare_2 : decode cX10_compare 2 = .ok (.ldc 184, 2) := by decide +kernel
theorem dX10_compare_4 : decode cX10_compare 4 = .ok (.invokestatic 69, 3) := by decide +kernel
theorem dX10_compare_7 : decode cX10_compare 7 = .ok (.ifCond .eq 12, 3) := by decide +kernel
theorem dX10_compare_10 : decode cX10_compare 10 = .ok (.iload_n 1, 1) := by decide +kernel
theorem dX10_compare_11 : decode cX10_compare 11 = .ok (.iconst 0, 1) := by decide +kernel
theorem dX10_compare_12 : decode cX10_compare 12 = .ok (.iload_n 2, 1) := by decide +kernel
theorem dX10_compare_13 : decode cX10_compare 13 = .ok (.invokestatic 69, 3) := by decide +kernel
theorem dX10_compare_16 : decode cX10_compare 16 = .ok (.ifCond .ne 5, 3) := by decide +kernel
theorem dX10_compare_19 : decode cX10_compare 19 = .ok (.iconst (-1), 1) := by decide +kernel
theorem dX10_compare_20 : decode cX10_compare 20 = .ok (.ireturn, 1) := by decide +kernel
theorem dX10_compare_21 : decode cX10_compare 21 = .ok (.aload_n 0, 1) := by decide +kernel
theorem dX10_compare_22 : decode cX10_compare 22 = .ok (.getfield 47, 3) := by decide +kernel
theorem dX10_compare_25 : decode cX10_compare 25 = .ok (.invokevirtual 185, 3) := by decide +kernel
theorem dX10_compare_28 : decode cX10_compare 28 = .ok (.ifCond .eq 6, 3) := by decide +kernel
theorem dX10_compare_31 : decode cX10_compare 31 = .ok (.bipush (-2), 2) := by decide +kernel
theorem dX10_compare_33 : decode cX10_compare 33 = .ok (.ireturn, 1) := by decide +kernel
theorem dX10_compare_34 : decode cX10_compare 34 = .ok (.aload_n 0, 1) := by decide +kernel
theorem dX10_compare_35 : decode cX10_compare 35 = .ok (.getfield 47, 3) := by decide +kernel
theorem dX10_compare_38 : decode cX10_compare 38 = .ok (.iload_n 1, 1) := by decide +kernel
theorem dX10_compare_39 : decode cX10_compare 39 = .ok (.iload_n 2, 1) := by decide +kernel
theorem dX10_compare_40 : decode cX10_compare 40 = .ok (.invokevirtual 186, 3) := by decide +kernel
theorem dX10_compare_43 : decode cX10_compare 43 = .ok (.aload_n 0, 1) := by decide +kernel
theorem dX10_compare_44 : decode cX10_compare 44 = .ok (.getfield 47, 3) := by decide +kernel
theorem dX10_compare_47 : decode cX10_compare 47 = .ok (.invokevirtual 188, 3) := by decide +kernel
theorem dX10_compare_50 : decode cX10_compare 50 = .ok (.iconst 1, 1) := by decide +kernel
theorem dX10_compare_51 : decode cX10_compare 51 = .ok (.isub, 1) := by decide +kernel
theorem dX10_compare_52 : decode cX10_compare 52 = .ok (.ireturn, 1) := by decide +kernel
set_option maxRecDepth 20000 in
theorem ggX10_raised_X3_within : GoodIn wsX10_raised wsX3_within := goodIn_r _ [8] (by decide +kernel) (by decide +kernel)
set_option maxRecDepth 20000 in
theorem gX10_raised_X3_within : GoodIn wsX10_raised (va_wsS RX10 69 yX3_within wsX3_within) := goodIn_app (goodIn_of _ (by decide +kernel)) ggX10_raised_X3_within
set_option maxRecDepth 20000 in
theorem ggX10_raised_X10_isSide : GoodIn wsX10_raised wsX10_isSide := goodIn_r _ [12] (by decide +kernel) (by decide +kernel)
set_option maxRecDepth 20000 in
theorem gX10_raised_X10_isSide : GoodIn wsX10_raised (va_wsS RX10 85 yX10_isSide wsX10_isSide) := goodIn_app (goodIn_of _ (by decide +kernel)) ggX10_raised_X10_isSide
set_option maxRecDepth 20000 in
theorem ggX10_raised_X0_size : GoodIn wsX10_raised wsX0_size := goodIn_r _ [17, 18, 80, 81, 82] (by decide +kernel) (by decide +kernel)
set_option maxRecDepth 20000 in
theorem gX10_raised_X0_size : GoodIn wsX10_raised (wsV RX10 188 RX0 yX0_size wsX0_size) := goodIn_app (goodIn_of _ (by decide +kernel)) ggX10_raised_X0_size
set_option maxRecDepth 20000 in
theorem ggX10_raised_X0_raise : GoodIn wsX10_raised wsX0_raise := goodIn_r _ [22, 18, 23, 24, 25, 26, 27, 28, 29, 30, 31, 32, 33, 34, 35, 36, 37, 7, 38, 39, 40, 41, 16, 42, 43, 44, 45, 46, 47, 48, 49, 50, 51, 52, 53, 54, 55, 56, 57, 58, 59, 60, 61, 62, 80, 81, 82, 83, 84] (by decide +kernel) (by decide +kernel)
set_option maxRecDepth 20000 in
theorem gX10_raised_X0_raise : GoodIn wsX10_raised (wsV RX10 189 RX0 yX0_raise wsX0_raise) := goodIn_app (goodIn_of _ (by decide +kernel)) ggX10_raised_X0_raise
set_option maxRecDepth 20000 in
theorem ggX10_raised_X4_capAtOne : GoodIn wsX10_raised wsX4_capAtOne := goodIn_r _ [66, 34, 35, 67, 26, 27, 28, 29, 30, 31, 32, 33, 36, 37, 7, 38, 83, 84] (by decide +kernel) (by decide +kernel)
set_option maxRecDepth 20000 in
theorem gX10_raised_X4_capAtOne : GoodIn wsX10_raised (wsV RX10 193 RX4 yX4_capAtOne wsX4_capAtOne) := goodIn_app (goodIn_of _ (by decide +kernel)) ggX10_raised_X4_capAtOne
end
section
set_option maxRecDepth 20000 in
theorem ggX10_raised_X4_told : GoodIn wsX10_raised wsX4_told := goodIn_r _ [71, 34, 35, 83, 84] (by decide +kernel) (by decide +kernel)
set_option maxRecDepth 20000 in
theorem gX10_raised_X4_told : GoodIn wsX10_raised (wsV RX10 150 RX4 yX4_told wsX4_told) := goodIn_app (goodIn_of _ (by decide +kernel)) ggX10_raised_X4_told
theorem dX10_raised_0 : decode cX10_raised 0 = .ok (.iload_n 1, 1) := by decide +kernel
theorem dX10_raised_1 : decode cX10_raised 1 = .ok (.iconst 0, 1) := by decide +kernel
theorem dX10_raised_2 : decode cX10_raised 2 = .ok (.iconst 2, 1) := by decide +kernel
theorem dX10_raised_3 : decode cX10_raised 3 = .ok (.invokestatic 69, 3) := by decide +kernel
theorem dX10_raised_6 : decode cX10_raised 6 = .ok (.ifCond .eq 10, 3) := by decide +kernel
theorem dX10_raised_9 : decode cX10_raised 9 = .ok (.iload_n 3, 1) := by decide +kernel
theorem dX10_raised_10 : decode cX10_raised 10 = .ok (.invokestatic 85, 3) := by decide +kernel
theorem dX10_raised_13 : decode cX10_raised 13 = .ok (.ifCond .ne 7, 3) := by decide +kernel
theorem dX10_raised_16 : decode cX10_raised 16 = .ok (.ldc2_w 75, 3) := by decide +kernel
theorem dX10_raised_19 : decode cX10_raised 19 = .ok (.lreturn, 1) := by decide +kernel
theorem dX10_raised_20 : decode cX10_raised 20 = .ok (.iload_n 2, 1) := by decide +kernel
theorem dX10_raised_21 : decode cX10_raised 21 = .ok (.ifCond .lt 14, 3) := by decide +kernel
theorem dX10_raised_24 : decode cX10_raised 24 = .ok (.iload_n 2, 1) := by decide +kernel
theorem dX10_raised_25 : decode cX10_raised 25 = .ok (.aload_n 0, 1) := by decide +kernel
theorem dX10_raised_26 : decode cX10_raised 26 = .ok (.getfield 47, 3) := by decide +kernel
theorem dX10_raised_29 : decode cX10_raised 29 = .ok (.invokevirtual 188, 3) := by decide +kernel
theorem dX10_raised_32 : decode cX10_raised 32 = .ok (.if_icmp .lt 7, 3) := by decide +kernel
theorem dX10_raised_35 : decode cX10_raised 35 = .ok (.ldc2_w 168, 3) := by decide +kernel
theorem dX10_raised_38 : decode cX10_raised 38 = .ok (.lreturn, 1) := by decide +kernel
theorem dX10_raised_39 : decode cX10_raised 39 = .ok (.aload_n 0, 1) := by decide +kernel
theorem dX10_raised_40 : decode cX10_raised 40 = .ok (.getfield 47, 3) := by decide +kernel
theorem dX10_raised_43 : decode cX10_raised 43 = .ok (.iload_n 1, 1) := by decide +kernel
theorem dX10_raised_44 : decode cX10_raised 44 = .ok (.iload_n 2, 1) := by decide +kernel
theorem dX10_raised_45 : decode cX10_raised 45 = .ok (.aload_n 0, 1) := by decide +kernel
theorem dX10_raised_46 : decode cX10_raised 46 = .ok (.getfield 61, 3) := by decide +kernel
theorem dX10_raised_49 : decode cX10_raised 49 = .ok (.invokevirtual 189, 3) := by decide +kernel
theorem dX10_raised_52 : decode cX10_raised 52 = .ok (.aload_n 0, 1) := by decide +kernel
theorem dX10_raised_53 : decode cX10_raised 53 = .ok (.getfield 61, 3) := by decide +kernel
theorem dX10_raised_56 : decode cX10_raised 56 = .ok (.invokevirtual 193, 3) := by decide +kernel
theorem dX10_raised_59 : decode cX10_raised 59 = .ok (.aload_n 0, 1) := by decide +kernel
theorem dX10_raised_60 : decode cX10_raised 60 = .ok (.getfield 61, 3) := by decide +kernel
theorem dX10_raised_63 : decode cX10_raised 63 = .ok (.iload_n 3, 1) := by decide +kernel
theorem dX10_raised_64 : decode cX10_raised 64 = .ok (.invokevirtual 150, 3) := by decide +kernel
theorem dX10_raised_67 : decode cX10_raised 67 = .ok (.lreturn, 1) := by decide +kernel
set_option maxRecDepth 20000 in
theorem ggX10_forget_X0_size : GoodIn wsX10_forget wsX0_size := goodIn_r _ [6, 7, 20, 21, 22] (by decide +kernel) (by decide +kernel)
set_option maxRecDepth 20000 in
theorem gX10_forget_X0_size : GoodIn wsX10_forget (wsV RX10 188 RX0 yX0_size wsX0_size) := goodIn_app (goodIn_of _ (by decide +kernel)) ggX10_forget_X0_size
set_option maxRecDepth 20000 in
theorem ggX10_forget_X0_empty : GoodIn wsX10_forget wsX0_empty := goodIn_r _ [11, 7, 20, 21, 22] (by decide +kernel) (by decide +kernel)
set_option maxRecDepth 20000 in
theorem gX10_forget_X0_empty : GoodIn wsX10_forget (wsV RX10 196 RX0 yX0_empty wsX0_empty) := goodIn_app (goodIn_of _ (by decide +kernel)) ggX10_forget_X0_empty
theorem dX10_forget_0 : decode cX10_forget 0 = .ok (.aload_n 0, 1) := by decide +kernel
theorem dX10_forget_1 : decode cX10_forget 1 = .ok (.getfield 47, 3) := by decide +kernel
theorem dX10_forget_4 : decode cX10_forget 4 = .ok (.invokevirtual 188, 3) := by decide +kernel
theorem dX10_forget_7 : decode cX10_forget 7 = .ok (.istore_n 1, 1) := by decide +kernel
theorem dX10_forget_8 : decode cX10_forget 8 = .ok (.aload_n 0, 1) := by decide +kernel
theorem dX10_forget_9 : decode cX10_forget 9 = .ok (.getfield 47, 3) := by decide +kernel
theorem dX10_forget_12 : decode cX10_forget 12 = .ok (.invokevirtual 196, 3) := by decide +kernel
theorem dX10_forget_15 : decode cX10_forget 15 = .ok (.iload_n 1, 1) := by decide +kernel
theorem dX10_forget_16 : decode cX10_forget 16 = .ok (.ireturn, 1) := by decide +kernel
set_option maxRecDepth 20000 in
theorem ggX10_begin_X3_within : GoodIn wsX10_begin wsX3_within := goodIn_r _ [7] (by decide +kernel) (by decide +kernel)
set_option maxRecDepth 20000 in
theorem gX10_begin_X3_within : GoodIn wsX10_begin (va_wsS RX10 69 yX3_within wsX3_within) := goodIn_app (goodIn_of _ (by decide +kernel)) ggX10_begin_X3_within
set_option maxRecDepth 20000 in
theorem ggX10_begin_X10_isTrust : GoodIn wsX10_begin wsX10_isTrust := goodIn_r _ [11, 4, 5, 6, 7] (by decide +kernel) (by decide +kernel)
set_option maxRecDepth 20000 in
theorem gX10_begin_X10_isTrust : GoodIn wsX10_begin (va_wsS RX10 89 yX10_isTrust wsX10_isTrust) := goodIn_app (goodIn_of _ (by decide +kernel)) ggX10_begin_X10_isTrust
set_option maxRecDepth 20000 in
theorem ggX10_begin_X6_start : GoodIn wsX10_begin wsX6_start := goodIn_r _ [16, 17, 18, 19, 20, 21, 22, 23, 24, 33, 34, 35, 36, 37, 38, 39, 40, 41, 42] (by decide +kernel) (by decide +kernel)
set_option maxRecDepth 20000 in
theorem gX10_begin_X6_start : GoodIn wsX10_begin (wsV RX10 199 RX6 yX6_start wsX6_start) := goodIn_app (goodIn_of _ (by decide +kernel)) ggX10_begin_X6_start
theorem dX10_begin_0 : decode cX10_begin 0 = .ok (.iload_n 2, 1) := by decide +kernel
theorem dX10_begin_1 : decode cX10_begin 1 = .ok (.iconst 2, 1) := by decide +kernel
theorem dX10_begin_2 : decode cX10_begin 2 = .ok (.bipush 100, 2) := by decide +kernel
theorem dX10_begin_4 : decode cX10_begin 4 = .ok (.invokestatic 69, 3) := by decide +kernel
theorem dX10_begin_7 : decode cX10_begin 7 = .ok (.ifCond .eq 14, 3) := by decide +kernel
theorem dX10_begin_10 : decode cX10_begin 10 = .ok (.iload_n 1, 1) := by decide +kernel
theorem dX10_begin_11 : decode cX10_begin 11 = .ok (.iconst 1, 1) := by decide +kernel
theorem dX10_begin_12 : decode cX10_begin 12 = .ok (.iload_n 2, 1) := by decide +kernel
theorem dX10_begin_13 : decode cX10_begin 13 = .ok (.iconst 1, 1) := by decide +kernel
theorem dX10_begin_14 : decode cX10_begin 14 = .ok (.isub, 1) := by decide +kernel
theorem dX10_begin_15 : decode cX10_begin 15 = .ok (.invokestatic 69, 3) := by decide +kernel
theorem dX10_begin_18 : decode cX10_begin 18 = .ok (.ifCond .ne 5, 3) := by decide +kernel
theorem dX10_begin_21 : decode cX10_begin 21 = .ok (.iconst (-1), 1) := by decide +kernel
theorem dX10_begin_22 : decode cX10_begin 22 = .ok (.ireturn, 1) := by decide +kernel
theorem dX10_begin_23 : decode cX10_begin 23 = .ok (.iload_n 3, 1) := by decide +kernel
theorem dX10_begin_24 : decode cX10_begin 24 = .ok (.iload 4, 2) := by decide +kernel
theorem dX10_begin_26 : decode cX10_begin 26 = .ok (.invokestatic 89, 3) := by decide +kernel
theorem dX10_begin_29 : decode cX10_begin 29 = .ok (.ifCond .ne 13, 3) := by decide +kernel
theorem dX10_begin_32 : decode cX10_begin 32 = .ok (.new 93, 3) := by decide +kernel
theorem dX10_begin_35 : decode cX10_begin 35 = .ok (.dup, 1) := by decide +kernel
theorem dX10_begin_36 : decode cX10_begin 36 = .ok (.ldc 95, 2) := by decide +kernel
theorem dX10_begin_38 : decode cX10_begin 38 = .ok (.invokespecial 97, 3) := by decide +kernel
theorem dX10_begin_41 : decode cX10_begin 41 = .ok (.athrow, 1) := by decide +kernel
theorem dX10_begin_42 : decode cX10_begin 42 = .ok (.aload_n 0, 1) := by decide +kernel
theorem dX10_begin_43 : decode cX10_begin 43 = .ok (.getfield 54, 3) := by decide +kernel
theorem dX10_begin_46 : decode cX10_begin 46 = .ok (.iload_n 1, 1) := by decide +kernel
theorem dX10_begin_47 : decode cX10_begin 47 = .ok (.iload_n 2, 1) := by decide +kernel
theorem dX10_begin_48 : decode cX10_begin 48 = .ok (.iload_n 3, 1) := by decide +kernel
theorem dX10_begin_49 : decode cX10_begin 49 = .ok (.iload 4, 2) := by decide +kernel
theorem dX10_begin_51 : decode cX10_begin 51 = .ok (.invokevirtual 199, 3) := by decide +kernel
theorem dX10_begin_54 : decode cX10_begin 54 = .ok (.iconst 1, 1) := by decide +kernel
theorem dX10_begin_55 : decode cX10_begin 55 = .ok (.ireturn, 1) := by decide +kernel
set_option maxRecDepth 20000 in
theorem ggX10_hit_X6_isOn : GoodIn wsX10_hit wsX6_isOn := goodIn_r _ [6, 7, 67, 68, 69, 70, 71, 72, 73, 74, 75, 76] (by decide +kernel) (by decide +kernel)
set_option maxRecDepth 20000 in
theorem gX10_hit_X6_isOn : GoodIn wsX10_hit (wsV RX10 203 RX6 yX6_isOn wsX6_isOn) := goodIn_app (goodIn_of _ (by decide +kernel)) ggX10_hit_X6_isOn
set_option maxRecDepth 20000 in
theorem ggX10_hit_X6_isFull : GoodIn wsX10_hit wsX6_isFull := goodIn_r _ [11, 12, 67, 68, 69, 70, 71, 72, 73, 74, 75, 76] (by decide +kernel) (by decide +kernel)
set_option maxRecDepth 20000 in
theorem gX10_hit_X6_isFull : GoodIn wsX10_hit (wsV RX10 206 RX6 yX6_isFull wsX6_isFull) := goodIn_app (goodIn_of _ (by decide +kernel)) ggX10_hit_X6_isFull
set_option maxRecDepth 20000 in
theorem ggX10_hit_X6_take : GoodIn wsX10_hit wsX6_take := goodIn_r _ [16, 12, 17, 18, 19, 9, 10, 5, 11, 20, 21, 22, 23, 24, 25, 26, 27, 28, 29, 30, 31, 32, 33, 34, 35, 36, 37, 38, 39, 40, 41, 42, 43, 44, 45, 46, 47, 48, 49, 50, 51, 52, 53, 54, 67, 68, 69, 70, 71, 72, 73, 74, 75, 76, 77, 78] (by decide +kernel) (by decide +kernel)
set_option maxRecDepth 20000 in
theorem gX10_hit_X6_take : GoodIn wsX10_hit (wsV RX10 207 RX6 yX6_take wsX6_take) := goodIn_app (goodIn_of _ (by decide +kernel)) ggX10_hit_X6_take
set_option maxRecDepth 20000 in
theorem ggX10_hit_X6_rejectedBehind : GoodIn wsX10_hit wsX6_rejectedBehind := goodIn_r _ [58, 18, 67, 68, 69, 70, 71, 72, 73, 74, 75, 76] (by decide +kernel) (by decide +kernel)
set_option maxRecDepth 20000 in
theorem gX10_hit_X6_rejectedBehind : GoodIn wsX10_hit (wsV RX10 210 RX6 yX6_rejectedBehind wsX6_rejectedBehind) := goodIn_app (goodIn_of _ (by decide +kernel)) ggX10_hit_X6_rejectedBehind
theorem dX10_hit_0 : decode cX10_hit 0 = .ok (.aload_n 0, 1) := by decide +kernel
theorem dX10_hit_1 : decode cX10_hit 1 = .ok (.getfield 54, 3) := by decide +kernel
theorem dX10_hit_4 : decode cX10_hit 4 = .ok (.invokevirtual 203, 3) := by decide +kernel
theorem dX10_hit_7 : decode cX10_hit 7 = .ok (.ifCond .ne 6, 3) := by decide +kernel
theorem dX10_hit_10 : decode cX10_hit 10 = .ok (.bipush (-3), 2) := by decide +kernel
theorem dX10_hit_12 : decode cX10_hit 12 = .ok (.ireturn, 1) := by decide +kernel
theorem dX10_hit_13 : decode cX10_hit 13 = .ok (.aload_n 0, 1) := by decide +kernel
theorem dX10_hit_14 : decode cX10_hit 14 = .ok (.getfield 54, 3) := by decide +kernel
theorem dX10_hit_17 : decode cX10_hit 17 = .ok (.invokevirtual 206, 3) := by decide +kernel
theorem dX10_hit_20 : decode cX10_hit 20 = .ok (.ifCond .eq 6, 3) := by decide +kernel
theorem dX10_hit_23 : decode cX10_hit 23 = .ok (.bipush (-2), 2) := by decide +kernel
theorem dX10_hit_25 : decode cX10_hit 25 = .ok (.ireturn, 1) := by decide +kernel
theorem dX10_hit_26 : decode cX10_hit 26 = .ok (.aload_n 0, 1) := by decide +kernel
theorem dX10_hit_27 : decode cX10_hit 27 = .ok (.getfield 54, 3) := by decide +kernel
theorem dX10_hit_30 : decode cX10_hit 30 = .ok (.iload_n 1, 1) := by decide +kernel
theorem dX10_hit_31 : decode cX10_hit 31 = .ok (.invokevirtual 207, 3) := by decide +kernel
theorem dX10_hit_34 : decode cX10_hit 34 = .ok (.aload_n 0, 1) := by decide +kernel
theorem dX10_hit_35 : decode cX10_hit 35 = .ok (.getfield 54, 3) := by decide +kernel
theorem dX10_hit_38 : decode cX10_hit 38 = .ok (.invokevirtual 210, 3) := by decide +kernel
theorem dX10_hit_41 : decode cX10_hit 41 = .ok (.ifCond .le 7, 3) := by decide +kernel
theorem dX10_hit_44 : decode cX10_hit 44 = .ok (.iconst 1, 1) := by decide +kernel
theorem dX10_hit_45 : decode cX10_hit 45 = .ok (.goto 4, 3) := by decide +kernel
theorem dX10_hit_48 : decode cX10_hit 48 = .ok (.iconst 0, 1) := by decide +kernel
theorem dX10_hit_49 : decode cX10_hit 49 = .ok (.ireturn, 1) := by decide +kernel
set_option maxRecDepth 20000 in
theorem ggX10_test_X6_isOn : GoodIn wsX10_test wsX6_isOn := goodIn_r _ [6, 7, 66, 67, 68, 69, 70, 71, 72, 73, 74, 75] (by decide +kernel) (by decide +kernel)
set_option maxRecDepth 20000 in
theorem gX10_test_X6_isOn : GoodIn wsX10_test (wsV RX10 203 RX6 yX6_isOn wsX6_isOn) := goodIn_app (goodIn_of _ (by decide +kernel)) ggX10_test_X6_isOn
set_option maxRecDepth 20000 in
theorem ggX10_test_X6_tries : GoodIn wsX10_test wsX6_tries := goodIn_r _ [11, 12, 66, 67, 68, 69, 70, 71, 72, 73, 74, 75] (by decide +kernel) (by decide +kernel)
set_option maxRecDepth 20000 in
theorem gX10_test_X6_tries : GoodIn wsX10_test (wsV RX10 213 RX6 yX6_tries wsX6_tries) := goodIn_app (goodIn_of _ (by decide +kernel)) ggX10_test_X6_tries
set_option maxRecDepth 20000 in
theorem ggX10_test_X6_hits : GoodIn wsX10_test wsX6_hits := goodIn_r _ [16, 17, 66, 67, 68, 69, 70, 71, 72, 73, 74, 75] (by decide +kernel) (by decide +kernel)
set_option maxRecDepth 20000 in
theorem gX10_test_X6_hits : GoodIn wsX10_test (wsV RX10 216 RX6 yX6_hits wsX6_hits) := goodIn_app (goodIn_of _ (by decide +kernel)) ggX10_test_X6_hits
set_option maxRecDepth 20000 in
theorem ggX10_test_X6_rejectedBehind : GoodIn wsX10_test wsX6_rejectedBehind := goodIn_r _ [21, 22, 66, 67, 68, 69, 70, 71, 72, 73, 74, 75] (by decide +kernel) (by decide +kernel)
set_option maxRecDepth 20000 in
theorem gX10_test_X6_rejectedBehind : GoodIn wsX10_test (wsV RX10 210 RX6 yX6_rejectedBehind wsX6_rejectedBehind) := goodIn_app (goodIn_of _ (by decide +kernel)) ggX10_test_X6_rejectedBehind
set_option maxRecDepth 20000 in
theorem ggX10_test_X6_isRich : GoodIn wsX10_test wsX6_isRich := goodIn_r _ [26, 27, 28, 29, 12, 30, 17, 31, 32, 33, 34, 35, 36, 37, 38, 39, 40, 41, 42, 43, 44, 45, 46, 47, 48, 49, 50, 51, 52, 53, 54, 55, 56, 57, 66, 67, 68, 69, 70, 71, 72, 73, 74, 75, 76, 77] (by decide +kernel) (by decide +kernel)
set_option maxRecDepth 20000 in
theorem gX10_test_X6_isRich : GoodIn wsX10_test (wsV RX10 218 RX6 yX6_isRich wsX6_isRich) := goodIn_app (goodIn_of _ (by decide +kernel)) ggX10_test_X6_isRich
theorem dX10_test_0 : decode cX10_test 0 = .ok (.aload_n 0, 1) := by decide +kernel
theorem dX10_test_1 : decode cX10_test 1 = .ok (.getfield 54, 3) := by decide +kernel
theorem dX10_test_4 : decode cX10_test 4 = .ok (.invokevirtual 203, 3) := by decide +kernel
theorem dX10_test_7 : decode cX10_test 7 = .ok (.ifCond .ne 6, 3) := by decide +kernel
theorem dX10_test_10 : decode cX10_test 10 = .ok (.bipush (-3), 2) := by decide +kernel
theorem dX10_test_12 : decode cX10_test 12 = .ok (.ireturn, 1) := by decide +kernel
theorem dX10_test_13 : decode cX10_test 13 = .ok (.iload_n 1, 1) := by decide +kernel
theorem dX10_test_14 : decode cX10_test 14 = .ok (.tableswitch 70 0 3 #[30, 38, 46, 54], 30) := by decide +kernel
theorem dX10_test_44 : decode cX10_test 44 = .ok (.aload_n 0, 1) := by decide +kernel
theorem dX10_test_45 : decode cX10_test 45 = .ok (.getfield 54, 3) := by decide +kernel
theorem dX10_test_48 : decode cX10_test 48 = .ok (.invokevirtual 213, 3) := by decide +kernel
theorem dX10_test_51 : decode cX10_test 51 = .ok (.ireturn, 1) := by decide +kernel
theorem dX10_test_52 : decode cX10_test 52 = .ok (.aload_n 0, 1) := by decide +kernel
theorem dX10_test_53 : decode cX10_test 53 = .ok (.getfield 54, 3) := by decide +kernel
theorem dX10_test_56 : decode cX10_test 56 = .ok (.invokevirtual 216, 3) := by decide +kernel
theorem dX10_test_59 : decode cX10_test 59 = .ok (.ireturn, 1) := by decide +kernel
theorem dX10_test_60 : decode cX10_test 60 = .ok (.aload_n 0, 1) := by decide +kernel
theorem dX10_test_61 : decode cX10_test 61 = .ok (.getfield 54, 3) := by decide +kernel
theorem dX10_test_64 : decode cX10_test 64 = .ok (.invokevirtual 210, 3) := by decide +kernel
theorem dX10_test_67 : decode cX10_test 67 = .ok (.ireturn, 1) := by decide +kernel
theorem dX10_test_68 : decode cX10_test 68 = .ok (.aload_n 0, 1) := by decide +kernel
theorem dX10_test_69 : decode cX10_test 69 = .ok (.getfield 54, 3) := by decide +kernel
theorem dX10_test_72 : decode cX10_test 72 = .ok (.invokevirtual 218, 3) := by decide +kernel
theorem dX10_test_75 : decode cX10_test 75 = .ok (.ifCond .eq 7, 3) := by decide +kernel
theorem dX10_test_78 : decode cX10_test 78 = .ok (.iconst 1, 1) := by decide +kernel
theorem dX10_test_79 : decode cX10_test 79 = .ok (.goto 4, 3) := by decide +kernel
theorem dX10_test_82 : decode cX10_test 82 = .ok (.iconst 0, 1) := by decide +kernel
theorem dX10_test_83 : decode cX10_test 83 = .ok (.ireturn, 1) := by decide +kernel
theorem dX10_test_84 : decode cX10_test 84 = .ok (.iconst (-1), 1) := by decide +kernel
theorem dX10_test_85 : decode cX10_test 85 = .ok (.ireturn, 1) := by decide +kernel
set_option maxRecDepth 20000 in
theorem ggX10_count_X5_size : GoodIn wsX10_count wsX5_size := goodIn_r _ [8, 9, 39, 40, 41, 42] (by decide +kernel) (by decide +kernel)
set_option maxRecDepth 20000 in
theorem gX10_count_X5_size : GoodIn wsX10_count (wsV RX10 115 RX5 yX5_size wsX5_size) := goodIn_app (goodIn_of _ (by decide +kernel)) ggX10_count_X5_size
set_option maxRecDepth 20000 in
theorem ggX10_count_X5_groupsWithRows : GoodIn wsX10_count wsX5_groupsWithRows := goodIn_r _ [13, 14, 15, 16, 7, 17, 9, 18, 39, 40, 41, 42] (by decide +kernel) (by decide +kernel)
set_option maxRecDepth 20000 in
theorem gX10_count_X5_groupsWithRows : GoodIn wsX10_count (wsV RX10 221 RX5 yX5_groupsWithRows wsX5_groupsWithRows) := goodIn_app (goodIn_of _ (by decide +kernel)) ggX10_count_X5_groupsWithRows
set_option maxRecDepth 20000 in
theorem ggX10_count_X2_size : GoodIn wsX10_count wsX2_size := goodIn_r _ [23, 24, 43, 44, 45, 46] (by decide +kernel) (by decide +kernel)
set_option maxRecDepth 20000 in
theorem gX10_count_X2_size : GoodIn wsX10_count (wsV RX10 159 RX2 yX2_size wsX2_size) := goodIn_app (goodIn_of _ (by decide +kernel)) ggX10_count_X2_size
set_option maxRecDepth 20000 in
theorem ggX10_count_X0_size : GoodIn wsX10_count wsX0_size := goodIn_r _ [29, 30, 47, 48, 49] (by decide +kernel) (by decide +kernel)
set_option maxRecDepth 20000 in
theorem gX10_count_X0_size : GoodIn wsX10_count (wsV RX10 188 RX0 yX0_size wsX0_size) := goodIn_app (goodIn_of _ (by decide +kernel)) ggX10_count_X0_size
theorem dX10_count_0 : decode cX10_count 0 = .ok (.iload_n 1, 1) := by decide +kernel
theorem dX10_count_1 : decode cX10_count 1 = .ok (.tableswitch 63 0 3 #[31, 39, 47, 55], 31) := by decide +kernel
theorem dX10_count_32 : decode cX10_count 32 = .ok (.aload_n 0, 1) := by decide +kernel
theorem dX10_count_33 : decode cX10_count 33 = .ok (.getfield 19, 3) := by decide +kernel
theorem dX10_count_36 : decode cX10_count 36 = .ok (.invokevirtual 115, 3) := by decide +kernel
theorem dX10_count_39 : decode cX10_count 39 = .ok (.ireturn, 1) := by decide +kernel
theorem dX10_count_40 : decode cX10_count 40 = .ok (.aload_n 0, 1) := by decide +kernel
theorem dX10_count_41 : decode cX10_count 41 = .ok (.getfield 19, 3) := by decide +kernel
theorem dX10_count_44 : decode cX10_count 44 = .ok (.invokevirtual 221, 3) := by decide +kernel
theorem dX10_count_47 : decode cX10_count 47 = .ok (.ireturn, 1) := by decide +kernel
theorem dX10_count_48 : decode cX10_count 48 = .ok (.aload_n 0, 1) := by decide +kernel
theorem dX10_count_49 : decode cX10_count 49 = .ok (.getfield 40, 3) := by decide +kernel
theorem dX10_count_52 : decode cX10_count 52 = .ok (.invokevirtual 159, 3) := by decide +kernel
theorem dX10_count_55 : decode cX10_count 55 = .ok (.ireturn, 1) := by decide +kernel
theorem dX10_count_56 : decode cX10_count 56 = .ok (.aload_n 0, 1) := by decide +kernel
theorem dX10_count_57 : decode cX10_count 57 = .ok (.getfield 47, 3) := by decide +kernel
theorem dX10_count_60 : decode cX10_count 60 = .ok (.invokevirtual 188, 3) := by decide +kernel
theorem dX10_count_63 : decode cX10_count 63 = .ok (.ireturn, 1) := by decide +kernel
theorem dX10_count_64 : decode cX10_count 64 = .ok (.iconst (-1), 1) := by decide +kernel
theorem dX10_count_65 : decode cX10_count 65 = .ok (.ireturn, 1) := by decide +kernel
set_option maxRecDepth 20000 in
theorem ggX10_clear_X5_size : GoodIn wsX10_clear wsX5_size := goodIn_r _ [9, 10, 41, 42, 43, 44] (by decide +kernel) (by decide +kernel)
set_option maxRecDepth 20000 in
theorem gX10_clear_X5_size : GoodIn wsX10_clear (wsV RX10 115 RX5 yX5_size wsX5_size) := goodIn_app (goodIn_of _ (by decide +kernel)) ggX10_clear_X5_size
set_option maxRecDepth 20000 in
theorem ggX10_clear_X5_empty : GoodIn wsX10_clear wsX5_empty := goodIn_r _ [14, 10, 41, 42, 43, 44] (by decide +kernel) (by decide +kernel)
set_option maxRecDepth 20000 in
theorem gX10_clear_X5_empty : GoodIn wsX10_clear (wsV RX10 224 RX5 yX5_empty wsX5_empty) := goodIn_app (goodIn_of _ (by decide +kernel)) ggX10_clear_X5_empty
set_option maxRecDepth 20000 in
theorem ggX10_clear_X2_empty : GoodIn wsX10_clear wsX2_empty := goodIn_r _ [19, 20, 45, 46, 47, 48] (by decide +kernel) (by decide +kernel)
set_option maxRecDepth 20000 in
theorem gX10_clear_X2_empty : GoodIn wsX10_clear (wsV RX10 225 RX2 yX2_empty wsX2_empty) := goodIn_app (goodIn_of _ (by decide +kernel)) ggX10_clear_X2_empty
set_option maxRecDepth 20000 in
theorem ggX10_clear_X0_empty : GoodIn wsX10_clear wsX0_empty := goodIn_r _ [25, 26, 49, 50, 51] (by decide +kernel) (by decide +kernel)
set_option maxRecDepth 20000 in
theorem gX10_clear_X0_empty : GoodIn wsX10_clear (wsV RX10 196 RX0 yX0_empty wsX0_empty) := goodIn_app (goodIn_of _ (by decide +kernel)) ggX10_clear_X0_empty
set_option maxRecDepth 20000 in
theorem ggX10_clear_X6_stop : GoodIn wsX10_clear wsX6_stop := goodIn_r _ [31, 32, 52, 53, 54, 55, 56, 57, 58, 59, 60, 61] (by decide +kernel) (by decide +kernel)
set_option maxRecDepth 20000 in
theorem gX10_clear_X6_stop : GoodIn wsX10_clear (wsV RX10 226 RX6 yX6_stop wsX6_stop) := goodIn_app (goodIn_of _ (by decide +kernel)) ggX10_clear_X6_stop
theorem dX10_clear_0 : decode cX10_clear 0 = .ok (.aload_n 0, 1) := by decide +kernel
theorem dX10_clear_1 : decode cX10_clear 1 = .ok (.getfield 19, 3) := by decide +kernel
theorem dX10_clear_4 : decode cX10_clear 4 = .ok (.invokevirtual 115, 3) := by decide +kernel
theorem dX10_clear_7 : decode cX10_clear 7 = .ok (.istore_n 1, 1) := by decide +kernel
theorem dX10_clear_8 : decode cX10_clear 8 = .ok (.aload_n 0, 1) := by decide +kernel
theorem dX10_clear_9 : decode cX10_clear 9 = .ok (.getfield 19, 3) := by decide +kernel
theorem dX10_clear_12 : decode cX10_clear 12 = .ok (.invokevirtual 224, 3) := by decide +kernel
theorem dX10_clear_15 : decode cX10_clear 15 = .ok (.aload_n 0, 1) := by decide +kernel
theorem dX10_clear_16 : decode cX10_clear 16 = .ok (.getfield 40, 3) := by decide +kernel
theorem dX10_clear_19 : decode cX10_clear 19 = .ok (.invokevirtual 225, 3) := by decide +kernel
theorem dX10_clear_22 : decode cX10_clear 22 = .ok (.aload_n 0, 1) := by decide +kernel
theorem dX10_clear_23 : decode cX10_clear 23 = .ok (.getfield 47, 3) := by decide +kernel
theorem dX10_clear_26 : decode cX10_clear 26 = .ok (.invokevirtual 196, 3) := by decide +kernel
theorem dX10_clear_29 : decode cX10_clear 29 = .ok (.aload_n 0, 1) := by decide +kernel
theorem dX10_clear_30 : decode cX10_clear 30 = .ok (.getfield 54, 3) := by decide +kernel
theorem dX10_clear_33 : decode cX10_clear 33 = .ok (.invokevirtual 226, 3) := by decide +kernel
theorem dX10_clear_36 : decode cX10_clear 36 = .ok (.iload_n 1, 1) := by decide +kernel
theorem dX10_clear_37 : decode cX10_clear 37 = .ok (.ireturn, 1) := by decide +kernel
set_option maxRecDepth 20000 in
theorem ggX10_areHits_X3_within : GoodIn wsX10_areHits wsX3_within := goodIn_r _ [4] (by decide +kernel) (by decide +kernel)
set_option maxRecDepth 20000 in
theorem gX10_areHits_X3_within : GoodIn wsX10_areHits (va_wsS RX10 69 yX3_within wsX3_within) := goodIn_app (goodIn_of _ (by decide +kernel)) ggX10_areHits_X3_within
set_option maxRecDepth 20000 in
theorem ggX10_areHits_X10_isSide : GoodIn wsX10_areHits wsX10_isSide := goodIn_r _ [8] (by decide +kernel) (by decide +kernel)
set_option maxRecDepth 20000 in
theorem gX10_areHits_X10_isSide : GoodIn wsX10_areHits (va_wsS RX10 85 yX10_isSide wsX10_isSide) := goodIn_app (goodIn_of _ (by decide +kernel)) ggX10_areHits_X10_isSide
theorem dX10_areHits_0 : decode cX10_areHits 0 = .ok (.iload_n 0, 1) := by decide +kernel
theorem dX10_areHits_1 : decode cX10_areHits 1 = .ok (.iconst 0, 1) := by decide +kernel
theorem dX10_areHits_2 : decode cX10_areHits 2 = .ok (.bipush 30, 2) := by decide +kernel
theorem dX10_areHits_4 : decode cX10_areHits 4 = .ok (.invokestatic 69, 3) := by decide +kernel
theorem dX10_areHits_7 : decode cX10_areHits 7 = .ok (.ifCond .eq 44, 3) := by decide +kernel
theorem dX10_areHits_10 : decode cX10_areHits 10 = .ok (.iload_n 1, 1) := by decide +kernel
theorem dX10_areHits_11 : decode cX10_areHits 11 = .ok (.iconst 0, 1) := by decide +kernel
theorem dX10_areHits_12 : decode cX10_areHits 12 = .ok (.iload_n 0, 1) := by decide +kernel
theorem dX10_areHits_13 : decode cX10_areHits 13 = .ok (.invokestatic 69, 3) := by decide +kernel
theorem dX10_areHits_16 : decode cX10_areHits 16 = .ok (.ifCond .eq 35, 3) := by decide +kernel
theorem dX10_areHits_19 : decode cX10_areHits 19 = .ok (.iload_n 3, 1) := by decide +kernel
theorem dX10_areHits_20 : decode cX10_areHits 20 = .ok (.iconst 1, 1) := by decide +kernel
theorem dX10_areHits_21 : decode cX10_areHits 21 = .ok (.sipush 1000, 3) := by decide +kernel
theorem dX10_areHits_24 : decode cX10_areHits 24 = .ok (.invokestatic 69, 3) := by decide +kernel
theorem dX10_areHits_27 : decode cX10_areHits 27 = .ok (.ifCond .eq 24, 3) := by decide +kernel
theorem dX10_areHits_30 : decode cX10_areHits 30 = .ok (.iload_n 2, 1) := by decide +kernel
theorem dX10_areHits_31 : decode cX10_areHits 31 = .ok (.iconst 0, 1) := by decide +kernel
theorem dX10_areHits_32 : decode cX10_areHits 32 = .ok (.iload_n 3, 1) := by decide +kernel
theorem dX10_areHits_33 : decode cX10_areHits 33 = .ok (.invokestatic 69, 3) := by decide +kernel
theorem dX10_areHits_36 : decode cX10_areHits 36 = .ok (.ifCond .eq 15, 3) := by decide +kernel
theorem dX10_areHits_39 : decode cX10_areHits 39 = .ok (.iload 4, 2) := by decide +kernel
theorem dX10_areHits_41 : decode cX10_areHits 41 = .ok (.invokestatic 85, 3) := by decide +kernel
theorem dX10_areHits_44 : decode cX10_areHits 44 = .ok (.ifCond .eq 7, 3) := by decide +kernel
theorem dX10_areHits_47 : decode cX10_areHits 47 = .ok (.iconst 1, 1) := by decide +kernel
theorem dX10_areHits_48 : decode cX10_areHits 48 = .ok (.goto 4, 3) := by decide +kernel
theorem dX10_areHits_51 : decode cX10_areHits 51 = .ok (.iconst 0, 1) := by decide +kernel
theorem dX10_areHits_52 : decode cX10_areHits 52 = .ok (.ireturn, 1) := by decide +kernel
theorem dX10_isSide_0 : decode cX10_isSide 0 = .ok (.iload_n 0, 1) := by decide +kernel
theorem dX10_isSide_1 : decode cX10_isSide 1 = .ok (.ifCond .eq 8, 3) := by decide +kernel
theorem dX10_isSide_4 : decode cX10_isSide 4 = .ok (.iload_n 0, 1) := by decide +kernel
theorem dX10_isSide_5 : decode cX10_isSide 5 = .ok (.iconst 1, 1) := by decide +kernel
theorem dX10_isSide_6 : decode cX10_isSide 6 = .ok (.if_icmp .ne 7, 3) := by decide +kernel
theorem dX10_isSide_9 : decode cX10_isSide 9 = .ok (.iconst 1, 1) := by decide +kernel
theorem dX10_isSide_10 : decode cX10_isSide 10 = .ok (.goto 4, 3) := by decide +kernel
theorem dX10_isSide_13 : decode cX10_isSide 13 = .ok (.iconst 0, 1) := by decide +kernel
theorem dX10_isSide_14 : decode cX10_isSide 14 = .ok (.ireturn, 1) := by decide +kernel
set_option maxRecDepth 20000 in
theorem ggX10_isTrust_X3_within : GoodIn wsX10_isTrust wsX3_within := goodIn_r _ [4] (by decide +kernel) (by decide +kernel)
set_option maxRecDepth 20000 in
theorem gX10_isTrust_X3_within : GoodIn wsX10_isTrust (va_wsS RX10 69 yX3_within wsX3_within) := goodIn_app (goodIn_of _ (by decide +kernel)) ggX10_isTrust_X3_within
theorem dX10_isTrust_0 : decode cX10_isTrust 0 = .ok (.iload_n 1, 1) := by decide +kernel
theorem dX10_isTrust_1 : decode cX10_isTrust 1 = .ok (.iconst 2, 1) := by decide +kernel
theorem dX10_isTrust_2 : decode cX10_isTrust 2 = .ok (.sipush 1000, 3) := by decide +kernel
theorem dX10_isTrust_5 : decode cX10_isTrust 5 = .ok (.invokestatic 69, 3) := by decide +kernel
theorem dX10_isTrust_8 : decode cX10_isTrust 8 = .ok (.ifCond .eq 18, 3) := by decide +kernel
theorem dX10_isTrust_11 : decode cX10_isTrust 11 = .ok (.iload_n 0, 1) := by decide +kernel
theorem dX10_isTrust_12 : decode cX10_isTrust 12 = .ok (.iconst 1, 1) := by decide +kernel
theorem dX10_isTrust_13 : decode cX10_isTrust 13 = .ok (.iload_n 1, 1) := by decide +kernel
theorem dX10_isTrust_14 : decode cX10_isTrust 14 = .ok (.iconst 1, 1) := by decide +kernel
theorem dX10_isTrust_15 : decode cX10_isTrust 15 = .ok (.isub, 1) := by decide +kernel
theorem dX10_isTrust_16 : decode cX10_isTrust 16 = .ok (.invokestatic 69, 3) := by decide +kernel
theorem dX10_isTrust_19 : decode cX10_isTrust 19 = .ok (.ifCond .eq 7, 3) := by decide +kernel
theorem dX10_isTrust_22 : decode cX10_isTrust 22 = .ok (.iconst 1, 1) := by decide +kernel
theorem dX10_isTrust_23 : decode cX10_isTrust 23 = .ok (.goto 4, 3) := by decide +kernel
theorem dX10_isTrust_26 : decode cX10_isTrust 26 = .ok (.iconst 0, 1) := by decide +kernel
theorem dX10_isTrust_27 : decode cX10_isTrust 27 = .ok (.ireturn, 1) := by decide +kernel
set_option maxRecDepth 20000 in
theorem ggX10_takeOddsOf_X3_setsOutOf : GoodIn wsX10_takeOddsOf wsX3_setsOutOf := goodIn_r _ [10] (by decide +kernel) (by decide +kernel)
set_option maxRecDepth 20000 in
theorem gX10_takeOddsOf_X3_setsOutOf : GoodIn wsX10_takeOddsOf (va_wsS RX10 232 yX3_setsOutOf wsX3_setsOutOf) := goodIn_app (goodIn_of _ (by decide +kernel)) ggX10_takeOddsOf_X3_setsOutOf
set_option maxRecDepth 20000 in
theorem ggX10_takeOddsOf_X4_become : GoodIn wsX10_takeOddsOf wsX4_become := goodIn_r _ [15, 16, 17, 3, 18, 19, 20, 21, 22, 9, 23, 37, 38] (by decide +kernel) (by decide +kernel)
set_option maxRecDepth 20000 in
theorem gX10_takeOddsOf_X4_become : GoodIn wsX10_takeOddsOf (wsV RX10 237 RX4 yX4_become wsX4_become) := goodIn_app (goodIn_of _ (by decide +kernel)) ggX10_takeOddsOf_X4_become
set_option maxRecDepth 20000 in
theorem ggX10_takeOddsOf_X4_capAtOne : GoodIn wsX10_takeOddsOf wsX4_capAtOne := goodIn_r _ [27, 19, 20, 28, 12, 13, 14, 15, 16, 17, 3, 18, 21, 22, 9, 23, 37, 38] (by decide +kernel) (by decide +kernel)
set_option maxRecDepth 20000 in
theorem gX10_takeOddsOf_X4_capAtOne : GoodIn wsX10_takeOddsOf (wsV RX10 193 RX4 yX4_capAtOne wsX4_capAtOne) := goodIn_app (goodIn_of _ (by decide +kernel)) ggX10_takeOddsOf_X4_capAtOne
theorem dX10_takeOddsOf_0 : decode cX10_takeOddsOf 0 = .ok (.iload_n 1, 1) := by decide +kernel
theorem dX10_takeOddsOf_1 : decode cX10_takeOddsOf 1 = .ok (.iload_n 2, 1) := by decide +kernel
theorem dX10_takeOddsOf_2 : decode cX10_takeOddsOf 2 = .ok (.iadd, 1) := by decide +kernel
theorem dX10_takeOddsOf_3 : decode cX10_takeOddsOf 3 = .ok (.istore_n 3, 1) := by decide +kernel
theorem dX10_takeOddsOf_4 : decode cX10_takeOddsOf 4 = .ok (.iload_n 1, 1) := by decide +kernel
theorem dX10_takeOddsOf_5 : decode cX10_takeOddsOf 5 = .ok (.iload_n 2, 1) := by decide +kernel
theorem dX10_takeOddsOf_6 : decode cX10_takeOddsOf 6 = .ok (.invokestatic 229, 3) := by decide +kernel
theorem dX10_takeOddsOf_9 : decode cX10_takeOddsOf 9 = .ok (.istore 4, 2) := by decide +kernel
theorem dX10_takeOddsOf_11 : decode cX10_takeOddsOf 11 = .ok (.lconst 0, 1) := by decide +kernel
theorem dX10_takeOddsOf_12 : decode cX10_takeOddsOf 12 = .ok (.lstore 5, 2) := by decide +kernel
theorem dX10_takeOddsOf_14 : decode cX10_takeOddsOf 14 = .ok (.iconst 0, 1) := by decide +kernel
theorem dX10_takeOddsOf_15 : decode cX10_takeOddsOf 15 = .ok (.istore 7, 2) := by decide +kernel
theorem dX10_takeOddsOf_17 : decode cX10_takeOddsOf 17 = .ok (.iload 7, 2) := by decide +kernel
theorem dX10_takeOddsOf_19 : decode cX10_takeOddsOf 19 = .ok (.iload 4, 2) := by decide +kernel
theorem dX10_takeOddsOf_21 : decode cX10_takeOddsOf 21 = .ok (.if_icmp .gt 20, 3) := by decide +kernel
theorem dX10_takeOddsOf_24 : decode cX10_takeOddsOf 24 = .ok (.lload 5, 2) := by decide +kernel
theorem dX10_takeOddsOf_26 : decode cX10_takeOddsOf 26 = .ok (.iload_n 3, 1) := by decide +kernel
theorem dX10_takeOddsOf_27 : decode cX10_takeOddsOf 27 = .ok (.iload 7, 2) := by decide +kernel
theorem dX10_takeOddsOf_29 : decode cX10_takeOddsOf 29 = .ok (.invokestatic 232, 3) := by decide +kernel
theorem dX10_takeOddsOf_32 : decode cX10_takeOddsOf 32 = .ok (.ladd, 1) := by decide +kernel
theorem dX10_takeOddsOf_33 : decode cX10_takeOddsOf 33 = .ok (.lstore 5, 2) := by decide +kernel
theorem dX10_takeOddsOf_35 : decode cX10_takeOddsOf 35 = .ok (.iinc 7 1, 3) := by decide +kernel
theorem dX10_takeOddsOf_38 : decode cX10_takeOddsOf 38 = .ok (.goto (-21), 3) := by decide +kernel
theorem dX10_takeOddsOf_41 : decode cX10_takeOddsOf 41 = .ok (.aload_n 0, 1) := by decide +kernel
theorem dX10_takeOddsOf_42 : decode cX10_takeOddsOf 42 = .ok (.getfield 61, 3) := by decide +kernel
theorem dX10_takeOddsOf_45 : decode cX10_takeOddsOf 45 = .ok (.ldc2_w 235, 3) := by decide +kernel
theorem dX10_takeOddsOf_48 : decode cX10_takeOddsOf 48 = .ok (.lload 5, 2) := by decide +kernel
theorem dX10_takeOddsOf_50 : decode cX10_takeOddsOf 50 = .ok (.lmul, 1) := by decide +kernel
theorem dX10_takeOddsOf_51 : decode cX10_takeOddsOf 51 = .ok (.lconst 1, 1) := by decide +kernel
theorem dX10_takeOddsOf_52 : decode cX10_takeOddsOf 52 = .ok (.iload_n 3, 1) := by decide +kernel
theorem dX10_takeOddsOf_53 : decode cX10_takeOddsOf 53 = .ok (.lshl, 1) := by decide +kernel
theorem dX10_takeOddsOf_54 : decode cX10_takeOddsOf 54 = .ok (.invokevirtual 237, 3) := by decide +kernel
theorem dX10_takeOddsOf_57 : decode cX10_takeOddsOf 57 = .ok (.aload_n 0, 1) := by decide +kernel
theorem dX10_takeOddsOf_58 : decode cX10_takeOddsOf 58 = .ok (.getfield 61, 3) := by decide +kernel
theorem dX10_takeOddsOf_61 : decode cX10_takeOddsOf 61 = .ok (.invokevirtual 193, 3) := by decide +kernel
theorem dX10_takeOddsOf_64 : decode cX10_takeOddsOf 64 = .ok (.return_, 1) := by decide +kernel
theorem dX11_init_0 : decode cX11_init 0 = .ok (.aload_n 0, 1) := by decide +kernel
theorem dX11_init_1 : decode cX11_init 1 = .ok (.invokespecial 1, 3) := by decide +kernel
theorem dX11_init_4 : decode cX11_init 4 = .ok (.aload_n 0, 1) := by decide +kernel
theorem dX11_init_5 : decode cX11_init 5 = .ok (.bipush 32, 2) := by decide +kernel
theorem dX11_init_7 : decode cX11_init 7 = .ok (.newarray .int, 2) := by decide +kernel
theorem dX11_init_9 : decode cX11_init 9 = .ok (.putfield 7, 3) := by decide +kernel
theorem dX11_init_12 : decode cX11_init 12 = .ok (.aload_n 0, 1) := by decide +kernel
theorem dX11_init_13 : decode cX11_init 13 = .ok (.bipush 32, 2) := by decide +kernel
theorem dX11_init_15 : decode cX11_init 15 = .ok (.newarray .int, 2) := by decide +kernel
theorem dX11_init_17 : decode cX11_init 17 = .ok (.putfield 13, 3) := by decide +kernel
theorem dX11_init_20 : decode cX11_init 20 = .ok (.aload_n 0, 1) := by decide +kernel
theorem dX11_init_21 : decode cX11_init 21 = .ok (.bipush 30, 2) := by decide +kernel
theorem dX11_init_23 : decode cX11_init 23 = .ok (.newarray .int, 2) := by decide +kernel
theorem dX11_init_25 : decode cX11_init 25 = .ok (.putfield 16, 3) := by decide +kernel
theorem dX11_init_28 : decode cX11_init 28 = .ok (.aload_n 0, 1) := by decide +kernel
theorem dX11_init_29 : decode cX11_init 29 = .ok (.bipush 30, 2) := by decide +kernel
theorem dX11_init_31 : decode cX11_init 31 = .ok (.newarray .int, 2) := by decide +kernel
theorem dX11_init_33 : decode cX11_init 33 = .ok (.putfield 19, 3) := by decide +kernel
theorem dX11_init_36 : decode cX11_init 36 = .ok (.aload_n 0, 1) := by decide +kernel
theorem dX11_init_37 : decode cX11_init 37 = .ok (.bipush 30, 2) := by decide +kernel
theorem dX11_init_39 : decode cX11_init 39 = .ok (.newarray .int, 2) := by decide +kernel
theorem dX11_init_41 : decode cX11_init 41 = .ok (.putfield 22, 3) := by decide +kernel
theorem dX11_init_44 : decode cX11_init 44 = .ok (.aload_n 0, 1) := by decide +kernel
theorem dX11_init_45 : decode cX11_init 45 = .ok (.bipush 30, 2) := by decide +kernel
theorem dX11_init_47 : decode cX11_init 47 = .ok (.newarray .int, 2) := by decide +kernel
theorem dX11_init_49 : decode cX11_init 49 = .ok (.putfield 25, 3) := by decide +kernel
theorem dX11_init_52 : decode cX11_init 52 = .ok (.aload_n 0, 1) := by decide +kernel
theorem dX11_init_53 : decode cX11_init 53 = .ok (.bipush 30, 2) := by decide +kernel
theorem dX11_init_55 : decode cX11_init 55 = .ok (.newarray .int, 2) := by decide +kernel
theorem dX11_init_57 : decode cX11_init 57 = .ok (.putfield 28, 3) := by decide +kernel
theorem dX11_init_60 : decode cX11_init 60 = .ok (.aload_n 0, 1) := by decide +kernel
theorem dX11_init_61 : decode cX11_init 61 = .ok (.sipush 6001, 3) := by decide +kernel
theorem dX11_init_64 : decode cX11_init 64 = .ok (.newarray .long, 2) := by decide +kernel
theorem dX11_init_66 : decode cX11_init 66 = .ok (.putfield 31, 3) := by decide +kernel
theorem dX11_init_69 : decode cX11_init 69 = .ok (.aload_n 0, 1) := by decide +kernel
theorem dX11_init_70 : decode cX11_init 70 = .ok (.sipush 6001, 3) := by decide +kernel
theorem dX11_init_73 : decode cX11_init 73 = .ok (.newarray .long, 2) := by decide +kernel
theorem dX11_init_75 : decode cX11_init 75 = .ok (.putfield 35, 3) := by decide +kernel
theorem dX11_init_78 : decode cX11_init 78 = .ok (.aload_n 0, 1) := by decide +kernel
theorem dX11_init_79 : decode cX11_init 79 = .ok (.bipush 60, 2) := by decide +kernel
theorem dX11_init_81 : decode cX11_init 81 = .ok (.newarray .int, 2) := by decide +kernel
theorem dX11_init_83 : decode cX11_init 83 = .ok (.putfield 38, 3) := by decide +kernel
theorem dX11_init_86 : decode cX11_init 86 = .ok (.aload_n 0, 1) := by decide +kernel
theorem dX11_init_87 : decode cX11_init 87 = .ok (.bipush 60, 2) := by decide +kernel
theorem dX11_init_89 : decode cX11_init 89 = .ok (.newarray .int, 2) := by decide +kernel
theorem dX11_init_91 : decode cX11_init 91 = .ok (.putfield 41, 3) := by decide +kernel
theorem dX11_init_94 : decode cX11_init 94 = .ok (.aload_n 0, 1) := by decide +kernel
theorem dX11_init_95 : decode cX11_init 95 = .ok (.bipush 10, 2) := by decide +kernel
theorem dX11_init_97 : decode cX11_init 97 = .ok (.newarray .int, 2) := by decide +kernel
theorem dX11_init_99 : decode cX11_init 99 = .ok (.putfield 44, 3) := by decide +kernel
theorem dX11_init_102 : decode cX11_init 102 = .ok (.aload_n 0, 1) := by decide +kernel
theorem dX11_init_103 : decode cX11_init 103 = .ok (.bipush 10, 2) := by decide +kernel
theorem dX11_init_105 : decode cX11_init 105 = .ok (.newarray .int, 2) := by decide +kernel
theorem dX11_init_107 : decode cX11_init 107 = .ok (.putfield 47, 3) := by decide +kernel
theorem dX11_init_110 : decode cX11_init 110 = .ok (.return_, 1) := by decide +kernel
theorem dX11_thrown_0 : decode cX11_thrown 0 = .ok (.aload_n 0, 1) := by decide +kernel
theorem dX11_thrown_1 : decode cX11_thrown 1 = .ok (.getfield 50, 3) := by decide +kernel
theorem dX11_thrown_4 : decode cX11_thrown 4 = .ok (.ireturn, 1) := by decide +kernel
theorem dX11_in_0 : decode cX11_in 0 = .ok (.lload_n 0, 1) := by decide +kernel
theorem dX11_in_1 : decode cX11_in 1 = .ok (.lload_n 2, 1) := by decide +kernel
theorem dX11_in_2 : decode cX11_in 2 = .ok (.lcmp, 1) := by decide +kernel
theorem dX11_in_3 : decode cX11_in 3 = .ok (.ifCond .lt 14, 3) := by decide +kernel
theorem dX11_in_6 : decode cX11_in 6 = .ok (.lload_n 0, 1) := by decide +kernel
theorem dX11_in_7 : decode cX11_in 7 = .ok (.lload 4, 2) := by decide +kernel
theorem dX11_in_9 : decode cX11_in 9 = .ok (.lcmp, 1) := by decide +kernel
theorem dX11_in_10 : decode cX11_in 10 = .ok (.ifCond .gt 7, 3) := by decide +kernel
theorem dX11_in_13 : decode cX11_in 13 = .ok (.iconst 1, 1) := by decide +kernel
theorem dX11_in_14 : decode cX11_in 14 = .ok (.goto 4, 3) := by decide +kernel
theorem dX11_in_17 : decode cX11_in 17 = .ok (.iconst 0, 1) := by decide +kernel
theorem dX11_in_18 : decode cX11_in 18 = .ok (.ireturn, 1) := by decide +kernel
theorem dX11_small_0 : decode cX11_small 0 = .ok (.iconst 0, 1) := by decide +kernel
theorem dX11_small_1 : decode cX11_small 1 = .ok (.istore_n 2, 1) := by decide +kernel
theorem dX11_small_2 : decode cX11_small 2 = .ok (.iload_n 2, 1) := by decide +kernel
theorem dX11_small_3 : decode cX11_small 3 = .ok (.bipush 32, 2) := by decide +kernel
theorem dX11_small_5 : decode cX11_small 5 = .ok (.if_icmp .ge 13, 3) := by decide +kernel
theorem dX11_small_8 : decode cX11_small 8 = .ok (.aload_n 0, 1) := by decide +kernel
theorem dX11_small_9 : decode cX11_small 9 = .ok (.iload_n 2, 1) := by decide +kernel
theorem dX11_small_10 : decode cX11_small 10 = .ok (.iconst 0, 1) := by decide +kernel
theorem dX11_small_11 : decode cX11_small 11 = .ok (.iastore, 1) := by decide +kernel
theorem dX11_small_12 : decode cX11_small 12 = .ok (.iinc 2 1, 3) := by decide +kernel
theorem dX11_small_15 : decode cX11_small 15 = .ok (.goto (-13), 3) := by decide +kernel
theorem dX11_small_18 : decode cX11_small 18 = .ok (.aload_n 0, 1) := by decide +kernel
theorem dX11_small_19 : decode cX11_small 19 = .ok (.iconst 0, 1) := by decide +kernel
theorem dX11_small_20 : decode cX11_small 20 = .ok (.iload_n 1, 1) := by decide +kernel
theorem dX11_small_21 : decode cX11_small 21 = .ok (.ldc 54, 2) := by decide +kernel
theorem dX11_small_23 : decode cX11_small 23 = .ok (.iand, 1) := by decide +kernel
theorem dX11_small_24 : decode cX11_small 24 = .ok (.iastore, 1) := by decide +kernel
theorem dX11_small_25 : decode cX11_small 25 = .ok (.aload_n 0, 1) := by decide +kernel
theorem dX11_small_26 : decode cX11_small 26 = .ok (.iconst 1, 1) := by decide +kernel
theorem dX11_small_27 : decode cX11_small 27 = .ok (.iload_n 1, 1) := by decide +kernel
theorem dX11_small_28 : decode cX11_small 28 = .ok (.bipush 16, 2) := by decide +kernel
theorem dX11_small_30 : decode cX11_small 30 = .ok (.iushr, 1) := by decide +kernel
theorem dX11_small_31 : decode cX11_small 31 = .ok (.iastore, 1) := by decide +kernel
theorem dX11_small_32 : decode cX11_small 32 = .ok (.return_, 1) := by decide +kernel
theorem dX11_times_0 : decode cX11_times 0 = .ok (.lconst 0, 1) := by decide +kernel
theorem dX11_times_1 : decode cX11_times 1 = .ok (.lstore_n 3, 1) := by decide +kernel
theorem dX11_times_2 : decode cX11_times 2 = .ok (.iconst 0, 1) := by decide +kernel
theorem dX11_times_3 : decode cX11_times 3 = .ok (.istore 5, 2) := by decide +kernel
theorem dX11_times_5 : decode cX11_times 5 = .ok (.iload 5, 2) := by decide +kernel
theorem dX11_times_7 : decode cX11_times 7 = .ok (.bipush 32, 2) := by decide +kernel
theorem dX11_times_9 : decode cX11_times 9 = .ok (.if_icmp .ge 34, 3) := by decide +kernel
theorem dX11_times_12 : decode cX11_times 12 = .ok (.lload_n 3, 1) := by decide +kernel
theorem dX11_times_13 : decode cX11_times 13 = .ok (.aload_n 0, 1) := by decide +kernel
theorem dX11_times_14 : decode cX11_times 14 = .ok (.iload 5, 2) := by decide +kernel
theorem dX11_times_16 : decode cX11_times 16 = .ok (.iaload, 1) := by decide +kernel
theorem dX11_times_17 : decode cX11_times 17 = .ok (.i2l, 1) := by decide +kernel
theorem dX11_times_18 : decode cX11_times 18 = .ok (.lload_n 1, 1) := by decide +kernel
theorem dX11_times_19 : decode cX11_times 19 = .ok (.lmul, 1) := by decide +kernel
theorem dX11_times_20 : decode cX11_times 20 = .ok (.ladd, 1) := by decide +kernel
theorem dX11_times_21 : decode cX11_times 21 = .ok (.lstore_n 3, 1) := by decide +kernel
theorem dX11_times_22 : decode cX11_times 22 = .ok (.aload_n 0, 1) := by decide +kernel
theorem dX11_times_23 : decode cX11_times 23 = .ok (.iload 5, 2) := by decide +kernel
theorem dX11_times_25 : decode cX11_times 25 = .ok (.lload_n 3, 1) := by decide +kernel
theorem dX11_times_26 : decode cX11_times 26 = .ok (.ldc2_w 55, 3) := by decide +kernel
theorem dX11_times_29 : decode cX11_times 29 = .ok (.land, 1) := by decide +kernel
theorem dX11_times_30 : decode cX11_times 30 = .ok (.l2i, 1) := by decide +kernel
theorem dX11_times_31 : decode cX11_times 31 = .ok (.iastore, 1) := by decide +kernel
theorem dX11_times_32 : decode cX11_times 32 = .ok (.lload_n 3, 1) := by decide +kernel
theorem dX11_times_33 : decode cX11_times 33 = .ok (.bipush 16, 2) := by decide +kernel
theorem dX11_times_35 : decode cX11_times 35 = .ok (.lushr, 1) := by decide +kernel
theorem dX11_times_36 : decode cX11_times 36 = .ok (.lstore_n 3, 1) := by decide +kernel
theorem dX11_times_37 : decode cX11_times 37 = .ok (.iinc 5 1, 3) := by decide +kernel
theorem dX11_times_40 : decode cX11_times 40 = .ok (.goto (-35), 3) := by decide +kernel
theorem dX11_times_43 : decode cX11_times 43 = .ok (.return_, 1) := by decide +kernel
theorem dX11_over_0 : decode cX11_over 0 = .ok (.lconst 0, 1) := by decide +kernel
theorem dX11_over_1 : decode cX11_over 1 = .ok (.lstore_n 2, 1) := by decide +kernel
theorem dX11_over_2 : decode cX11_over 2 = .ok (.bipush 31, 2) := by decide +kernel
theorem dX11_over_4 : decode cX11_over 4 = .ok (.istore 4, 2) := by decide +kernel
theorem dX11_over_6 : decode cX11_over 6 = .ok (.iload 4, 2) := by decide +kernel
theorem dX11_over_8 : decode cX11_over 8 = .ok (.ifCond .lt 34, 3) := by decide +kernel
theorem dX11_over_11 : decode cX11_over 11 = .ok (.lload_n 2, 1) := by decide +kernel
theorem dX11_over_12 : decode cX11_over 12 = .ok (.bipush 16, 2) := by decide +kernel
theorem dX11_over_14 : decode cX11_over 14 = .ok (.lshl, 1) := by decide +kernel
theorem dX11_over_15 : decode cX11_over 15 = .ok (.aload_n 0, 1) := by decide +kernel
theorem dX11_over_16 : decode cX11_over 16 = .ok (.iload 4, 2) := by decide +kernel
theorem dX11_over_18 : decode cX11_over 18 = .ok (.iaload, 1) := by decide +kernel
theorem dX11_over_19 : decode cX11_over 19 = .ok (.i2l, 1) := by decide +kernel
theorem dX11_over_20 : decode cX11_over 20 = .ok (.lor, 1) := by decide +kernel
theorem dX11_over_21 : decode cX11_over 21 = .ok (.lstore_n 2, 1) := by decide +kernel
theorem dX11_over_22 : decode cX11_over 22 = .ok (.aload_n 0, 1) := by decide +kernel
theorem dX11_over_23 : decode cX11_over 23 = .ok (.iload 4, 2) := by decide +kernel
theorem dX11_over_25 : decode cX11_over 25 = .ok (.lload_n 2, 1) := by decide +kernel
theorem dX11_over_26 : decode cX11_over 26 = .ok (.iload_n 1, 1) := by decide +kernel
theorem dX11_over_27 : decode cX11_over 27 = .ok (.i2l, 1) := by decide +kernel
theorem dX11_over_28 : decode cX11_over 28 = .ok (.ldiv, 1) := by decide +kernel
theorem dX11_over_29 : decode cX11_over 29 = .ok (.l2i, 1) := by decide +kernel
theorem dX11_over_30 : decode cX11_over 30 = .ok (.iastore, 1) := by decide +kernel
theorem dX11_over_31 : decode cX11_over 31 = .ok (.lload_n 2, 1) := by decide +kernel
theorem dX11_over_32 : decode cX11_over 32 = .ok (.iload_n 1, 1) := by decide +kernel
theorem dX11_over_33 : decode cX11_over 33 = .ok (.i2l, 1) := by decide +kernel
theorem dX11_over_34 : decode cX11_over 34 = .ok (.lrem, 1) := by decide +kernel
theorem dX11_over_35 : decode cX11_over 35 = .ok (.lstore_n 2, 1) := by decide +kernel
theorem dX11_over_36 : decode cX11_over 36 = .ok (.iinc 4 (-1), 3) := by decide +kernel
theorem dX11_over_39 : decode cX11_over 39 = .ok (.goto (-33), 3) := by decide +kernel
theorem dX11_over_42 : decode cX11_over 42 = .ok (.return_, 1) := by decide +kernel
theorem dX11_plus_0 : decode cX11_plus 0 = .ok (.iconst 0, 1) := by decide +kernel
theorem dX11_plus_1 : decode cX11_plus 1 = .ok (.istore_n 2, 1) := by decide +kernel
theorem dX11_plus_2 : decode cX11_plus 2 = .ok (.iconst 0, 1) := by decide +kernel
theorem dX11_plus_3 : decode cX11_plus 3 = .ok (.istore_n 3, 1) := by decide +kernel
theorem dX11_plus_4 : decode cX11_plus 4 = .ok (.iload_n 3, 1) := by decide +kernel
theorem dX11_plus_5 : decode cX11_plus 5 = .ok (.bipush 32, 2) := by decide +kernel
theorem dX11_plus_7 : decode cX11_plus 7 = .ok (.if_icmp .ge 31, 3) := by decide +kernel
theorem dX11_plus_10 : decode cX11_plus 10 = .ok (.iload_n 2, 1) := by decide +kernel
theorem dX11_plus_11 : decode cX11_plus 11 = .ok (.aload_n 0, 1) := by decide +kernel
theorem dX11_plus_12 : decode cX11_plus 12 = .ok (.iload_n 3, 1) := by decide +kernel
theorem dX11_plus_13 : decode cX11_plus 13 = .ok (.iaload, 1) := by decide +kernel
theorem dX11_plus_14 : decode cX11_plus 14 = .ok (.aload_n 1, 1) := by decide +kernel
theorem dX11_plus_15 : decode cX11_plus 15 = .ok (.iload_n 3, 1) := by decide +kernel
theorem dX11_plus_16 : decode cX11_plus 16 = .ok (.iaload, 1) := by decide +kernel
theorem dX11_plus_17 : decode cX11_plus 17 = .ok (.iadd, 1) := by decide +kernel
theorem dX11_plus_18 : decode cX11_plus 18 = .ok (.iadd, 1) := by decide +kernel
theorem dX11_plus_19 : decode cX11_plus 19 = .ok (.istore_n 2, 1) := by decide +kernel
theorem dX11_plus_20 : decode cX11_plus 20 = .ok (.aload_n 0, 1) := by decide +kernel
theorem dX11_plus_21 : decode cX11_plus 21 = .ok (.iload_n 3, 1) := by decide +kernel
theorem dX11_plus_22 : decode cX11_plus 22 = .ok (.iload_n 2, 1) := by decide +kernel
theorem dX11_plus_23 : decode cX11_plus 23 = .ok (.ldc 54, 2) := by decide +kernel
theorem dX11_plus_25 : decode cX11_plus 25 = .ok (.iand, 1) := by decide +kernel
theorem dX11_plus_26 : decode cX11_plus 26 = .ok (.iastore, 1) := by decide +kernel
theorem dX11_plus_27 : decode cX11_plus 27 = .ok (.iload_n 2, 1) := by decide +kernel
theorem dX11_plus_28 : decode cX11_plus 28 = .ok (.bipush 16, 2) := by decide +kernel
theorem dX11_plus_30 : decode cX11_plus 30 = .ok (.ishr, 1) := by decide +kernel
theorem dX11_plus_31 : decode cX11_plus 31 = .ok (.istore_n 2, 1) := by decide +kernel
theorem dX11_plus_32 : decode cX11_plus 32 = .ok (.iinc 3 1, 3) := by decide +kernel
theorem dX11_plus_35 : decode cX11_plus 35 = .ok (.goto (-31), 3) := by decide +kernel
theorem dX11_plus_38 : decode cX11_plus 38 = .ok (.return_, 1) := by decide +kernel
theorem dX11_compared_0 : decode cX11_compared 0 = .ok (.bipush 31, 2) := by decide +kernel
theorem dX11_compared_2 : decode cX11_compared 2 = .ok (.istore_n 2, 1) := by decide +kernel
theorem dX11_compared_3 : decode cX11_compared 3 = .ok (.iload_n 2, 1) := by decide +kernel
theorem dX11_compared_4 : decode cX11_compared 4 = .ok (.ifCond .lt 33, 3) := by decide +kernel
theorem dX11_compared_7 : decode cX11_compared 7 = .ok (.aload_n 0, 1) := by decide +kernel
theorem dX11_compared_8 : decode cX11_compared 8 = .ok (.iload_n 2, 1) := by decide +kernel
theorem dX11_compared_9 : decode cX11_compared 9 = .ok (.iaload, 1) := by decide +kernel
theorem dX11_compared_10 : decode cX11_compared 10 = .ok (.aload_n 1, 1) := by decide +kernel
theorem dX11_compared_11 : decode cX11_compared 11 = .ok (.iload_n 2, 1) := by decide +kernel
theorem dX11_compared_12 : decode cX11_compared 12 = .ok (.iaload, 1) := by decide +kernel
theorem dX11_compared_13 : decode cX11_compared 13 = .ok (.if_icmp .eq 18, 3) := by decide +kernel
theorem dX11_compared_16 : decode cX11_compared 16 = .ok (.aload_n 0, 1) := by decide +kernel
theorem dX11_compared_17 : decode cX11_compared 17 = .ok (.iload_n 2, 1) := by decide +kernel
theorem dX11_compared_18 : decode cX11_compared 18 = .ok (.iaload, 1) := by decide +kernel
theorem dX11_compared_19 : decode cX11_compared 19 = .ok (.aload_n 1, 1) := by decide +kernel
theorem dX11_compared_20 : decode cX11_compared 20 = .ok (.iload_n 2, 1) := by decide +kernel
theorem dX11_compared_21 : decode cX11_compared 21 = .ok (.iaload, 1) := by decide +kernel
theorem dX11_compared_22 : decode cX11_compared 22 = .ok (.if_icmp .ge 7, 3) := by decide +kernel
theorem dX11_compared_25 : decode cX11_compared 25 = .ok (.iconst (-1), 1) := by decide +kernel
theorem dX11_compared_26 : decode cX11_compared 26 = .ok (.goto 4, 3) := by decide +kernel
theorem dX11_compared_29 : decode cX11_compared 29 = .ok (.iconst 1, 1) := by decide +kernel
theorem dX11_compared_30 : decode cX11_compared 30 = .ok (.ireturn, 1) := by decide +kernel
theorem dX11_compared_31 : decode cX11_compared 31 = .ok (.iinc 2 (-1), 3) := by decide +kernel
theorem dX11_compared_34 : decode cX11_compared 34 = .ok (.goto (-31), 3) := by decide +kernel
theorem dX11_compared_37 : decode cX11_compared 37 = .ok (.iconst 0, 1) := by decide +kernel
theorem dX11_compared_38 : decode cX11_compared 38 = .ok (.ireturn, 1) := by decide +kernel
set_option maxRecDepth 20000 in
theorem ggX11_term_X11_small : GoodIn wsX11_term wsX11_small := goodIn_r _ [4, 5] (by decide +kernel) (by decide +kernel)
set_option maxRecDepth 20000 in
theorem gX11_term_X11_small : GoodIn wsX11_term (va_wsS RX11 57 yX11_small wsX11_small) := goodIn_app (goodIn_of _ (by decide +kernel)) ggX11_term_X11_small
set_option maxRecDepth 20000 in
theorem ggX11_term_X11_times : GoodIn wsX11_term wsX11_times := goodIn_r _ [8, 9] (by decide +kernel) (by decide +kernel)
set_option maxRecDepth 20000 in
theorem gX11_term_X11_times : GoodIn wsX11_term (va_wsS RX11 61 yX11_times wsX11_times) := goodIn_app (goodIn_of _ (by decide +kernel)) ggX11_term_X11_times
set_option maxRecDepth 20000 in
theorem ggX11_term_X11_over : GoodIn wsX11_term wsX11_over := goodIn_r _ [12] (by decide +kernel) (by decide +kernel)
set_option maxRecDepth 20000 in
theorem gX11_term_X11_over : GoodIn wsX11_term (va_wsS RX11 65 yX11_over wsX11_over) := goodIn_app (goodIn_of _ (by decide +kernel)) ggX11_term_X11_over
theorem dX11_term_0 : decode cX11_term 0 = .ok (.aload_n 0, 1) := by decide +kernel
theorem dX11_term_1 : decode cX11_term 1 = .ok (.iconst 1, 1) := by decide +kernel
end
section
theorem dX11_term_2 : decode cX11_term 2 = .ok (.invokestatic 57, 3) := by decide +kernel
theorem dX11_term_5 : decode cX11_term 5 = .ok (.iconst 0, 1) := by decide +kernel
theorem dX11_term_6 : decode cX11_term 6 = .ok (.istore 5, 2) := by decide +kernel
theorem dX11_term_8 : decode cX11_term 8 = .ok (.iload 5, 2) := by decide +kernel
theorem dX11_term_10 : decode cX11_term 10 = .ok (.iload_n 2, 1) := by decide +kernel
theorem dX11_term_11 : decode cX11_term 11 = .ok (.if_icmp .ge 26, 3) := by decide +kernel
theorem dX11_term_14 : decode cX11_term 14 = .ok (.aload_n 0, 1) := by decide +kernel
theorem dX11_term_15 : decode cX11_term 15 = .ok (.iload_n 1, 1) := by decide +kernel
theorem dX11_term_16 : decode cX11_term 16 = .ok (.iload 5, 2) := by decide +kernel
theorem dX11_term_18 : decode cX11_term 18 = .ok (.isub, 1) := by decide +kernel
theorem dX11_term_19 : decode cX11_term 19 = .ok (.i2l, 1) := by decide +kernel
theorem dX11_term_20 : decode cX11_term 20 = .ok (.invokestatic 61, 3) := by decide +kernel
theorem dX11_term_23 : decode cX11_term 23 = .ok (.aload_n 0, 1) := by decide +kernel
theorem dX11_term_24 : decode cX11_term 24 = .ok (.iload 5, 2) := by decide +kernel
theorem dX11_term_26 : decode cX11_term 26 = .ok (.iconst 1, 1) := by decide +kernel
theorem dX11_term_27 : decode cX11_term 27 = .ok (.iadd, 1) := by decide +kernel
theorem dX11_term_28 : decode cX11_term 28 = .ok (.invokestatic 65, 3) := by decide +kernel
theorem dX11_term_31 : decode cX11_term 31 = .ok (.iinc 5 1, 3) := by decide +kernel
theorem dX11_term_34 : decode cX11_term 34 = .ok (.goto (-26), 3) := by decide +kernel
theorem dX11_term_37 : decode cX11_term 37 = .ok (.iconst 0, 1) := by decide +kernel
theorem dX11_term_38 : decode cX11_term 38 = .ok (.istore 5, 2) := by decide +kernel
theorem dX11_term_40 : decode cX11_term 40 = .ok (.iload 5, 2) := by decide +kernel
theorem dX11_term_42 : decode cX11_term 42 = .ok (.iload_n 1, 1) := by decide +kernel
theorem dX11_term_43 : decode cX11_term 43 = .ok (.if_icmp .ge 27, 3) := by decide +kernel
theorem dX11_term_46 : decode cX11_term 46 = .ok (.aload_n 0, 1) := by decide +kernel
theorem dX11_term_47 : decode cX11_term 47 = .ok (.iload 5, 2) := by decide +kernel
theorem dX11_term_49 : decode cX11_term 49 = .ok (.iload_n 2, 1) := by decide +kernel
theorem dX11_term_50 : decode cX11_term 50 = .ok (.if_icmp .ge 8, 3) := by decide +kernel
theorem dX11_term_53 : decode cX11_term 53 = .ok (.iload_n 3, 1) := by decide +kernel
theorem dX11_term_54 : decode cX11_term 54 = .ok (.i2l, 1) := by decide +kernel
theorem dX11_term_55 : decode cX11_term 55 = .ok (.goto 6, 3) := by decide +kernel
theorem dX11_term_58 : decode cX11_term 58 = .ok (.iload 4, 2) := by decide +kernel
theorem dX11_term_60 : decode cX11_term 60 = .ok (.i2l, 1) := by decide +kernel
theorem dX11_term_61 : decode cX11_term 61 = .ok (.invokestatic 61, 3) := by decide +kernel
theorem dX11_term_64 : decode cX11_term 64 = .ok (.iinc 5 1, 3) := by decide +kernel
theorem dX11_term_67 : decode cX11_term 67 = .ok (.goto (-27), 3) := by decide +kernel
theorem dX11_term_70 : decode cX11_term 70 = .ok (.return_, 1) := by decide +kernel
set_option maxRecDepth 20000 in
theorem ggX11_power_X11_small : GoodIn wsX11_power wsX11_small := goodIn_r _ [4, 5] (by decide +kernel) (by decide +kernel)
set_option maxRecDepth 20000 in
theorem gX11_power_X11_small : GoodIn wsX11_power (va_wsS RX11 57 yX11_small wsX11_small) := goodIn_app (goodIn_of _ (by decide +kernel)) ggX11_power_X11_small
set_option maxRecDepth 20000 in
theorem ggX11_power_X11_times : GoodIn wsX11_power wsX11_times := goodIn_r _ [8, 9] (by decide +kernel) (by decide +kernel)
set_option maxRecDepth 20000 in
theorem gX11_power_X11_times : GoodIn wsX11_power (va_wsS RX11 61 yX11_times wsX11_times) := goodIn_app (goodIn_of _ (by decide +kernel)) ggX11_power_X11_times
theorem dX11_power_0 : decode cX11_power 0 = .ok (.aload_n 0, 1) := by decide +kernel
theorem dX11_power_1 : decode cX11_power 1 = .ok (.iconst 1, 1) := by decide +kernel
theorem dX11_power_2 : decode cX11_power 2 = .ok (.invokestatic 57, 3) := by decide +kernel
theorem dX11_power_5 : decode cX11_power 5 = .ok (.iconst 0, 1) := by decide +kernel
theorem dX11_power_6 : decode cX11_power 6 = .ok (.istore_n 3, 1) := by decide +kernel
theorem dX11_power_7 : decode cX11_power 7 = .ok (.iload_n 3, 1) := by decide +kernel
theorem dX11_power_8 : decode cX11_power 8 = .ok (.iload_n 2, 1) := by decide +kernel
theorem dX11_power_9 : decode cX11_power 9 = .ok (.if_icmp .ge 15, 3) := by decide +kernel
theorem dX11_power_12 : decode cX11_power 12 = .ok (.aload_n 0, 1) := by decide +kernel
theorem dX11_power_13 : decode cX11_power 13 = .ok (.iload_n 1, 1) := by decide +kernel
theorem dX11_power_14 : decode cX11_power 14 = .ok (.i2l, 1) := by decide +kernel
theorem dX11_power_15 : decode cX11_power 15 = .ok (.invokestatic 61, 3) := by decide +kernel
theorem dX11_power_18 : decode cX11_power 18 = .ok (.iinc 3 1, 3) := by decide +kernel
theorem dX11_power_21 : decode cX11_power 21 = .ok (.goto (-14), 3) := by decide +kernel
theorem dX11_power_24 : decode cX11_power 24 = .ok (.return_, 1) := by decide +kernel
set_option maxRecDepth 20000 in
theorem ggX11_sumUp_X11_small : GoodIn wsX11_sumUp wsX11_small := goodIn_r _ [6, 7] (by decide +kernel) (by decide +kernel)
set_option maxRecDepth 20000 in
theorem gX11_sumUp_X11_small : GoodIn wsX11_sumUp (va_wsS RX11 57 yX11_small wsX11_small) := goodIn_app (goodIn_of _ (by decide +kernel)) ggX11_sumUp_X11_small
set_option maxRecDepth 20000 in
theorem ggX11_sumUp_X11_term : GoodIn wsX11_sumUp wsX11_term := goodIn_r _ [10, 3, 4, 5, 6, 7, 11, 12, 13, 14, 15, 16, 17] (by decide +kernel) (by decide +kernel)
set_option maxRecDepth 20000 in
theorem gX11_sumUp_X11_term : GoodIn wsX11_sumUp (va_wsS RX11 68 yX11_term wsX11_term) := goodIn_app (goodIn_of _ (by decide +kernel)) ggX11_sumUp_X11_term
set_option maxRecDepth 20000 in
theorem ggX11_sumUp_X11_plus : GoodIn wsX11_sumUp wsX11_plus := goodIn_r _ [20, 7] (by decide +kernel) (by decide +kernel)
set_option maxRecDepth 20000 in
theorem gX11_sumUp_X11_plus : GoodIn wsX11_sumUp (va_wsS RX11 72 yX11_plus wsX11_plus) := goodIn_app (goodIn_of _ (by decide +kernel)) ggX11_sumUp_X11_plus
theorem dX11_sumUp_0 : decode cX11_sumUp 0 = .ok (.aload_n 0, 1) := by decide +kernel
theorem dX11_sumUp_1 : decode cX11_sumUp 1 = .ok (.getfield 7, 3) := by decide +kernel
theorem dX11_sumUp_4 : decode cX11_sumUp 4 = .ok (.iconst 0, 1) := by decide +kernel
theorem dX11_sumUp_5 : decode cX11_sumUp 5 = .ok (.invokestatic 57, 3) := by decide +kernel
theorem dX11_sumUp_8 : decode cX11_sumUp 8 = .ok (.iload 5, 2) := by decide +kernel
theorem dX11_sumUp_10 : decode cX11_sumUp 10 = .ok (.ifCond .ne 7, 3) := by decide +kernel
theorem dX11_sumUp_13 : decode cX11_sumUp 13 = .ok (.iload_n 2, 1) := by decide +kernel
theorem dX11_sumUp_14 : decode cX11_sumUp 14 = .ok (.goto 4, 3) := by decide +kernel
theorem dX11_sumUp_17 : decode cX11_sumUp 17 = .ok (.iconst 0, 1) := by decide +kernel
theorem dX11_sumUp_18 : decode cX11_sumUp 18 = .ok (.istore 6, 2) := by decide +kernel
theorem dX11_sumUp_20 : decode cX11_sumUp 20 = .ok (.iload 5, 2) := by decide +kernel
theorem dX11_sumUp_22 : decode cX11_sumUp 22 = .ok (.ifCond .ne 7, 3) := by decide +kernel
theorem dX11_sumUp_25 : decode cX11_sumUp 25 = .ok (.iload_n 1, 1) := by decide +kernel
theorem dX11_sumUp_26 : decode cX11_sumUp 26 = .ok (.goto 4, 3) := by decide +kernel
theorem dX11_sumUp_29 : decode cX11_sumUp 29 = .ok (.iload_n 2, 1) := by decide +kernel
theorem dX11_sumUp_30 : decode cX11_sumUp 30 = .ok (.istore 7, 2) := by decide +kernel
theorem dX11_sumUp_32 : decode cX11_sumUp 32 = .ok (.iload 6, 2) := by decide +kernel
theorem dX11_sumUp_34 : decode cX11_sumUp 34 = .ok (.istore 8, 2) := by decide +kernel
theorem dX11_sumUp_36 : decode cX11_sumUp 36 = .ok (.iload 8, 2) := by decide +kernel
theorem dX11_sumUp_38 : decode cX11_sumUp 38 = .ok (.iload 7, 2) := by decide +kernel
theorem dX11_sumUp_40 : decode cX11_sumUp 40 = .ok (.if_icmp .gt 35, 3) := by decide +kernel
theorem dX11_sumUp_43 : decode cX11_sumUp 43 = .ok (.aload_n 0, 1) := by decide +kernel
theorem dX11_sumUp_44 : decode cX11_sumUp 44 = .ok (.getfield 13, 3) := by decide +kernel
theorem dX11_sumUp_47 : decode cX11_sumUp 47 = .ok (.iload_n 1, 1) := by decide +kernel
theorem dX11_sumUp_48 : decode cX11_sumUp 48 = .ok (.iload 8, 2) := by decide +kernel
theorem dX11_sumUp_50 : decode cX11_sumUp 50 = .ok (.iload_n 3, 1) := by decide +kernel
theorem dX11_sumUp_51 : decode cX11_sumUp 51 = .ok (.iload 4, 2) := by decide +kernel
theorem dX11_sumUp_53 : decode cX11_sumUp 53 = .ok (.iload_n 3, 1) := by decide +kernel
theorem dX11_sumUp_54 : decode cX11_sumUp 54 = .ok (.isub, 1) := by decide +kernel
theorem dX11_sumUp_55 : decode cX11_sumUp 55 = .ok (.invokestatic 68, 3) := by decide +kernel
theorem dX11_sumUp_58 : decode cX11_sumUp 58 = .ok (.aload_n 0, 1) := by decide +kernel
theorem dX11_sumUp_59 : decode cX11_sumUp 59 = .ok (.getfield 7, 3) := by decide +kernel
theorem dX11_sumUp_62 : decode cX11_sumUp 62 = .ok (.aload_n 0, 1) := by decide +kernel
theorem dX11_sumUp_63 : decode cX11_sumUp 63 = .ok (.getfield 13, 3) := by decide +kernel
theorem dX11_sumUp_66 : decode cX11_sumUp 66 = .ok (.invokestatic 72, 3) := by decide +kernel
theorem dX11_sumUp_69 : decode cX11_sumUp 69 = .ok (.iinc 8 1, 3) := by decide +kernel
theorem dX11_sumUp_72 : decode cX11_sumUp 72 = .ok (.goto (-36), 3) := by decide +kernel
theorem dX11_sumUp_75 : decode cX11_sumUp 75 = .ok (.return_, 1) := by decide +kernel
set_option maxRecDepth 20000 in
theorem ggX11_isHits_X11_in : GoodIn wsX11_isHits wsX11_in := goodIn_r _ [6] (by decide +kernel) (by decide +kernel)
set_option maxRecDepth 20000 in
theorem gX11_isHits_X11_in : GoodIn wsX11_isHits (va_wsS RX11 78 yX11_in wsX11_in) := goodIn_app (goodIn_of _ (by decide +kernel)) ggX11_isHits_X11_in
theorem dX11_isHits_0 : decode cX11_isHits 0 = .ok (.iload_n 0, 1) := by decide +kernel
theorem dX11_isHits_1 : decode cX11_isHits 1 = .ok (.i2l, 1) := by decide +kernel
theorem dX11_isHits_2 : decode cX11_isHits 2 = .ok (.lconst 0, 1) := by decide +kernel
theorem dX11_isHits_3 : decode cX11_isHits 3 = .ok (.ldc2_w 76, 3) := by decide +kernel
theorem dX11_isHits_6 : decode cX11_isHits 6 = .ok (.invokestatic 78, 3) := by decide +kernel
theorem dX11_isHits_9 : decode cX11_isHits 9 = .ok (.ifCond .eq 52, 3) := by decide +kernel
theorem dX11_isHits_12 : decode cX11_isHits 12 = .ok (.iload_n 1, 1) := by decide +kernel
theorem dX11_isHits_13 : decode cX11_isHits 13 = .ok (.i2l, 1) := by decide +kernel
theorem dX11_isHits_14 : decode cX11_isHits 14 = .ok (.lconst 0, 1) := by decide +kernel
theorem dX11_isHits_15 : decode cX11_isHits 15 = .ok (.iload_n 0, 1) := by decide +kernel
theorem dX11_isHits_16 : decode cX11_isHits 16 = .ok (.i2l, 1) := by decide +kernel
theorem dX11_isHits_17 : decode cX11_isHits 17 = .ok (.invokestatic 78, 3) := by decide +kernel
theorem dX11_isHits_20 : decode cX11_isHits 20 = .ok (.ifCond .eq 41, 3) := by decide +kernel
theorem dX11_isHits_23 : decode cX11_isHits 23 = .ok (.iload_n 3, 1) := by decide +kernel
theorem dX11_isHits_24 : decode cX11_isHits 24 = .ok (.i2l, 1) := by decide +kernel
theorem dX11_isHits_25 : decode cX11_isHits 25 = .ok (.lconst 1, 1) := by decide +kernel
theorem dX11_isHits_26 : decode cX11_isHits 26 = .ok (.ldc2_w 82, 3) := by decide +kernel
theorem dX11_isHits_29 : decode cX11_isHits 29 = .ok (.invokestatic 78, 3) := by decide +kernel
theorem dX11_isHits_32 : decode cX11_isHits 32 = .ok (.ifCond .eq 29, 3) := by decide +kernel
theorem dX11_isHits_35 : decode cX11_isHits 35 = .ok (.iload_n 2, 1) := by decide +kernel
theorem dX11_isHits_36 : decode cX11_isHits 36 = .ok (.i2l, 1) := by decide +kernel
theorem dX11_isHits_37 : decode cX11_isHits 37 = .ok (.lconst 0, 1) := by decide +kernel
theorem dX11_isHits_38 : decode cX11_isHits 38 = .ok (.iload_n 3, 1) := by decide +kernel
theorem dX11_isHits_39 : decode cX11_isHits 39 = .ok (.i2l, 1) := by decide +kernel
theorem dX11_isHits_40 : decode cX11_isHits 40 = .ok (.invokestatic 78, 3) := by decide +kernel
theorem dX11_isHits_43 : decode cX11_isHits 43 = .ok (.ifCond .eq 18, 3) := by decide +kernel
theorem dX11_isHits_46 : decode cX11_isHits 46 = .ok (.iload 4, 2) := by decide +kernel
theorem dX11_isHits_48 : decode cX11_isHits 48 = .ok (.i2l, 1) := by decide +kernel
theorem dX11_isHits_49 : decode cX11_isHits 49 = .ok (.lconst 0, 1) := by decide +kernel
theorem dX11_isHits_50 : decode cX11_isHits 50 = .ok (.lconst 1, 1) := by decide +kernel
theorem dX11_isHits_51 : decode cX11_isHits 51 = .ok (.invokestatic 78, 3) := by decide +kernel
theorem dX11_isHits_54 : decode cX11_isHits 54 = .ok (.ifCond .eq 7, 3) := by decide +kernel
theorem dX11_isHits_57 : decode cX11_isHits 57 = .ok (.iconst 1, 1) := by decide +kernel
theorem dX11_isHits_58 : decode cX11_isHits 58 = .ok (.goto 4, 3) := by decide +kernel
theorem dX11_isHits_61 : decode cX11_isHits 61 = .ok (.iconst 0, 1) := by decide +kernel
theorem dX11_isHits_62 : decode cX11_isHits 62 = .ok (.ireturn, 1) := by decide +kernel
set_option maxRecDepth 20000 in
theorem ggX11_above_X11_isHits : GoodIn wsX11_above wsX11_isHits := goodIn_r _ [8, 9, 10, 11, 12, 7, 13] (by decide +kernel) (by decide +kernel)
set_option maxRecDepth 20000 in
theorem gX11_above_X11_isHits : GoodIn wsX11_above (va_wsS RX11 84 yX11_isHits wsX11_isHits) := goodIn_app (goodIn_of _ (by decide +kernel)) ggX11_above_X11_isHits
set_option maxRecDepth 20000 in
theorem ggX11_above_X11_in : GoodIn wsX11_above wsX11_in := goodIn_r _ [13] (by decide +kernel) (by decide +kernel)
set_option maxRecDepth 20000 in
theorem gX11_above_X11_in : GoodIn wsX11_above (va_wsS RX11 78 yX11_in wsX11_in) := goodIn_app (goodIn_of _ (by decide +kernel)) ggX11_above_X11_in
set_option maxRecDepth 20000 in
theorem ggX11_above_X11_sumUp : GoodIn wsX11_above wsX11_sumUp := goodIn_r _ [17, 4, 18, 19, 20, 7, 21, 22, 23, 24, 25, 26, 27, 28, 29, 30, 31, 32, 33, 34, 35, 36, 37, 38, 39, 40, 41, 42, 43, 44, 45, 46, 47, 48, 49, 50, 51, 52, 53, 54, 55, 56, 57, 58, 59, 60, 61] (by decide +kernel) (by decide +kernel)
set_option maxRecDepth 20000 in
theorem gX11_above_X11_sumUp : GoodIn wsX11_above (wsV RX11 92 RX11 yX11_sumUp wsX11_sumUp) := goodIn_app (goodIn_of _ (by decide +kernel)) ggX11_above_X11_sumUp
theorem dX11_above_0 : decode cX11_above 0 = .ok (.aload_n 0, 1) := by decide +kernel
theorem dX11_above_1 : decode cX11_above 1 = .ok (.iconst 0, 1) := by decide +kernel
theorem dX11_above_2 : decode cX11_above 2 = .ok (.putfield 50, 3) := by decide +kernel
theorem dX11_above_5 : decode cX11_above 5 = .ok (.iload_n 1, 1) := by decide +kernel
theorem dX11_above_6 : decode cX11_above 6 = .ok (.iload_n 2, 1) := by decide +kernel
theorem dX11_above_7 : decode cX11_above 7 = .ok (.iload_n 3, 1) := by decide +kernel
theorem dX11_above_8 : decode cX11_above 8 = .ok (.iload 4, 2) := by decide +kernel
theorem dX11_above_10 : decode cX11_above 10 = .ok (.iload 5, 2) := by decide +kernel
theorem dX11_above_12 : decode cX11_above 12 = .ok (.invokestatic 84, 3) := by decide +kernel
theorem dX11_above_15 : decode cX11_above 15 = .ok (.ifCond .eq 16, 3) := by decide +kernel
theorem dX11_above_18 : decode cX11_above 18 = .ok (.iload 6, 2) := by decide +kernel
theorem dX11_above_20 : decode cX11_above 20 = .ok (.i2l, 1) := by decide +kernel
theorem dX11_above_21 : decode cX11_above 21 = .ok (.lconst 0, 1) := by decide +kernel
theorem dX11_above_22 : decode cX11_above 22 = .ok (.ldc2_w 88, 3) := by decide +kernel
theorem dX11_above_25 : decode cX11_above 25 = .ok (.invokestatic 78, 3) := by decide +kernel
theorem dX11_above_28 : decode cX11_above 28 = .ok (.ifCond .ne 7, 3) := by decide +kernel
theorem dX11_above_31 : decode cX11_above 31 = .ok (.ldc2_w 90, 3) := by decide +kernel
theorem dX11_above_34 : decode cX11_above 34 = .ok (.lreturn, 1) := by decide +kernel
theorem dX11_above_35 : decode cX11_above 35 = .ok (.aload_n 0, 1) := by decide +kernel
theorem dX11_above_36 : decode cX11_above 36 = .ok (.iload_n 1, 1) := by decide +kernel
theorem dX11_above_37 : decode cX11_above 37 = .ok (.iload_n 2, 1) := by decide +kernel
theorem dX11_above_38 : decode cX11_above 38 = .ok (.iload_n 3, 1) := by decide +kernel
theorem dX11_above_39 : decode cX11_above 39 = .ok (.iload 4, 2) := by decide +kernel
theorem dX11_above_41 : decode cX11_above 41 = .ok (.iload 5, 2) := by decide +kernel
theorem dX11_above_43 : decode cX11_above 43 = .ok (.invokevirtual 92, 3) := by decide +kernel
theorem dX11_above_46 : decode cX11_above 46 = .ok (.aload_n 0, 1) := by decide +kernel
theorem dX11_above_47 : decode cX11_above 47 = .ok (.getfield 7, 3) := by decide +kernel
theorem dX11_above_50 : decode cX11_above 50 = .ok (.iconst 2, 1) := by decide +kernel
theorem dX11_above_51 : decode cX11_above 51 = .ok (.iload 6, 2) := by decide +kernel
theorem dX11_above_53 : decode cX11_above 53 = .ok (.imul, 1) := by decide +kernel
theorem dX11_above_54 : decode cX11_above 54 = .ok (.iaload, 1) := by decide +kernel
theorem dX11_above_55 : decode cX11_above 55 = .ok (.i2l, 1) := by decide +kernel
theorem dX11_above_56 : decode cX11_above 56 = .ok (.aload_n 0, 1) := by decide +kernel
theorem dX11_above_57 : decode cX11_above 57 = .ok (.getfield 7, 3) := by decide +kernel
theorem dX11_above_60 : decode cX11_above 60 = .ok (.iconst 2, 1) := by decide +kernel
theorem dX11_above_61 : decode cX11_above 61 = .ok (.iload 6, 2) := by decide +kernel
theorem dX11_above_63 : decode cX11_above 63 = .ok (.imul, 1) := by decide +kernel
theorem dX11_above_64 : decode cX11_above 64 = .ok (.iconst 1, 1) := by decide +kernel
theorem dX11_above_65 : decode cX11_above 65 = .ok (.iadd, 1) := by decide +kernel
theorem dX11_above_66 : decode cX11_above 66 = .ok (.iaload, 1) := by decide +kernel
theorem dX11_above_67 : decode cX11_above 67 = .ok (.i2l, 1) := by decide +kernel
theorem dX11_above_68 : decode cX11_above 68 = .ok (.bipush 16, 2) := by decide +kernel
theorem dX11_above_70 : decode cX11_above 70 = .ok (.lshl, 1) := by decide +kernel
theorem dX11_above_71 : decode cX11_above 71 = .ok (.lor, 1) := by decide +kernel
theorem dX11_above_72 : decode cX11_above 72 = .ok (.lreturn, 1) := by decide +kernel
set_option maxRecDepth 20000 in
theorem ggX11_beside_X11_sumUp : GoodIn wsX11_beside wsX11_sumUp := goodIn_r _ [7, 1, 2, 8, 9, 6, 10, 11, 12, 13, 14, 15, 16, 17, 18, 19, 20, 21, 22, 23, 24, 31, 32, 33, 34, 35, 36, 37, 38, 39, 40, 41, 42, 43, 44, 45, 46, 47, 48, 49, 50, 51, 52, 53, 54, 55, 56] (by decide +kernel) (by decide +kernel)
set_option maxRecDepth 20000 in
theorem gX11_beside_X11_sumUp : GoodIn wsX11_beside (wsV RX11 92 RX11 yX11_sumUp wsX11_sumUp) := goodIn_app (goodIn_of _ (by decide +kernel)) ggX11_beside_X11_sumUp
set_option maxRecDepth 20000 in
theorem ggX11_beside_X11_times : GoodIn wsX11_beside wsX11_times := goodIn_r _ [17, 18] (by decide +kernel) (by decide +kernel)
set_option maxRecDepth 20000 in
theorem gX11_beside_X11_times : GoodIn wsX11_beside (va_wsS RX11 61 yX11_times wsX11_times) := goodIn_app (goodIn_of _ (by decide +kernel)) ggX11_beside_X11_times
set_option maxRecDepth 20000 in
theorem ggX11_beside_X11_power : GoodIn wsX11_beside wsX11_power := goodIn_r _ [27, 8, 9, 6, 10, 11, 15, 16, 17, 18] (by decide +kernel) (by decide +kernel)
set_option maxRecDepth 20000 in
theorem gX11_beside_X11_power : GoodIn wsX11_beside (va_wsS RX11 96 yX11_power wsX11_power) := goodIn_app (goodIn_of _ (by decide +kernel)) ggX11_beside_X11_power
set_option maxRecDepth 20000 in
theorem ggX11_beside_X11_compared : GoodIn wsX11_beside wsX11_compared := goodIn_r _ [30] (by decide +kernel) (by decide +kernel)
set_option maxRecDepth 20000 in
theorem gX11_beside_X11_compared : GoodIn wsX11_beside (va_wsS RX11 100 yX11_compared wsX11_compared) := goodIn_app (goodIn_of _ (by decide +kernel)) ggX11_beside_X11_compared
theorem dX11_beside_0 : decode cX11_beside 0 = .ok (.aload_n 0, 1) := by decide +kernel
theorem dX11_beside_1 : decode cX11_beside 1 = .ok (.iload_n 1, 1) := by decide +kernel
theorem dX11_beside_2 : decode cX11_beside 2 = .ok (.iload_n 2, 1) := by decide +kernel
theorem dX11_beside_3 : decode cX11_beside 3 = .ok (.iload_n 3, 1) := by decide +kernel
theorem dX11_beside_4 : decode cX11_beside 4 = .ok (.iload 4, 2) := by decide +kernel
theorem dX11_beside_6 : decode cX11_beside 6 = .ok (.iload 5, 2) := by decide +kernel
theorem dX11_beside_8 : decode cX11_beside 8 = .ok (.invokevirtual 92, 3) := by decide +kernel
theorem dX11_beside_11 : decode cX11_beside 11 = .ok (.aload_n 0, 1) := by decide +kernel
theorem dX11_beside_12 : decode cX11_beside 12 = .ok (.getfield 7, 3) := by decide +kernel
theorem dX11_beside_15 : decode cX11_beside 15 = .ok (.iload 7, 2) := by decide +kernel
theorem dX11_beside_17 : decode cX11_beside 17 = .ok (.i2l, 1) := by decide +kernel
theorem dX11_beside_18 : decode cX11_beside 18 = .ok (.invokestatic 61, 3) := by decide +kernel
theorem dX11_beside_21 : decode cX11_beside 21 = .ok (.aload_n 0, 1) := by decide +kernel
theorem dX11_beside_22 : decode cX11_beside 22 = .ok (.getfield 13, 3) := by decide +kernel
theorem dX11_beside_25 : decode cX11_beside 25 = .ok (.iload 4, 2) := by decide +kernel
theorem dX11_beside_27 : decode cX11_beside 27 = .ok (.iload_n 1, 1) := by decide +kernel
theorem dX11_beside_28 : decode cX11_beside 28 = .ok (.invokestatic 96, 3) := by decide +kernel
theorem dX11_beside_31 : decode cX11_beside 31 = .ok (.aload_n 0, 1) := by decide +kernel
theorem dX11_beside_32 : decode cX11_beside 32 = .ok (.getfield 13, 3) := by decide +kernel
theorem dX11_beside_35 : decode cX11_beside 35 = .ok (.iload 6, 2) := by decide +kernel
theorem dX11_beside_37 : decode cX11_beside 37 = .ok (.i2l, 1) := by decide +kernel
theorem dX11_beside_38 : decode cX11_beside 38 = .ok (.invokestatic 61, 3) := by decide +kernel
theorem dX11_beside_41 : decode cX11_beside 41 = .ok (.aload_n 0, 1) := by decide +kernel
theorem dX11_beside_42 : decode cX11_beside 42 = .ok (.getfield 7, 3) := by decide +kernel
theorem dX11_beside_45 : decode cX11_beside 45 = .ok (.aload_n 0, 1) := by decide +kernel
theorem dX11_beside_46 : decode cX11_beside 46 = .ok (.getfield 13, 3) := by decide +kernel
theorem dX11_beside_49 : decode cX11_beside 49 = .ok (.invokestatic 100, 3) := by decide +kernel
theorem dX11_beside_52 : decode cX11_beside 52 = .ok (.ireturn, 1) := by decide +kernel
set_option maxRecDepth 20000 in
theorem ggX11_odds_X11_isHits : GoodIn wsX11_odds wsX11_isHits := goodIn_r _ [6, 7, 2, 8, 9, 5, 10] (by decide +kernel) (by decide +kernel)
set_option maxRecDepth 20000 in
theorem gX11_odds_X11_isHits : GoodIn wsX11_odds (va_wsS RX11 84 yX11_isHits wsX11_isHits) := goodIn_app (goodIn_of _ (by decide +kernel)) ggX11_odds_X11_isHits
set_option maxRecDepth 20000 in
theorem ggX11_odds_X11_in : GoodIn wsX11_odds wsX11_in := goodIn_r _ [10] (by decide +kernel) (by decide +kernel)
set_option maxRecDepth 20000 in
theorem gX11_odds_X11_in : GoodIn wsX11_odds (va_wsS RX11 78 yX11_in wsX11_in) := goodIn_app (goodIn_of _ (by decide +kernel)) ggX11_odds_X11_in
set_option maxRecDepth 20000 in
theorem ggX11_odds_X11_beside : GoodIn wsX11_odds wsX11_beside := goodIn_r _ [14, 15, 16, 17, 18, 19, 5, 20, 21, 22, 23, 24, 25, 26, 27, 28, 29, 30, 31, 32, 33, 34, 35, 36, 37, 38, 39, 40, 41, 42, 43, 44, 45, 46, 47, 48, 49, 50, 51, 52, 53, 54, 55, 56, 57, 58, 59, 60, 61, 62, 63, 64, 65, 66, 67, 68, 69] (by decide +kernel) (by decide +kernel)
set_option maxRecDepth 20000 in
theorem gX11_odds_X11_beside : GoodIn wsX11_odds (wsV RX11 104 RX11 yX11_beside wsX11_beside) := goodIn_app (goodIn_of _ (by decide +kernel)) ggX11_odds_X11_beside
theorem dX11_odds_0 : decode cX11_odds 0 = .ok (.aload_n 0, 1) := by decide +kernel
theorem dX11_odds_1 : decode cX11_odds 1 = .ok (.iconst 0, 1) := by decide +kernel
theorem dX11_odds_2 : decode cX11_odds 2 = .ok (.putfield 50, 3) := by decide +kernel
theorem dX11_odds_5 : decode cX11_odds 5 = .ok (.iload_n 1, 1) := by decide +kernel
theorem dX11_odds_6 : decode cX11_odds 6 = .ok (.iload_n 2, 1) := by decide +kernel
theorem dX11_odds_7 : decode cX11_odds 7 = .ok (.iload_n 3, 1) := by decide +kernel
theorem dX11_odds_8 : decode cX11_odds 8 = .ok (.iload 4, 2) := by decide +kernel
theorem dX11_odds_10 : decode cX11_odds 10 = .ok (.iload 5, 2) := by decide +kernel
theorem dX11_odds_12 : decode cX11_odds 12 = .ok (.invokestatic 84, 3) := by decide +kernel
theorem dX11_odds_15 : decode cX11_odds 15 = .ok (.ifCond .eq 29, 3) := by decide +kernel
theorem dX11_odds_18 : decode cX11_odds 18 = .ok (.iload 7, 2) := by decide +kernel
theorem dX11_odds_20 : decode cX11_odds 20 = .ok (.i2l, 1) := by decide +kernel
theorem dX11_odds_21 : decode cX11_odds 21 = .ok (.lconst 1, 1) := by decide +kernel
theorem dX11_odds_22 : decode cX11_odds 22 = .ok (.ldc2_w 82, 3) := by decide +kernel
theorem dX11_odds_25 : decode cX11_odds 25 = .ok (.invokestatic 78, 3) := by decide +kernel
theorem dX11_odds_28 : decode cX11_odds 28 = .ok (.ifCond .eq 16, 3) := by decide +kernel
theorem dX11_odds_31 : decode cX11_odds 31 = .ok (.iload 6, 2) := by decide +kernel
theorem dX11_odds_33 : decode cX11_odds 33 = .ok (.i2l, 1) := by decide +kernel
theorem dX11_odds_34 : decode cX11_odds 34 = .ok (.lconst 0, 1) := by decide +kernel
theorem dX11_odds_35 : decode cX11_odds 35 = .ok (.iload 7, 2) := by decide +kernel
theorem dX11_odds_37 : decode cX11_odds 37 = .ok (.i2l, 1) := by decide +kernel
theorem dX11_odds_38 : decode cX11_odds 38 = .ok (.invokestatic 78, 3) := by decide +kernel
theorem dX11_odds_41 : decode cX11_odds 41 = .ok (.ifCond .ne 5, 3) := by decide +kernel
theorem dX11_odds_44 : decode cX11_odds 44 = .ok (.iconst (-1), 1) := by decide +kernel
theorem dX11_odds_45 : decode cX11_odds 45 = .ok (.ireturn, 1) := by decide +kernel
theorem dX11_odds_46 : decode cX11_odds 46 = .ok (.iconst 1, 1) := by decide +kernel
theorem dX11_odds_47 : decode cX11_odds 47 = .ok (.aload_n 0, 1) := by decide +kernel
theorem dX11_odds_48 : decode cX11_odds 48 = .ok (.iload_n 1, 1) := by decide +kernel
theorem dX11_odds_49 : decode cX11_odds 49 = .ok (.iload_n 2, 1) := by decide +kernel
theorem dX11_odds_50 : decode cX11_odds 50 = .ok (.iload_n 3, 1) := by decide +kernel
theorem dX11_odds_51 : decode cX11_odds 51 = .ok (.iload 4, 2) := by decide +kernel
theorem dX11_odds_53 : decode cX11_odds 53 = .ok (.iload 5, 2) := by decide +kernel
theorem dX11_odds_55 : decode cX11_odds 55 = .ok (.iload 6, 2) := by decide +kernel
theorem dX11_odds_57 : decode cX11_odds 57 = .ok (.iload 7, 2) := by decide +kernel
theorem dX11_odds_59 : decode cX11_odds 59 = .ok (.invokevirtual 104, 3) := by decide +kernel
theorem dX11_odds_62 : decode cX11_odds 62 = .ok (.iadd, 1) := by decide +kernel
theorem dX11_odds_63 : decode cX11_odds 63 = .ok (.ireturn, 1) := by decide +kernel
set_option maxRecDepth 20000 in
theorem ggX11_isTrust_X11_in : GoodIn wsX11_isTrust wsX11_in := goodIn_r _ [6] (by decide +kernel) (by decide +kernel)
set_option maxRecDepth 20000 in
theorem gX11_isTrust_X11_in : GoodIn wsX11_isTrust (va_wsS RX11 78 yX11_in wsX11_in) := goodIn_app (goodIn_of _ (by decide +kernel)) ggX11_isTrust_X11_in
theorem dX11_isTrust_0 : decode cX11_isTrust 0 = .ok (.iload_n 1, 1) := by decide +kernel
theorem dX11_isTrust_1 : decode cX11_isTrust 1 = .ok (.i2l, 1) := by decide +kernel
theorem dX11_isTrust_2 : decode cX11_isTrust 2 = .ok (.ldc2_w 108, 3) := by decide +kernel
theorem dX11_isTrust_5 : decode cX11_isTrust 5 = .ok (.ldc2_w 82, 3) := by decide +kernel
theorem dX11_isTrust_8 : decode cX11_isTrust 8 = .ok (.invokestatic 78, 3) := by decide +kernel
theorem dX11_isTrust_11 : decode cX11_isTrust 11 = .ok (.ifCond .eq 20, 3) := by decide +kernel
theorem dX11_isTrust_14 : decode cX11_isTrust 14 = .ok (.iload_n 0, 1) := by decide +kernel
theorem dX11_isTrust_15 : decode cX11_isTrust 15 = .ok (.i2l, 1) := by decide +kernel
theorem dX11_isTrust_16 : decode cX11_isTrust 16 = .ok (.lconst 1, 1) := by decide +kernel
theorem dX11_isTrust_17 : decode cX11_isTrust 17 = .ok (.iload_n 1, 1) := by decide +kernel
theorem dX11_isTrust_18 : decode cX11_isTrust 18 = .ok (.iconst 1, 1) := by decide +kernel
theorem dX11_isTrust_19 : decode cX11_isTrust 19 = .ok (.isub, 1) := by decide +kernel
theorem dX11_isTrust_20 : decode cX11_isTrust 20 = .ok (.i2l, 1) := by decide +kernel
theorem dX11_isTrust_21 : decode cX11_isTrust 21 = .ok (.invokestatic 78, 3) := by decide +kernel
theorem dX11_isTrust_24 : decode cX11_isTrust 24 = .ok (.ifCond .eq 7, 3) := by decide +kernel
theorem dX11_isTrust_27 : decode cX11_isTrust 27 = .ok (.iconst 1, 1) := by decide +kernel
theorem dX11_isTrust_28 : decode cX11_isTrust 28 = .ok (.goto 4, 3) := by decide +kernel
theorem dX11_isTrust_31 : decode cX11_isTrust 31 = .ok (.iconst 0, 1) := by decide +kernel
theorem dX11_isTrust_32 : decode cX11_isTrust 32 = .ok (.ireturn, 1) := by decide +kernel
set_option maxRecDepth 20000 in
theorem ggX11_bound_X11_in : GoodIn wsX11_bound wsX11_in := goodIn_r _ [6] (by decide +kernel) (by decide +kernel)
set_option maxRecDepth 20000 in
theorem gX11_bound_X11_in : GoodIn wsX11_bound (va_wsS RX11 78 yX11_in wsX11_in) := goodIn_app (goodIn_of _ (by decide +kernel)) ggX11_bound_X11_in
set_option maxRecDepth 20000 in
theorem ggX11_bound_X11_isTrust : GoodIn wsX11_bound wsX11_isTrust := goodIn_r _ [9, 10, 11, 3, 4, 5, 6] (by decide +kernel) (by decide +kernel)
set_option maxRecDepth 20000 in
theorem gX11_bound_X11_isTrust : GoodIn wsX11_bound (va_wsS RX11 110 yX11_isTrust wsX11_isTrust) := goodIn_app (goodIn_of _ (by decide +kernel)) ggX11_bound_X11_isTrust
set_option maxRecDepth 20000 in
theorem ggX11_bound_X11_beside : GoodIn wsX11_bound wsX11_beside := goodIn_r _ [15, 16, 17, 18, 19, 20, 5, 21, 22, 23, 24, 25, 26, 27, 28, 29, 30, 31, 32, 33, 34, 35, 36, 37, 38, 39, 40, 41, 42, 43, 44, 45, 46, 47, 48, 49, 50, 51, 52, 53, 54, 55, 56, 57, 58, 59, 60, 61, 62, 63, 64, 65, 66, 67, 68, 69, 70] (by decide +kernel) (by decide +kernel)
set_option maxRecDepth 20000 in
theorem gX11_bound_X11_beside : GoodIn wsX11_bound (wsV RX11 104 RX11 yX11_beside wsX11_beside) := goodIn_app (goodIn_of _ (by decide +kernel)) ggX11_bound_X11_beside
theorem dX11_bound_0 : decode cX11_bound 0 = .ok (.aload_n 0, 1) := by decide +kernel
theorem dX11_bound_1 : decode cX11_bound 1 = .ok (.iconst 0, 1) := by decide +kernel
theorem dX11_bound_2 : decode cX11_bound 2 = .ok (.putfield 50, 3) := by decide +kernel
theorem dX11_bound_5 : decode cX11_bound 5 = .ok (.iload_n 1, 1) := by decide +kernel
theorem dX11_bound_6 : decode cX11_bound 6 = .ok (.i2l, 1) := by decide +kernel
theorem dX11_bound_7 : decode cX11_bound 7 = .ok (.lconst 1, 1) := by decide +kernel
theorem dX11_bound_8 : decode cX11_bound 8 = .ok (.ldc2_w 76, 3) := by decide +kernel
theorem dX11_bound_11 : decode cX11_bound 11 = .ok (.invokestatic 78, 3) := by decide +kernel
theorem dX11_bound_14 : decode cX11_bound 14 = .ok (.ifCond .eq 24, 3) := by decide +kernel
theorem dX11_bound_17 : decode cX11_bound 17 = .ok (.iload_n 2, 1) := by decide +kernel
theorem dX11_bound_18 : decode cX11_bound 18 = .ok (.i2l, 1) := by decide +kernel
theorem dX11_bound_19 : decode cX11_bound 19 = .ok (.lconst 0, 1) := by decide +kernel
theorem dX11_bound_20 : decode cX11_bound 20 = .ok (.iload_n 1, 1) := by decide +kernel
theorem dX11_bound_21 : decode cX11_bound 21 = .ok (.i2l, 1) := by decide +kernel
theorem dX11_bound_22 : decode cX11_bound 22 = .ok (.invokestatic 78, 3) := by decide +kernel
theorem dX11_bound_25 : decode cX11_bound 25 = .ok (.ifCond .eq 13, 3) := by decide +kernel
theorem dX11_bound_28 : decode cX11_bound 28 = .ok (.iload_n 3, 1) := by decide +kernel
theorem dX11_bound_29 : decode cX11_bound 29 = .ok (.i2l, 1) := by decide +kernel
theorem dX11_bound_30 : decode cX11_bound 30 = .ok (.lconst 0, 1) := by decide +kernel
theorem dX11_bound_31 : decode cX11_bound 31 = .ok (.lconst 1, 1) := by decide +kernel
theorem dX11_bound_32 : decode cX11_bound 32 = .ok (.invokestatic 78, 3) := by decide +kernel
theorem dX11_bound_35 : decode cX11_bound 35 = .ok (.ifCond .ne 5, 3) := by decide +kernel
theorem dX11_bound_38 : decode cX11_bound 38 = .ok (.iconst (-1), 1) := by decide +kernel
theorem dX11_bound_39 : decode cX11_bound 39 = .ok (.ireturn, 1) := by decide +kernel
theorem dX11_bound_40 : decode cX11_bound 40 = .ok (.iload 4, 2) := by decide +kernel
theorem dX11_bound_42 : decode cX11_bound 42 = .ok (.iload 5, 2) := by decide +kernel
theorem dX11_bound_44 : decode cX11_bound 44 = .ok (.invokestatic 110, 3) := by decide +kernel
theorem dX11_bound_47 : decode cX11_bound 47 = .ok (.ifCond .ne 10, 3) := by decide +kernel
theorem dX11_bound_50 : decode cX11_bound 50 = .ok (.aload_n 0, 1) := by decide +kernel
theorem dX11_bound_51 : decode cX11_bound 51 = .ok (.iconst 1, 1) := by decide +kernel
theorem dX11_bound_52 : decode cX11_bound 52 = .ok (.putfield 50, 3) := by decide +kernel
theorem dX11_bound_55 : decode cX11_bound 55 = .ok (.iconst 0, 1) := by decide +kernel
theorem dX11_bound_56 : decode cX11_bound 56 = .ok (.ireturn, 1) := by decide +kernel
theorem dX11_bound_57 : decode cX11_bound 57 = .ok (.iconst 0, 1) := by decide +kernel
theorem dX11_bound_58 : decode cX11_bound 58 = .ok (.istore 6, 2) := by decide +kernel
theorem dX11_bound_60 : decode cX11_bound 60 = .ok (.sipush 1000, 3) := by decide +kernel
theorem dX11_bound_63 : decode cX11_bound 63 = .ok (.istore 7, 2) := by decide +kernel
theorem dX11_bound_65 : decode cX11_bound 65 = .ok (.iload 6, 2) := by decide +kernel
theorem dX11_bound_67 : decode cX11_bound 67 = .ok (.iload 7, 2) := by decide +kernel
theorem dX11_bound_69 : decode cX11_bound 69 = .ok (.if_icmp .ge 126, 3) := by decide +kernel
theorem dX11_bound_72 : decode cX11_bound 72 = .ok (.iload_n 3, 1) := by decide +kernel
theorem dX11_bound_73 : decode cX11_bound 73 = .ok (.ifCond .ne 13, 3) := by decide +kernel
theorem dX11_bound_76 : decode cX11_bound 76 = .ok (.iload 6, 2) := by decide +kernel
theorem dX11_bound_78 : decode cX11_bound 78 = .ok (.iload 7, 2) := by decide +kernel
theorem dX11_bound_80 : decode cX11_bound 80 = .ok (.iadd, 1) := by decide +kernel
theorem dX11_bound_81 : decode cX11_bound 81 = .ok (.iconst 2, 1) := by decide +kernel
theorem dX11_bound_82 : decode cX11_bound 82 = .ok (.idiv, 1) := by decide +kernel
theorem dX11_bound_83 : decode cX11_bound 83 = .ok (.goto 12, 3) := by decide +kernel
theorem dX11_bound_86 : decode cX11_bound 86 = .ok (.iload 6, 2) := by decide +kernel
theorem dX11_bound_88 : decode cX11_bound 88 = .ok (.iload 7, 2) := by decide +kernel
theorem dX11_bound_90 : decode cX11_bound 90 = .ok (.iadd, 1) := by decide +kernel
theorem dX11_bound_91 : decode cX11_bound 91 = .ok (.iconst 1, 1) := by decide +kernel
theorem dX11_bound_92 : decode cX11_bound 92 = .ok (.iadd, 1) := by decide +kernel
theorem dX11_bound_93 : decode cX11_bound 93 = .ok (.iconst 2, 1) := by decide +kernel
theorem dX11_bound_94 : decode cX11_bound 94 = .ok (.idiv, 1) := by decide +kernel
theorem dX11_bound_95 : decode cX11_bound 95 = .ok (.istore 8, 2) := by decide +kernel
theorem dX11_bound_97 : decode cX11_bound 97 = .ok (.aload_n 0, 1) := by decide +kernel
theorem dX11_bound_98 : decode cX11_bound 98 = .ok (.iload_n 1, 1) := by decide +kernel
theorem dX11_bound_99 : decode cX11_bound 99 = .ok (.iload_n 2, 1) := by decide +kernel
theorem dX11_bound_100 : decode cX11_bound 100 = .ok (.iload 8, 2) := by decide +kernel
theorem dX11_bound_102 : decode cX11_bound 102 = .ok (.sipush 1000, 3) := by decide +kernel
theorem dX11_bound_105 : decode cX11_bound 105 = .ok (.iconst 1, 1) := by decide +kernel
theorem dX11_bound_106 : decode cX11_bound 106 = .ok (.iload_n 3, 1) := by decide +kernel
theorem dX11_bound_107 : decode cX11_bound 107 = .ok (.isub, 1) := by decide +kernel
theorem dX11_bound_108 : decode cX11_bound 108 = .ok (.iload 4, 2) := by decide +kernel
theorem dX11_bound_110 : decode cX11_bound 110 = .ok (.iload 5, 2) := by decide +kernel
theorem dX11_bound_112 : decode cX11_bound 112 = .ok (.invokevirtual 104, 3) := by decide +kernel
theorem dX11_bound_115 : decode cX11_bound 115 = .ok (.ifCond .gt 7, 3) := by decide +kernel
theorem dX11_bound_118 : decode cX11_bound 118 = .ok (.iconst 1, 1) := by decide +kernel
theorem dX11_bound_119 : decode cX11_bound 119 = .ok (.goto 4, 3) := by decide +kernel
theorem dX11_bound_122 : decode cX11_bound 122 = .ok (.iconst 0, 1) := by decide +kernel
theorem dX11_bound_123 : decode cX11_bound 123 = .ok (.istore 9, 2) := by decide +kernel
theorem dX11_bound_125 : decode cX11_bound 125 = .ok (.iload_n 3, 1) := by decide +kernel
theorem dX11_bound_126 : decode cX11_bound 126 = .ok (.ifCond .ne 36, 3) := by decide +kernel
theorem dX11_bound_129 : decode cX11_bound 129 = .ok (.iload 9, 2) := by decide +kernel
theorem dX11_bound_131 : decode cX11_bound 131 = .ok (.ifCond .eq 8, 3) := by decide +kernel
theorem dX11_bound_134 : decode cX11_bound 134 = .ok (.iload 8, 2) := by decide +kernel
theorem dX11_bound_136 : decode cX11_bound 136 = .ok (.goto 5, 3) := by decide +kernel
theorem dX11_bound_139 : decode cX11_bound 139 = .ok (.iload 7, 2) := by decide +kernel
theorem dX11_bound_141 : decode cX11_bound 141 = .ok (.istore 7, 2) := by decide +kernel
theorem dX11_bound_143 : decode cX11_bound 143 = .ok (.iload 9, 2) := by decide +kernel
theorem dX11_bound_145 : decode cX11_bound 145 = .ok (.ifCond .eq 8, 3) := by decide +kernel
theorem dX11_bound_148 : decode cX11_bound 148 = .ok (.iload 6, 2) := by decide +kernel
theorem dX11_bound_150 : decode cX11_bound 150 = .ok (.goto 7, 3) := by decide +kernel
theorem dX11_bound_153 : decode cX11_bound 153 = .ok (.iload 8, 2) := by decide +kernel
theorem dX11_bound_155 : decode cX11_bound 155 = .ok (.iconst 1, 1) := by decide +kernel
theorem dX11_bound_156 : decode cX11_bound 156 = .ok (.iadd, 1) := by decide +kernel
theorem dX11_bound_157 : decode cX11_bound 157 = .ok (.istore 6, 2) := by decide +kernel
theorem dX11_bound_159 : decode cX11_bound 159 = .ok (.goto 33, 3) := by decide +kernel
theorem dX11_bound_162 : decode cX11_bound 162 = .ok (.iload 9, 2) := by decide +kernel
theorem dX11_bound_164 : decode cX11_bound 164 = .ok (.ifCond .eq 8, 3) := by decide +kernel
theorem dX11_bound_167 : decode cX11_bound 167 = .ok (.iload 8, 2) := by decide +kernel
theorem dX11_bound_169 : decode cX11_bound 169 = .ok (.goto 5, 3) := by decide +kernel
theorem dX11_bound_172 : decode cX11_bound 172 = .ok (.iload 6, 2) := by decide +kernel
theorem dX11_bound_174 : decode cX11_bound 174 = .ok (.istore 6, 2) := by decide +kernel
theorem dX11_bound_176 : decode cX11_bound 176 = .ok (.iload 9, 2) := by decide +kernel
theorem dX11_bound_178 : decode cX11_bound 178 = .ok (.ifCond .eq 8, 3) := by decide +kernel
theorem dX11_bound_181 : decode cX11_bound 181 = .ok (.iload 7, 2) := by decide +kernel
theorem dX11_bound_183 : decode cX11_bound 183 = .ok (.goto 7, 3) := by decide +kernel
theorem dX11_bound_186 : decode cX11_bound 186 = .ok (.iload 8, 2) := by decide +kernel
theorem dX11_bound_188 : decode cX11_bound 188 = .ok (.iconst 1, 1) := by decide +kernel
theorem dX11_bound_189 : decode cX11_bound 189 = .ok (.isub, 1) := by decide +kernel
theorem dX11_bound_190 : decode cX11_bound 190 = .ok (.istore 7, 2) := by decide +kernel
theorem dX11_bound_192 : decode cX11_bound 192 = .ok (.goto (-127), 3) := by decide +kernel
theorem dX11_bound_195 : decode cX11_bound 195 = .ok (.iload 6, 2) := by decide +kernel
theorem dX11_bound_197 : decode cX11_bound 197 = .ok (.ireturn, 1) := by decide +kernel
theorem dX11_unite_0 : decode cX11_unite 0 = .ok (.aload_n 0, 1) := by decide +kernel
theorem dX11_unite_1 : decode cX11_unite 1 = .ok (.iconst 0, 1) := by decide +kernel
theorem dX11_unite_2 : decode cX11_unite 2 = .ok (.putfield 114, 3) := by decide +kernel
theorem dX11_unite_5 : decode cX11_unite 5 = .ok (.iconst 0, 1) := by decide +kernel
theorem dX11_unite_6 : decode cX11_unite 6 = .ok (.istore_n 2, 1) := by decide +kernel
theorem dX11_unite_7 : decode cX11_unite 7 = .ok (.iload_n 2, 1) := by decide +kernel
theorem dX11_unite_8 : decode cX11_unite 8 = .ok (.iload_n 1, 1) := by decide +kernel
theorem dX11_unite_9 : decode cX11_unite 9 = .ok (.ifCond .eq 8, 3) := by decide +kernel
theorem dX11_unite_12 : decode cX11_unite 12 = .ok (.bipush 8, 2) := by decide +kernel
theorem dX11_unite_14 : decode cX11_unite 14 = .ok (.goto 7, 3) := by decide +kernel
theorem dX11_unite_17 : decode cX11_unite 17 = .ok (.aload_n 0, 1) := by decide +kernel
theorem dX11_unite_18 : decode cX11_unite 18 = .ok (.getfield 117, 3) := by decide +kernel
theorem dX11_unite_21 : decode cX11_unite 21 = .ok (.if_icmp .ge 113, 3) := by decide +kernel
theorem dX11_unite_24 : decode cX11_unite 24 = .ok (.iconst 0, 1) := by decide +kernel
theorem dX11_unite_25 : decode cX11_unite 25 = .ok (.istore_n 3, 1) := by decide +kernel
theorem dX11_unite_26 : decode cX11_unite 26 = .ok (.iconst 0, 1) := by decide +kernel
theorem dX11_unite_27 : decode cX11_unite 27 = .ok (.istore 4, 2) := by decide +kernel
theorem dX11_unite_29 : decode cX11_unite 29 = .ok (.iconst 0, 1) := by decide +kernel
theorem dX11_unite_30 : decode cX11_unite 30 = .ok (.istore 5, 2) := by decide +kernel
theorem dX11_unite_32 : decode cX11_unite 32 = .ok (.iload 5, 2) := by decide +kernel
theorem dX11_unite_34 : decode cX11_unite 34 = .ok (.aload_n 0, 1) := by decide +kernel
theorem dX11_unite_35 : decode cX11_unite 35 = .ok (.getfield 117, 3) := by decide +kernel
theorem dX11_unite_38 : decode cX11_unite 38 = .ok (.if_icmp .ge 54, 3) := by decide +kernel
theorem dX11_unite_41 : decode cX11_unite 41 = .ok (.iload_n 1, 1) := by decide +kernel
theorem dX11_unite_42 : decode cX11_unite 42 = .ok (.ifCond .eq 17, 3) := by decide +kernel
theorem dX11_unite_45 : decode cX11_unite 45 = .ok (.aload_n 0, 1) := by decide +kernel
theorem dX11_unite_46 : decode cX11_unite 46 = .ok (.getfield 16, 3) := by decide +kernel
theorem dX11_unite_49 : decode cX11_unite 49 = .ok (.iload 5, 2) := by decide +kernel
theorem dX11_unite_51 : decode cX11_unite 51 = .ok (.iaload, 1) := by decide +kernel
theorem dX11_unite_52 : decode cX11_unite 52 = .ok (.iload_n 2, 1) := by decide +kernel
theorem dX11_unite_53 : decode cX11_unite 53 = .ok (.if_icmp .ne 33, 3) := by decide +kernel
theorem dX11_unite_56 : decode cX11_unite 56 = .ok (.goto 9, 3) := by decide +kernel
theorem dX11_unite_59 : decode cX11_unite 59 = .ok (.iload 5, 2) := by decide +kernel
theorem dX11_unite_61 : decode cX11_unite 61 = .ok (.iload_n 2, 1) := by decide +kernel
theorem dX11_unite_62 : decode cX11_unite 62 = .ok (.if_icmp .ne 24, 3) := by decide +kernel
theorem dX11_unite_65 : decode cX11_unite 65 = .ok (.iload_n 3, 1) := by decide +kernel
theorem dX11_unite_66 : decode cX11_unite 66 = .ok (.aload_n 0, 1) := by decide +kernel
theorem dX11_unite_67 : decode cX11_unite 67 = .ok (.getfield 19, 3) := by decide +kernel
theorem dX11_unite_70 : decode cX11_unite 70 = .ok (.iload 5, 2) := by decide +kernel
theorem dX11_unite_72 : decode cX11_unite 72 = .ok (.iaload, 1) := by decide +kernel
theorem dX11_unite_73 : decode cX11_unite 73 = .ok (.aload_n 0, 1) := by decide +kernel
theorem dX11_unite_74 : decode cX11_unite 74 = .ok (.getfield 22, 3) := by decide +kernel
theorem dX11_unite_77 : decode cX11_unite 77 = .ok (.iload 5, 2) := by decide +kernel
theorem dX11_unite_79 : decode cX11_unite 79 = .ok (.iaload, 1) := by decide +kernel
theorem dX11_unite_80 : decode cX11_unite 80 = .ok (.isub, 1) := by decide +kernel
theorem dX11_unite_81 : decode cX11_unite 81 = .ok (.iadd, 1) := by decide +kernel
theorem dX11_unite_82 : decode cX11_unite 82 = .ok (.istore_n 3, 1) := by decide +kernel
theorem dX11_unite_83 : decode cX11_unite 83 = .ok (.iinc 4 1, 3) := by decide +kernel
theorem dX11_unite_86 : decode cX11_unite 86 = .ok (.iinc 5 1, 3) := by decide +kernel
theorem dX11_unite_89 : decode cX11_unite 89 = .ok (.goto (-57), 3) := by decide +kernel
theorem dX11_unite_92 : decode cX11_unite 92 = .ok (.iload 4, 2) := by decide +kernel
theorem dX11_unite_94 : decode cX11_unite 94 = .ok (.ifCond .le 34, 3) := by decide +kernel
theorem dX11_unite_97 : decode cX11_unite 97 = .ok (.aload_n 0, 1) := by decide +kernel
theorem dX11_unite_98 : decode cX11_unite 98 = .ok (.getfield 25, 3) := by decide +kernel
theorem dX11_unite_101 : decode cX11_unite 101 = .ok (.aload_n 0, 1) := by decide +kernel
theorem dX11_unite_102 : decode cX11_unite 102 = .ok (.getfield 114, 3) := by decide +kernel
theorem dX11_unite_105 : decode cX11_unite 105 = .ok (.iload_n 3, 1) := by decide +kernel
theorem dX11_unite_106 : decode cX11_unite 106 = .ok (.iastore, 1) := by decide +kernel
theorem dX11_unite_107 : decode cX11_unite 107 = .ok (.aload_n 0, 1) := by decide +kernel
theorem dX11_unite_108 : decode cX11_unite 108 = .ok (.getfield 28, 3) := by decide +kernel
theorem dX11_unite_111 : decode cX11_unite 111 = .ok (.aload_n 0, 1) := by decide +kernel
theorem dX11_unite_112 : decode cX11_unite 112 = .ok (.getfield 114, 3) := by decide +kernel
theorem dX11_unite_115 : decode cX11_unite 115 = .ok (.iload 4, 2) := by decide +kernel
theorem dX11_unite_117 : decode cX11_unite 117 = .ok (.iastore, 1) := by decide +kernel
theorem dX11_unite_118 : decode cX11_unite 118 = .ok (.aload_n 0, 1) := by decide +kernel
theorem dX11_unite_119 : decode cX11_unite 119 = .ok (.dup, 1) := by decide +kernel
theorem dX11_unite_120 : decode cX11_unite 120 = .ok (.getfield 114, 3) := by decide +kernel
theorem dX11_unite_123 : decode cX11_unite 123 = .ok (.iconst 1, 1) := by decide +kernel
theorem dX11_unite_124 : decode cX11_unite 124 = .ok (.iadd, 1) := by decide +kernel
theorem dX11_unite_125 : decode cX11_unite 125 = .ok (.putfield 114, 3) := by decide +kernel
theorem dX11_unite_128 : decode cX11_unite 128 = .ok (.iinc 2 1, 3) := by decide +kernel
theorem dX11_unite_131 : decode cX11_unite 131 = .ok (.goto (-124), 3) := by decide +kernel
theorem dX11_unite_134 : decode cX11_unite 134 = .ok (.return_, 1) := by decide +kernel
set_option maxRecDepth 20000 in
theorem ggX11_row_X11_in : GoodIn wsX11_row wsX11_in := goodIn_r _ [11] (by decide +kernel) (by decide +kernel)
set_option maxRecDepth 20000 in
theorem gX11_row_X11_in : GoodIn wsX11_row (va_wsS RX11 78 yX11_in wsX11_in) := goodIn_app (goodIn_of _ (by decide +kernel)) ggX11_row_X11_in
theorem dX11_row_0 : decode cX11_row 0 = .ok (.aload_n 0, 1) := by decide +kernel
theorem dX11_row_1 : decode cX11_row 1 = .ok (.iconst 0, 1) := by decide +kernel
theorem dX11_row_2 : decode cX11_row 2 = .ok (.putfield 50, 3) := by decide +kernel
theorem dX11_row_5 : decode cX11_row 5 = .ok (.iload_n 1, 1) := by decide +kernel
theorem dX11_row_6 : decode cX11_row 6 = .ok (.i2l, 1) := by decide +kernel
theorem dX11_row_7 : decode cX11_row 7 = .ok (.lconst 0, 1) := by decide +kernel
theorem dX11_row_8 : decode cX11_row 8 = .ok (.ldc2_w 120, 3) := by decide +kernel
theorem dX11_row_11 : decode cX11_row 11 = .ok (.invokestatic 78, 3) := by decide +kernel
theorem dX11_row_14 : decode cX11_row 14 = .ok (.ifCond .eq 27, 3) := by decide +kernel
theorem dX11_row_17 : decode cX11_row 17 = .ok (.iload_n 2, 1) := by decide +kernel
theorem dX11_row_18 : decode cX11_row 18 = .ok (.i2l, 1) := by decide +kernel
theorem dX11_row_19 : decode cX11_row 19 = .ok (.lconst 0, 1) := by decide +kernel
theorem dX11_row_20 : decode cX11_row 20 = .ok (.ldc2_w 122, 3) := by decide +kernel
theorem dX11_row_23 : decode cX11_row 23 = .ok (.invokestatic 78, 3) := by decide +kernel
theorem dX11_row_26 : decode cX11_row 26 = .ok (.ifCond .eq 15, 3) := by decide +kernel
theorem dX11_row_29 : decode cX11_row 29 = .ok (.iload_n 3, 1) := by decide +kernel
theorem dX11_row_30 : decode cX11_row 30 = .ok (.i2l, 1) := by decide +kernel
theorem dX11_row_31 : decode cX11_row 31 = .ok (.lconst 0, 1) := by decide +kernel
theorem dX11_row_32 : decode cX11_row 32 = .ok (.ldc2_w 122, 3) := by decide +kernel
theorem dX11_row_35 : decode cX11_row 35 = .ok (.invokestatic 78, 3) := by decide +kernel
theorem dX11_row_38 : decode cX11_row 38 = .ok (.ifCond .ne 5, 3) := by decide +kernel
theorem dX11_row_41 : decode cX11_row 41 = .ok (.iconst (-1), 1) := by decide +kernel
theorem dX11_row_42 : decode cX11_row 42 = .ok (.ireturn, 1) := by decide +kernel
theorem dX11_row_43 : decode cX11_row 43 = .ok (.aload_n 0, 1) := by decide +kernel
theorem dX11_row_44 : decode cX11_row 44 = .ok (.getfield 117, 3) := by decide +kernel
theorem dX11_row_47 : decode cX11_row 47 = .ok (.bipush 30, 2) := by decide +kernel
theorem dX11_row_49 : decode cX11_row 49 = .ok (.if_icmp .ne 6, 3) := by decide +kernel
theorem dX11_row_52 : decode cX11_row 52 = .ok (.bipush (-2), 2) := by decide +kernel
theorem dX11_row_54 : decode cX11_row 54 = .ok (.ireturn, 1) := by decide +kernel
theorem dX11_row_55 : decode cX11_row 55 = .ok (.aload_n 0, 1) := by decide +kernel
theorem dX11_row_56 : decode cX11_row 56 = .ok (.getfield 16, 3) := by decide +kernel
theorem dX11_row_59 : decode cX11_row 59 = .ok (.aload_n 0, 1) := by decide +kernel
theorem dX11_row_60 : decode cX11_row 60 = .ok (.getfield 117, 3) := by decide +kernel
theorem dX11_row_63 : decode cX11_row 63 = .ok (.iload_n 1, 1) := by decide +kernel
theorem dX11_row_64 : decode cX11_row 64 = .ok (.iastore, 1) := by decide +kernel
theorem dX11_row_65 : decode cX11_row 65 = .ok (.aload_n 0, 1) := by decide +kernel
theorem dX11_row_66 : decode cX11_row 66 = .ok (.getfield 19, 3) := by decide +kernel
theorem dX11_row_69 : decode cX11_row 69 = .ok (.aload_n 0, 1) := by decide +kernel
theorem dX11_row_70 : decode cX11_row 70 = .ok (.getfield 117, 3) := by decide +kernel
theorem dX11_row_73 : decode cX11_row 73 = .ok (.iload_n 2, 1) := by decide +kernel
theorem dX11_row_74 : decode cX11_row 74 = .ok (.iastore, 1) := by decide +kernel
theorem dX11_row_75 : decode cX11_row 75 = .ok (.aload_n 0, 1) := by decide +kernel
theorem dX11_row_76 : decode cX11_row 76 = .ok (.getfield 22, 3) := by decide +kernel
theorem dX11_row_79 : decode cX11_row 79 = .ok (.aload_n 0, 1) := by decide +kernel
theorem dX11_row_80 : decode cX11_row 80 = .ok (.getfield 117, 3) := by decide +kernel
theorem dX11_row_83 : decode cX11_row 83 = .ok (.iload_n 3, 1) := by decide +kernel
theorem dX11_row_84 : decode cX11_row 84 = .ok (.iastore, 1) := by decide +kernel
theorem dX11_row_85 : decode cX11_row 85 = .ok (.aload_n 0, 1) := by decide +kernel
theorem dX11_row_86 : decode cX11_row 86 = .ok (.dup, 1) := by decide +kernel
theorem dX11_row_87 : decode cX11_row 87 = .ok (.getfield 117, 3) := by decide +kernel
theorem dX11_row_90 : decode cX11_row 90 = .ok (.iconst 1, 1) := by decide +kernel
theorem dX11_row_91 : decode cX11_row 91 = .ok (.iadd, 1) := by decide +kernel
theorem dX11_row_92 : decode cX11_row 92 = .ok (.putfield 117, 3) := by decide +kernel
theorem dX11_row_95 : decode cX11_row 95 = .ok (.aload_n 0, 1) := by decide +kernel
theorem dX11_row_96 : decode cX11_row 96 = .ok (.getfield 117, 3) := by decide +kernel
theorem dX11_row_99 : decode cX11_row 99 = .ok (.ireturn, 1) := by decide +kernel
theorem dX11_drop_0 : decode cX11_drop 0 = .ok (.aload_n 0, 1) := by decide +kernel
theorem dX11_drop_1 : decode cX11_drop 1 = .ok (.iconst 0, 1) := by decide +kernel
theorem dX11_drop_2 : decode cX11_drop 2 = .ok (.putfield 50, 3) := by decide +kernel
theorem dX11_drop_5 : decode cX11_drop 5 = .ok (.aload_n 0, 1) := by decide +kernel
theorem dX11_drop_6 : decode cX11_drop 6 = .ok (.getfield 117, 3) := by decide +kernel
theorem dX11_drop_9 : decode cX11_drop 9 = .ok (.ifCond .ne 6, 3) := by decide +kernel
theorem dX11_drop_12 : decode cX11_drop 12 = .ok (.bipush (-3), 2) := by decide +kernel
theorem dX11_drop_14 : decode cX11_drop 14 = .ok (.ireturn, 1) := by decide +kernel
theorem dX11_drop_15 : decode cX11_drop 15 = .ok (.aload_n 0, 1) := by decide +kernel
theorem dX11_drop_16 : decode cX11_drop 16 = .ok (.dup, 1) := by decide +kernel
theorem dX11_drop_17 : decode cX11_drop 17 = .ok (.getfield 117, 3) := by decide +kernel
theorem dX11_drop_20 : decode cX11_drop 20 = .ok (.iconst 1, 1) := by decide +kernel
theorem dX11_drop_21 : decode cX11_drop 21 = .ok (.isub, 1) := by decide +kernel
theorem dX11_drop_22 : decode cX11_drop 22 = .ok (.putfield 117, 3) := by decide +kernel
theorem dX11_drop_25 : decode cX11_drop 25 = .ok (.aload_n 0, 1) := by decide +kernel
theorem dX11_drop_26 : decode cX11_drop 26 = .ok (.getfield 117, 3) := by decide +kernel
theorem dX11_drop_29 : decode cX11_drop 29 = .ok (.ireturn, 1) := by decide +kernel
set_option maxRecDepth 20000 in
theorem ggX11_turned_X11_in : GoodIn wsX11_turned wsX11_in := goodIn_r _ [12] (by decide +kernel) (by decide +kernel)
set_option maxRecDepth 20000 in
theorem gX11_turned_X11_in : GoodIn wsX11_turned (va_wsS RX11 78 yX11_in wsX11_in) := goodIn_app (goodIn_of _ (by decide +kernel)) ggX11_turned_X11_in
set_option maxRecDepth 20000 in
theorem ggX11_turned_X11_unite : GoodIn wsX11_turned wsX11_unite := goodIn_r _ [16, 5, 17, 18, 19, 20, 6, 21, 22, 23, 24, 25, 26, 27, 28, 29, 30, 31, 32, 33, 34, 35, 36, 37, 38, 39, 40, 41, 42, 43, 44, 45, 46, 47] (by decide +kernel) (by decide +kernel)
set_option maxRecDepth 20000 in
theorem gX11_turned_X11_unite : GoodIn wsX11_turned (wsV RX11 124 RX11 yX11_unite wsX11_unite) := goodIn_app (goodIn_of _ (by decide +kernel)) ggX11_turned_X11_unite
theorem dX11_turned_0 : decode cX11_turned 0 = .ok (.aload_n 0, 1) := by decide +kernel
end
section
theorem dX11_turned_1 : decode cX11_turned 1 = .ok (.iconst 0, 1) := by decide +kernel
theorem dX11_turned_2 : decode cX11_turned 2 = .ok (.putfield 50, 3) := by decide +kernel
theorem dX11_turned_5 : decode cX11_turned 5 = .ok (.iload_n 2, 1) := by decide +kernel
theorem dX11_turned_6 : decode cX11_turned 6 = .ok (.i2l, 1) := by decide +kernel
theorem dX11_turned_7 : decode cX11_turned 7 = .ok (.lconst 0, 1) := by decide +kernel
theorem dX11_turned_8 : decode cX11_turned 8 = .ok (.ldc2_w 108, 3) := by decide +kernel
theorem dX11_turned_11 : decode cX11_turned 11 = .ok (.invokestatic 78, 3) := by decide +kernel
theorem dX11_turned_14 : decode cX11_turned 14 = .ok (.ifCond .ne 7, 3) := by decide +kernel
theorem dX11_turned_17 : decode cX11_turned 17 = .ok (.ldc2_w 90, 3) := by decide +kernel
theorem dX11_turned_20 : decode cX11_turned 20 = .ok (.lreturn, 1) := by decide +kernel
theorem dX11_turned_21 : decode cX11_turned 21 = .ok (.aload_n 0, 1) := by decide +kernel
theorem dX11_turned_22 : decode cX11_turned 22 = .ok (.iload_n 1, 1) := by decide +kernel
theorem dX11_turned_23 : decode cX11_turned 23 = .ok (.invokevirtual 124, 3) := by decide +kernel
theorem dX11_turned_26 : decode cX11_turned 26 = .ok (.iconst 0, 1) := by decide +kernel
theorem dX11_turned_27 : decode cX11_turned 27 = .ok (.istore_n 3, 1) := by decide +kernel
theorem dX11_turned_28 : decode cX11_turned 28 = .ok (.iconst 0, 1) := by decide +kernel
theorem dX11_turned_29 : decode cX11_turned 29 = .ok (.istore 4, 2) := by decide +kernel
theorem dX11_turned_31 : decode cX11_turned 31 = .ok (.iconst 0, 1) := by decide +kernel
theorem dX11_turned_32 : decode cX11_turned 32 = .ok (.istore 5, 2) := by decide +kernel
theorem dX11_turned_34 : decode cX11_turned 34 = .ok (.iload 5, 2) := by decide +kernel
theorem dX11_turned_36 : decode cX11_turned 36 = .ok (.sipush 6000, 3) := by decide +kernel
theorem dX11_turned_39 : decode cX11_turned 39 = .ok (.if_icmp .gt 29, 3) := by decide +kernel
theorem dX11_turned_42 : decode cX11_turned 42 = .ok (.aload_n 0, 1) := by decide +kernel
theorem dX11_turned_43 : decode cX11_turned 43 = .ok (.getfield 31, 3) := by decide +kernel
theorem dX11_turned_46 : decode cX11_turned 46 = .ok (.iload 5, 2) := by decide +kernel
theorem dX11_turned_48 : decode cX11_turned 48 = .ok (.iload 5, 2) := by decide +kernel
theorem dX11_turned_50 : decode cX11_turned 50 = .ok (.sipush 3000, 3) := by decide +kernel
theorem dX11_turned_53 : decode cX11_turned 53 = .ok (.if_icmp .ne 7, 3) := by decide +kernel
theorem dX11_turned_56 : decode cX11_turned 56 = .ok (.lconst 1, 1) := by decide +kernel
theorem dX11_turned_57 : decode cX11_turned 57 = .ok (.goto 4, 3) := by decide +kernel
theorem dX11_turned_60 : decode cX11_turned 60 = .ok (.lconst 0, 1) := by decide +kernel
theorem dX11_turned_61 : decode cX11_turned 61 = .ok (.lastore, 1) := by decide +kernel
theorem dX11_turned_62 : decode cX11_turned 62 = .ok (.iinc 5 1, 3) := by decide +kernel
theorem dX11_turned_65 : decode cX11_turned 65 = .ok (.goto (-31), 3) := by decide +kernel
theorem dX11_turned_68 : decode cX11_turned 68 = .ok (.iconst 0, 1) := by decide +kernel
theorem dX11_turned_69 : decode cX11_turned 69 = .ok (.istore 5, 2) := by decide +kernel
theorem dX11_turned_71 : decode cX11_turned 71 = .ok (.iload 5, 2) := by decide +kernel
theorem dX11_turned_73 : decode cX11_turned 73 = .ok (.aload_n 0, 1) := by decide +kernel
theorem dX11_turned_74 : decode cX11_turned 74 = .ok (.getfield 114, 3) := by decide +kernel
theorem dX11_turned_77 : decode cX11_turned 77 = .ok (.if_icmp .ge 149, 3) := by decide +kernel
theorem dX11_turned_80 : decode cX11_turned 80 = .ok (.aload_n 0, 1) := by decide +kernel
theorem dX11_turned_81 : decode cX11_turned 81 = .ok (.getfield 25, 3) := by decide +kernel
theorem dX11_turned_84 : decode cX11_turned 84 = .ok (.iload 5, 2) := by decide +kernel
theorem dX11_turned_86 : decode cX11_turned 86 = .ok (.iaload, 1) := by decide +kernel
theorem dX11_turned_87 : decode cX11_turned 87 = .ok (.istore 6, 2) := by decide +kernel
theorem dX11_turned_89 : decode cX11_turned 89 = .ok (.iload 4, 2) := by decide +kernel
theorem dX11_turned_91 : decode cX11_turned 91 = .ok (.iload 6, 2) := by decide +kernel
theorem dX11_turned_93 : decode cX11_turned 93 = .ok (.iadd, 1) := by decide +kernel
theorem dX11_turned_94 : decode cX11_turned 94 = .ok (.istore 4, 2) := by decide +kernel
theorem dX11_turned_96 : decode cX11_turned 96 = .ok (.iload 6, 2) := by decide +kernel
theorem dX11_turned_98 : decode cX11_turned 98 = .ok (.ifCond .eq 122, 3) := by decide +kernel
theorem dX11_turned_101 : decode cX11_turned 101 = .ok (.iinc 3 1, 3) := by decide +kernel
theorem dX11_turned_104 : decode cX11_turned 104 = .ok (.iconst 0, 1) := by decide +kernel
theorem dX11_turned_105 : decode cX11_turned 105 = .ok (.istore 7, 2) := by decide +kernel
theorem dX11_turned_107 : decode cX11_turned 107 = .ok (.iload 7, 2) := by decide +kernel
theorem dX11_turned_109 : decode cX11_turned 109 = .ok (.sipush 6000, 3) := by decide +kernel
theorem dX11_turned_112 : decode cX11_turned 112 = .ok (.if_icmp .gt 77, 3) := by decide +kernel
theorem dX11_turned_115 : decode cX11_turned 115 = .ok (.aload_n 0, 1) := by decide +kernel
theorem dX11_turned_116 : decode cX11_turned 116 = .ok (.getfield 35, 3) := by decide +kernel
theorem dX11_turned_119 : decode cX11_turned 119 = .ok (.iload 7, 2) := by decide +kernel
theorem dX11_turned_121 : decode cX11_turned 121 = .ok (.iload 7, 2) := by decide +kernel
theorem dX11_turned_123 : decode cX11_turned 123 = .ok (.iload 6, 2) := by decide +kernel
theorem dX11_turned_125 : decode cX11_turned 125 = .ok (.isub, 1) := by decide +kernel
theorem dX11_turned_126 : decode cX11_turned 126 = .ok (.i2l, 1) := by decide +kernel
theorem dX11_turned_127 : decode cX11_turned 127 = .ok (.lconst 0, 1) := by decide +kernel
theorem dX11_turned_128 : decode cX11_turned 128 = .ok (.ldc2_w 128, 3) := by decide +kernel
theorem dX11_turned_131 : decode cX11_turned 131 = .ok (.invokestatic 78, 3) := by decide +kernel
theorem dX11_turned_134 : decode cX11_turned 134 = .ok (.ifCond .eq 16, 3) := by decide +kernel
theorem dX11_turned_137 : decode cX11_turned 137 = .ok (.aload_n 0, 1) := by decide +kernel
theorem dX11_turned_138 : decode cX11_turned 138 = .ok (.getfield 31, 3) := by decide +kernel
theorem dX11_turned_141 : decode cX11_turned 141 = .ok (.iload 7, 2) := by decide +kernel
theorem dX11_turned_143 : decode cX11_turned 143 = .ok (.iload 6, 2) := by decide +kernel
theorem dX11_turned_145 : decode cX11_turned 145 = .ok (.isub, 1) := by decide +kernel
theorem dX11_turned_146 : decode cX11_turned 146 = .ok (.laload, 1) := by decide +kernel
theorem dX11_turned_147 : decode cX11_turned 147 = .ok (.goto 4, 3) := by decide +kernel
theorem dX11_turned_150 : decode cX11_turned 150 = .ok (.lconst 0, 1) := by decide +kernel
theorem dX11_turned_151 : decode cX11_turned 151 = .ok (.iload 7, 2) := by decide +kernel
theorem dX11_turned_153 : decode cX11_turned 153 = .ok (.iload 6, 2) := by decide +kernel
theorem dX11_turned_155 : decode cX11_turned 155 = .ok (.iadd, 1) := by decide +kernel
theorem dX11_turned_156 : decode cX11_turned 156 = .ok (.i2l, 1) := by decide +kernel
theorem dX11_turned_157 : decode cX11_turned 157 = .ok (.lconst 0, 1) := by decide +kernel
theorem dX11_turned_158 : decode cX11_turned 158 = .ok (.ldc2_w 128, 3) := by decide +kernel
theorem dX11_turned_161 : decode cX11_turned 161 = .ok (.invokestatic 78, 3) := by decide +kernel
theorem dX11_turned_164 : decode cX11_turned 164 = .ok (.ifCond .eq 16, 3) := by decide +kernel
theorem dX11_turned_167 : decode cX11_turned 167 = .ok (.aload_n 0, 1) := by decide +kernel
theorem dX11_turned_168 : decode cX11_turned 168 = .ok (.getfield 31, 3) := by decide +kernel
theorem dX11_turned_171 : decode cX11_turned 171 = .ok (.iload 7, 2) := by decide +kernel
theorem dX11_turned_173 : decode cX11_turned 173 = .ok (.iload 6, 2) := by decide +kernel
theorem dX11_turned_175 : decode cX11_turned 175 = .ok (.iadd, 1) := by decide +kernel
theorem dX11_turned_176 : decode cX11_turned 176 = .ok (.laload, 1) := by decide +kernel
theorem dX11_turned_177 : decode cX11_turned 177 = .ok (.goto 4, 3) := by decide +kernel
theorem dX11_turned_180 : decode cX11_turned 180 = .ok (.lconst 0, 1) := by decide +kernel
theorem dX11_turned_181 : decode cX11_turned 181 = .ok (.ladd, 1) := by decide +kernel
theorem dX11_turned_182 : decode cX11_turned 182 = .ok (.lastore, 1) := by decide +kernel
theorem dX11_turned_183 : decode cX11_turned 183 = .ok (.iinc 7 1, 3) := by decide +kernel
theorem dX11_turned_186 : decode cX11_turned 186 = .ok (.goto (-79), 3) := by decide +kernel
theorem dX11_turned_189 : decode cX11_turned 189 = .ok (.iconst 0, 1) := by decide +kernel
theorem dX11_turned_190 : decode cX11_turned 190 = .ok (.istore 7, 2) := by decide +kernel
theorem dX11_turned_192 : decode cX11_turned 192 = .ok (.iload 7, 2) := by decide +kernel
theorem dX11_turned_194 : decode cX11_turned 194 = .ok (.sipush 6000, 3) := by decide +kernel
theorem dX11_turned_197 : decode cX11_turned 197 = .ok (.if_icmp .gt 23, 3) := by decide +kernel
theorem dX11_turned_200 : decode cX11_turned 200 = .ok (.aload_n 0, 1) := by decide +kernel
theorem dX11_turned_201 : decode cX11_turned 201 = .ok (.getfield 31, 3) := by decide +kernel
theorem dX11_turned_204 : decode cX11_turned 204 = .ok (.iload 7, 2) := by decide +kernel
theorem dX11_turned_206 : decode cX11_turned 206 = .ok (.aload_n 0, 1) := by decide +kernel
theorem dX11_turned_207 : decode cX11_turned 207 = .ok (.getfield 35, 3) := by decide +kernel
theorem dX11_turned_210 : decode cX11_turned 210 = .ok (.iload 7, 2) := by decide +kernel
theorem dX11_turned_212 : decode cX11_turned 212 = .ok (.laload, 1) := by decide +kernel
theorem dX11_turned_213 : decode cX11_turned 213 = .ok (.lastore, 1) := by decide +kernel
theorem dX11_turned_214 : decode cX11_turned 214 = .ok (.iinc 7 1, 3) := by decide +kernel
theorem dX11_turned_217 : decode cX11_turned 217 = .ok (.goto (-25), 3) := by decide +kernel
theorem dX11_turned_220 : decode cX11_turned 220 = .ok (.iinc 5 1, 3) := by decide +kernel
theorem dX11_turned_223 : decode cX11_turned 223 = .ok (.goto (-152), 3) := by decide +kernel
theorem dX11_turned_226 : decode cX11_turned 226 = .ok (.iload_n 2, 1) := by decide +kernel
theorem dX11_turned_227 : decode cX11_turned 227 = .ok (.ifCond .ne 6, 3) := by decide +kernel
theorem dX11_turned_230 : decode cX11_turned 230 = .ok (.iload_n 3, 1) := by decide +kernel
theorem dX11_turned_231 : decode cX11_turned 231 = .ok (.i2l, 1) := by decide +kernel
theorem dX11_turned_232 : decode cX11_turned 232 = .ok (.lreturn, 1) := by decide +kernel
theorem dX11_turned_233 : decode cX11_turned 233 = .ok (.lconst 0, 1) := by decide +kernel
theorem dX11_turned_234 : decode cX11_turned 234 = .ok (.lstore 5, 2) := by decide +kernel
theorem dX11_turned_236 : decode cX11_turned 236 = .ok (.iload 4, 2) := by decide +kernel
theorem dX11_turned_238 : decode cX11_turned 238 = .ok (.ifCond .ge 9, 3) := by decide +kernel
theorem dX11_turned_241 : decode cX11_turned 241 = .ok (.iload 4, 2) := by decide +kernel
theorem dX11_turned_243 : decode cX11_turned 243 = .ok (.ineg, 1) := by decide +kernel
theorem dX11_turned_244 : decode cX11_turned 244 = .ok (.goto 5, 3) := by decide +kernel
theorem dX11_turned_247 : decode cX11_turned 247 = .ok (.iload 4, 2) := by decide +kernel
theorem dX11_turned_249 : decode cX11_turned 249 = .ok (.istore 7, 2) := by decide +kernel
theorem dX11_turned_251 : decode cX11_turned 251 = .ok (.sipush (-3000), 3) := by decide +kernel
theorem dX11_turned_254 : decode cX11_turned 254 = .ok (.istore 8, 2) := by decide +kernel
theorem dX11_turned_256 : decode cX11_turned 256 = .ok (.iload 8, 2) := by decide +kernel
theorem dX11_turned_258 : decode cX11_turned 258 = .ok (.sipush 3000, 3) := by decide +kernel
theorem dX11_turned_261 : decode cX11_turned 261 = .ok (.if_icmp .gt 76, 3) := by decide +kernel
theorem dX11_turned_264 : decode cX11_turned 264 = .ok (.iload_n 2, 1) := by decide +kernel
theorem dX11_turned_265 : decode cX11_turned 265 = .ok (.iconst 1, 1) := by decide +kernel
theorem dX11_turned_266 : decode cX11_turned 266 = .ok (.if_icmp .ne 18, 3) := by decide +kernel
theorem dX11_turned_269 : decode cX11_turned 269 = .ok (.iload 8, 2) := by decide +kernel
theorem dX11_turned_271 : decode cX11_turned 271 = .ok (.iload 4, 2) := by decide +kernel
theorem dX11_turned_273 : decode cX11_turned 273 = .ok (.if_icmp .lt 7, 3) := by decide +kernel
theorem dX11_turned_276 : decode cX11_turned 276 = .ok (.iconst 1, 1) := by decide +kernel
theorem dX11_turned_277 : decode cX11_turned 277 = .ok (.goto 27, 3) := by decide +kernel
theorem dX11_turned_280 : decode cX11_turned 280 = .ok (.iconst 0, 1) := by decide +kernel
theorem dX11_turned_281 : decode cX11_turned 281 = .ok (.goto 23, 3) := by decide +kernel
theorem dX11_turned_284 : decode cX11_turned 284 = .ok (.iload 8, 2) := by decide +kernel
theorem dX11_turned_286 : decode cX11_turned 286 = .ok (.iload 7, 2) := by decide +kernel
theorem dX11_turned_288 : decode cX11_turned 288 = .ok (.if_icmp .ge 11, 3) := by decide +kernel
theorem dX11_turned_291 : decode cX11_turned 291 = .ok (.iload 8, 2) := by decide +kernel
theorem dX11_turned_293 : decode cX11_turned 293 = .ok (.iload 7, 2) := by decide +kernel
theorem dX11_turned_295 : decode cX11_turned 295 = .ok (.ineg, 1) := by decide +kernel
theorem dX11_turned_296 : decode cX11_turned 296 = .ok (.if_icmp .gt 7, 3) := by decide +kernel
theorem dX11_turned_299 : decode cX11_turned 299 = .ok (.iconst 1, 1) := by decide +kernel
theorem dX11_turned_300 : decode cX11_turned 300 = .ok (.goto 4, 3) := by decide +kernel
theorem dX11_turned_303 : decode cX11_turned 303 = .ok (.iconst 0, 1) := by decide +kernel
theorem dX11_turned_304 : decode cX11_turned 304 = .ok (.istore 9, 2) := by decide +kernel
theorem dX11_turned_306 : decode cX11_turned 306 = .ok (.lload 5, 2) := by decide +kernel
theorem dX11_turned_308 : decode cX11_turned 308 = .ok (.iload 9, 2) := by decide +kernel
theorem dX11_turned_310 : decode cX11_turned 310 = .ok (.ifCond .eq 17, 3) := by decide +kernel
theorem dX11_turned_313 : decode cX11_turned 313 = .ok (.aload_n 0, 1) := by decide +kernel
theorem dX11_turned_314 : decode cX11_turned 314 = .ok (.getfield 31, 3) := by decide +kernel
theorem dX11_turned_317 : decode cX11_turned 317 = .ok (.iload 8, 2) := by decide +kernel
theorem dX11_turned_319 : decode cX11_turned 319 = .ok (.sipush 3000, 3) := by decide +kernel
theorem dX11_turned_322 : decode cX11_turned 322 = .ok (.iadd, 1) := by decide +kernel
theorem dX11_turned_323 : decode cX11_turned 323 = .ok (.laload, 1) := by decide +kernel
theorem dX11_turned_324 : decode cX11_turned 324 = .ok (.goto 4, 3) := by decide +kernel
theorem dX11_turned_327 : decode cX11_turned 327 = .ok (.lconst 0, 1) := by decide +kernel
theorem dX11_turned_328 : decode cX11_turned 328 = .ok (.ladd, 1) := by decide +kernel
theorem dX11_turned_329 : decode cX11_turned 329 = .ok (.lstore 5, 2) := by decide +kernel
theorem dX11_turned_331 : decode cX11_turned 331 = .ok (.iinc 8 1, 3) := by decide +kernel
theorem dX11_turned_334 : decode cX11_turned 334 = .ok (.goto (-78), 3) := by decide +kernel
theorem dX11_turned_337 : decode cX11_turned 337 = .ok (.lload 5, 2) := by decide +kernel
theorem dX11_turned_339 : decode cX11_turned 339 = .ok (.lreturn, 1) := by decide +kernel
theorem dX11_count_0 : decode cX11_count 0 = .ok (.iconst 0, 1) := by decide +kernel
theorem dX11_count_1 : decode cX11_count 1 = .ok (.istore_n 3, 1) := by decide +kernel
theorem dX11_count_2 : decode cX11_count 2 = .ok (.iconst 0, 1) := by decide +kernel
theorem dX11_count_3 : decode cX11_count 3 = .ok (.istore 4, 2) := by decide +kernel
theorem dX11_count_5 : decode cX11_count 5 = .ok (.iload 4, 2) := by decide +kernel
theorem dX11_count_7 : decode cX11_count 7 = .ok (.aload_n 0, 1) := by decide +kernel
theorem dX11_count_8 : decode cX11_count 8 = .ok (.getfield 117, 3) := by decide +kernel
theorem dX11_count_11 : decode cX11_count 11 = .ok (.if_icmp .ge 66, 3) := by decide +kernel
theorem dX11_count_14 : decode cX11_count 14 = .ok (.aload_n 0, 1) := by decide +kernel
theorem dX11_count_15 : decode cX11_count 15 = .ok (.getfield 19, 3) := by decide +kernel
theorem dX11_count_18 : decode cX11_count 18 = .ok (.iload 4, 2) := by decide +kernel
theorem dX11_count_20 : decode cX11_count 20 = .ok (.iaload, 1) := by decide +kernel
theorem dX11_count_21 : decode cX11_count 21 = .ok (.iload_n 1, 1) := by decide +kernel
theorem dX11_count_22 : decode cX11_count 22 = .ok (.if_icmp .lt 7, 3) := by decide +kernel
theorem dX11_count_25 : decode cX11_count 25 = .ok (.iconst 1, 1) := by decide +kernel
theorem dX11_count_26 : decode cX11_count 26 = .ok (.goto 4, 3) := by decide +kernel
theorem dX11_count_29 : decode cX11_count 29 = .ok (.iconst 0, 1) := by decide +kernel
theorem dX11_count_30 : decode cX11_count 30 = .ok (.istore 5, 2) := by decide +kernel
theorem dX11_count_32 : decode cX11_count 32 = .ok (.aload_n 0, 1) := by decide +kernel
theorem dX11_count_33 : decode cX11_count 33 = .ok (.getfield 22, 3) := by decide +kernel
theorem dX11_count_36 : decode cX11_count 36 = .ok (.iload 4, 2) := by decide +kernel
theorem dX11_count_38 : decode cX11_count 38 = .ok (.iaload, 1) := by decide +kernel
theorem dX11_count_39 : decode cX11_count 39 = .ok (.iload_n 1, 1) := by decide +kernel
theorem dX11_count_40 : decode cX11_count 40 = .ok (.if_icmp .lt 7, 3) := by decide +kernel
theorem dX11_count_43 : decode cX11_count 43 = .ok (.iconst 1, 1) := by decide +kernel
theorem dX11_count_44 : decode cX11_count 44 = .ok (.goto 4, 3) := by decide +kernel
theorem dX11_count_47 : decode cX11_count 47 = .ok (.iconst 0, 1) := by decide +kernel
theorem dX11_count_48 : decode cX11_count 48 = .ok (.istore 6, 2) := by decide +kernel
theorem dX11_count_50 : decode cX11_count 50 = .ok (.iload_n 3, 1) := by decide +kernel
theorem dX11_count_51 : decode cX11_count 51 = .ok (.iload 5, 2) := by decide +kernel
theorem dX11_count_53 : decode cX11_count 53 = .ok (.iload 6, 2) := by decide +kernel
theorem dX11_count_55 : decode cX11_count 55 = .ok (.if_icmp .eq 13, 3) := by decide +kernel
theorem dX11_count_58 : decode cX11_count 58 = .ok (.iload 5, 2) := by decide +kernel
theorem dX11_count_60 : decode cX11_count 60 = .ok (.iload_n 2, 1) := by decide +kernel
theorem dX11_count_61 : decode cX11_count 61 = .ok (.if_icmp .ne 7, 3) := by decide +kernel
theorem dX11_count_64 : decode cX11_count 64 = .ok (.iconst 1, 1) := by decide +kernel
theorem dX11_count_65 : decode cX11_count 65 = .ok (.goto 4, 3) := by decide +kernel
theorem dX11_count_68 : decode cX11_count 68 = .ok (.iconst 0, 1) := by decide +kernel
theorem dX11_count_69 : decode cX11_count 69 = .ok (.iadd, 1) := by decide +kernel
theorem dX11_count_70 : decode cX11_count 70 = .ok (.istore_n 3, 1) := by decide +kernel
theorem dX11_count_71 : decode cX11_count 71 = .ok (.iinc 4 1, 3) := by decide +kernel
theorem dX11_count_74 : decode cX11_count 74 = .ok (.goto (-69), 3) := by decide +kernel
theorem dX11_count_77 : decode cX11_count 77 = .ok (.iload_n 3, 1) := by decide +kernel
theorem dX11_count_78 : decode cX11_count 78 = .ok (.ireturn, 1) := by decide +kernel
set_option maxRecDepth 20000 in
theorem ggX11_wins_X11_in : GoodIn wsX11_wins wsX11_in := goodIn_r _ [6] (by decide +kernel) (by decide +kernel)
set_option maxRecDepth 20000 in
theorem gX11_wins_X11_in : GoodIn wsX11_wins (va_wsS RX11 78 yX11_in wsX11_in) := goodIn_app (goodIn_of _ (by decide +kernel)) ggX11_wins_X11_in
set_option maxRecDepth 20000 in
theorem ggX11_wins_X11_count : GoodIn wsX11_wins wsX11_count := goodIn_r _ [10, 11, 12, 13, 14, 15, 16, 17, 18, 19, 20, 21, 22, 23, 24, 25, 26, 27, 28, 29, 30, 31, 32, 33, 34, 35, 36, 37, 38, 39] (by decide +kernel) (by decide +kernel)
set_option maxRecDepth 20000 in
theorem gX11_wins_X11_count : GoodIn wsX11_wins (wsV RX11 132 RX11 yX11_count wsX11_count) := goodIn_app (goodIn_of _ (by decide +kernel)) ggX11_wins_X11_count
theorem dX11_wins_0 : decode cX11_wins 0 = .ok (.aload_n 0, 1) := by decide +kernel
theorem dX11_wins_1 : decode cX11_wins 1 = .ok (.iconst 0, 1) := by decide +kernel
theorem dX11_wins_2 : decode cX11_wins 2 = .ok (.putfield 50, 3) := by decide +kernel
theorem dX11_wins_5 : decode cX11_wins 5 = .ok (.iload_n 1, 1) := by decide +kernel
theorem dX11_wins_6 : decode cX11_wins 6 = .ok (.i2l, 1) := by decide +kernel
theorem dX11_wins_7 : decode cX11_wins 7 = .ok (.lconst 0, 1) := by decide +kernel
theorem dX11_wins_8 : decode cX11_wins 8 = .ok (.ldc2_w 130, 3) := by decide +kernel
theorem dX11_wins_11 : decode cX11_wins 11 = .ok (.invokestatic 78, 3) := by decide +kernel
theorem dX11_wins_14 : decode cX11_wins 14 = .ok (.ifCond .eq 13, 3) := by decide +kernel
theorem dX11_wins_17 : decode cX11_wins 17 = .ok (.iload_n 2, 1) := by decide +kernel
theorem dX11_wins_18 : decode cX11_wins 18 = .ok (.i2l, 1) := by decide +kernel
theorem dX11_wins_19 : decode cX11_wins 19 = .ok (.lconst 0, 1) := by decide +kernel
theorem dX11_wins_20 : decode cX11_wins 20 = .ok (.lconst 1, 1) := by decide +kernel
theorem dX11_wins_21 : decode cX11_wins 21 = .ok (.invokestatic 78, 3) := by decide +kernel
theorem dX11_wins_24 : decode cX11_wins 24 = .ok (.ifCond .ne 7, 3) := by decide +kernel
theorem dX11_wins_27 : decode cX11_wins 27 = .ok (.iconst (-1), 1) := by decide +kernel
theorem dX11_wins_28 : decode cX11_wins 28 = .ok (.goto 17, 3) := by decide +kernel
theorem dX11_wins_31 : decode cX11_wins 31 = .ok (.aload_n 0, 1) := by decide +kernel
theorem dX11_wins_32 : decode cX11_wins 32 = .ok (.iload_n 1, 1) := by decide +kernel
theorem dX11_wins_33 : decode cX11_wins 33 = .ok (.iload_n 2, 1) := by decide +kernel
theorem dX11_wins_34 : decode cX11_wins 34 = .ok (.ifCond .ne 7, 3) := by decide +kernel
theorem dX11_wins_37 : decode cX11_wins 37 = .ok (.iconst 1, 1) := by decide +kernel
theorem dX11_wins_38 : decode cX11_wins 38 = .ok (.goto 4, 3) := by decide +kernel
theorem dX11_wins_41 : decode cX11_wins 41 = .ok (.iconst 0, 1) := by decide +kernel
theorem dX11_wins_42 : decode cX11_wins 42 = .ok (.invokevirtual 132, 3) := by decide +kernel
theorem dX11_wins_45 : decode cX11_wins 45 = .ok (.ireturn, 1) := by decide +kernel
theorem dX11_common_0 : decode cX11_common 0 = .ok (.lload_n 0, 1) := by decide +kernel
theorem dX11_common_1 : decode cX11_common 1 = .ok (.lconst 0, 1) := by decide +kernel
theorem dX11_common_2 : decode cX11_common 2 = .ok (.lcmp, 1) := by decide +kernel
theorem dX11_common_3 : decode cX11_common 3 = .ok (.ifCond .ge 8, 3) := by decide +kernel
theorem dX11_common_6 : decode cX11_common 6 = .ok (.lload_n 0, 1) := by decide +kernel
theorem dX11_common_7 : decode cX11_common 7 = .ok (.lneg, 1) := by decide +kernel
theorem dX11_common_8 : decode cX11_common 8 = .ok (.goto 4, 3) := by decide +kernel
theorem dX11_common_11 : decode cX11_common 11 = .ok (.lload_n 0, 1) := by decide +kernel
theorem dX11_common_12 : decode cX11_common 12 = .ok (.lstore 4, 2) := by decide +kernel
theorem dX11_common_14 : decode cX11_common 14 = .ok (.lload_n 2, 1) := by decide +kernel
theorem dX11_common_15 : decode cX11_common 15 = .ok (.lstore 6, 2) := by decide +kernel
theorem dX11_common_17 : decode cX11_common 17 = .ok (.lload 6, 2) := by decide +kernel
theorem dX11_common_19 : decode cX11_common 19 = .ok (.lconst 0, 1) := by decide +kernel
theorem dX11_common_20 : decode cX11_common 20 = .ok (.lcmp, 1) := by decide +kernel
theorem dX11_common_21 : decode cX11_common 21 = .ok (.ifCond .eq 21, 3) := by decide +kernel
theorem dX11_common_24 : decode cX11_common 24 = .ok (.lload 4, 2) := by decide +kernel
theorem dX11_common_26 : decode cX11_common 26 = .ok (.lload 6, 2) := by decide +kernel
theorem dX11_common_28 : decode cX11_common 28 = .ok (.lrem, 1) := by decide +kernel
theorem dX11_common_29 : decode cX11_common 29 = .ok (.lstore 8, 2) := by decide +kernel
theorem dX11_common_31 : decode cX11_common 31 = .ok (.lload 6, 2) := by decide +kernel
theorem dX11_common_33 : decode cX11_common 33 = .ok (.lstore 4, 2) := by decide +kernel
theorem dX11_common_35 : decode cX11_common 35 = .ok (.lload 8, 2) := by decide +kernel
theorem dX11_common_37 : decode cX11_common 37 = .ok (.lstore 6, 2) := by decide +kernel
theorem dX11_common_39 : decode cX11_common 39 = .ok (.goto (-22), 3) := by decide +kernel
theorem dX11_common_42 : decode cX11_common 42 = .ok (.lload 4, 2) := by decide +kernel
theorem dX11_common_44 : decode cX11_common 44 = .ok (.lreturn, 1) := by decide +kernel
set_option maxRecDepth 20000 in
theorem ggX11_told_X11_common : GoodIn wsX11_told wsX11_common := goodIn_r _ [4] (by decide +kernel) (by decide +kernel)
set_option maxRecDepth 20000 in
theorem gX11_told_X11_common : GoodIn wsX11_told (va_wsS RX11 136 yX11_common wsX11_common) := goodIn_app (goodIn_of _ (by decide +kernel)) ggX11_told_X11_common
theorem dX11_told_0 : decode cX11_told 0 = .ok (.lload_n 0, 1) := by decide +kernel
theorem dX11_told_1 : decode cX11_told 1 = .ok (.lload_n 2, 1) := by decide +kernel
theorem dX11_told_2 : decode cX11_told 2 = .ok (.invokestatic 136, 3) := by decide +kernel
theorem dX11_told_5 : decode cX11_told 5 = .ok (.lstore 5, 2) := by decide +kernel
theorem dX11_told_7 : decode cX11_told 7 = .ok (.iload 4, 2) := by decide +kernel
theorem dX11_told_9 : decode cX11_told 9 = .ok (.ifCond .ne 10, 3) := by decide +kernel
theorem dX11_told_12 : decode cX11_told 12 = .ok (.lload_n 0, 1) := by decide +kernel
theorem dX11_told_13 : decode cX11_told 13 = .ok (.lload 5, 2) := by decide +kernel
theorem dX11_told_15 : decode cX11_told 15 = .ok (.ldiv, 1) := by decide +kernel
theorem dX11_told_16 : decode cX11_told 16 = .ok (.goto 7, 3) := by decide +kernel
theorem dX11_told_19 : decode cX11_told 19 = .ok (.lload_n 2, 1) := by decide +kernel
theorem dX11_told_20 : decode cX11_told 20 = .ok (.lload 5, 2) := by decide +kernel
theorem dX11_told_22 : decode cX11_told 22 = .ok (.ldiv, 1) := by decide +kernel
theorem dX11_told_23 : decode cX11_told 23 = .ok (.lreturn, 1) := by decide +kernel
set_option maxRecDepth 20000 in
theorem ggX11_even_X11_in : GoodIn wsX11_even wsX11_in := goodIn_r _ [8] (by decide +kernel) (by decide +kernel)
set_option maxRecDepth 20000 in
theorem gX11_even_X11_in : GoodIn wsX11_even (va_wsS RX11 78 yX11_in wsX11_in) := goodIn_app (goodIn_of _ (by decide +kernel)) ggX11_even_X11_in
set_option maxRecDepth 20000 in
theorem ggX11_even_X11_count : GoodIn wsX11_even wsX11_count := goodIn_r _ [12, 13, 14, 15, 22, 23, 24, 25, 26, 27, 28, 29, 30, 31, 32, 33, 34, 35, 36, 37, 38, 39, 40, 41, 42, 43, 44, 45, 46, 47] (by decide +kernel) (by decide +kernel)
set_option maxRecDepth 20000 in
theorem gX11_even_X11_count : GoodIn wsX11_even (wsV RX11 132 RX11 yX11_count wsX11_count) := goodIn_app (goodIn_of _ (by decide +kernel)) ggX11_even_X11_count
set_option maxRecDepth 20000 in
theorem ggX11_even_X11_told : GoodIn wsX11_even wsX11_told := goodIn_r _ [18, 19, 20, 7, 21] (by decide +kernel) (by decide +kernel)
set_option maxRecDepth 20000 in
theorem gX11_even_X11_told : GoodIn wsX11_even (va_wsS RX11 140 yX11_told wsX11_told) := goodIn_app (goodIn_of _ (by decide +kernel)) ggX11_even_X11_told
theorem dX11_even_0 : decode cX11_even 0 = .ok (.aload_n 0, 1) := by decide +kernel
theorem dX11_even_1 : decode cX11_even 1 = .ok (.iconst 0, 1) := by decide +kernel
theorem dX11_even_2 : decode cX11_even 2 = .ok (.putfield 50, 3) := by decide +kernel
theorem dX11_even_5 : decode cX11_even 5 = .ok (.iload_n 1, 1) := by decide +kernel
theorem dX11_even_6 : decode cX11_even 6 = .ok (.i2l, 1) := by decide +kernel
theorem dX11_even_7 : decode cX11_even 7 = .ok (.lconst 0, 1) := by decide +kernel
theorem dX11_even_8 : decode cX11_even 8 = .ok (.ldc2_w 130, 3) := by decide +kernel
theorem dX11_even_11 : decode cX11_even 11 = .ok (.invokestatic 78, 3) := by decide +kernel
theorem dX11_even_14 : decode cX11_even 14 = .ok (.ifCond .eq 13, 3) := by decide +kernel
theorem dX11_even_17 : decode cX11_even 17 = .ok (.iload_n 2, 1) := by decide +kernel
theorem dX11_even_18 : decode cX11_even 18 = .ok (.i2l, 1) := by decide +kernel
theorem dX11_even_19 : decode cX11_even 19 = .ok (.lconst 0, 1) := by decide +kernel
theorem dX11_even_20 : decode cX11_even 20 = .ok (.lconst 1, 1) := by decide +kernel
theorem dX11_even_21 : decode cX11_even 21 = .ok (.invokestatic 78, 3) := by decide +kernel
theorem dX11_even_24 : decode cX11_even 24 = .ok (.ifCond .ne 7, 3) := by decide +kernel
theorem dX11_even_27 : decode cX11_even 27 = .ok (.ldc2_w 90, 3) := by decide +kernel
theorem dX11_even_30 : decode cX11_even 30 = .ok (.lreturn, 1) := by decide +kernel
theorem dX11_even_31 : decode cX11_even 31 = .ok (.aload_n 0, 1) := by decide +kernel
theorem dX11_even_32 : decode cX11_even 32 = .ok (.iload_n 1, 1) := by decide +kernel
theorem dX11_even_33 : decode cX11_even 33 = .ok (.iconst 1, 1) := by decide +kernel
theorem dX11_even_34 : decode cX11_even 34 = .ok (.invokevirtual 132, 3) := by decide +kernel
theorem dX11_even_37 : decode cX11_even 37 = .ok (.istore_n 3, 1) := by decide +kernel
theorem dX11_even_38 : decode cX11_even 38 = .ok (.aload_n 0, 1) := by decide +kernel
theorem dX11_even_39 : decode cX11_even 39 = .ok (.iload_n 1, 1) := by decide +kernel
theorem dX11_even_40 : decode cX11_even 40 = .ok (.iconst 0, 1) := by decide +kernel
theorem dX11_even_41 : decode cX11_even 41 = .ok (.invokevirtual 132, 3) := by decide +kernel
theorem dX11_even_44 : decode cX11_even 44 = .ok (.istore 4, 2) := by decide +kernel
theorem dX11_even_46 : decode cX11_even 46 = .ok (.lconst 0, 1) := by decide +kernel
theorem dX11_even_47 : decode cX11_even 47 = .ok (.lstore 5, 2) := by decide +kernel
theorem dX11_even_49 : decode cX11_even 49 = .ok (.lconst 1, 1) := by decide +kernel
theorem dX11_even_50 : decode cX11_even 50 = .ok (.lstore 7, 2) := by decide +kernel
theorem dX11_even_52 : decode cX11_even 52 = .ok (.iload_n 3, 1) := by decide +kernel
theorem dX11_even_53 : decode cX11_even 53 = .ok (.iload 4, 2) := by decide +kernel
theorem dX11_even_55 : decode cX11_even 55 = .ok (.iadd, 1) := by decide +kernel
theorem dX11_even_56 : decode cX11_even 56 = .ok (.istore 9, 2) := by decide +kernel
theorem dX11_even_58 : decode cX11_even 58 = .ok (.iconst 0, 1) := by decide +kernel
theorem dX11_even_59 : decode cX11_even 59 = .ok (.istore 10, 2) := by decide +kernel
theorem dX11_even_61 : decode cX11_even 61 = .ok (.iload 10, 2) := by decide +kernel
theorem dX11_even_63 : decode cX11_even 63 = .ok (.iload_n 3, 1) := by decide +kernel
theorem dX11_even_64 : decode cX11_even 64 = .ok (.iload 4, 2) := by decide +kernel
theorem dX11_even_66 : decode cX11_even 66 = .ok (.if_icmp .ge 7, 3) := by decide +kernel
theorem dX11_even_69 : decode cX11_even 69 = .ok (.iload_n 3, 1) := by decide +kernel
theorem dX11_even_70 : decode cX11_even 70 = .ok (.goto 5, 3) := by decide +kernel
theorem dX11_even_73 : decode cX11_even 73 = .ok (.iload 4, 2) := by decide +kernel
theorem dX11_even_75 : decode cX11_even 75 = .ok (.if_icmp .gt 33, 3) := by decide +kernel
theorem dX11_even_78 : decode cX11_even 78 = .ok (.lload 5, 2) := by decide +kernel
theorem dX11_even_80 : decode cX11_even 80 = .ok (.lload 7, 2) := by decide +kernel
theorem dX11_even_82 : decode cX11_even 82 = .ok (.ladd, 1) := by decide +kernel
theorem dX11_even_83 : decode cX11_even 83 = .ok (.lstore 5, 2) := by decide +kernel
theorem dX11_even_85 : decode cX11_even 85 = .ok (.lload 7, 2) := by decide +kernel
theorem dX11_even_87 : decode cX11_even 87 = .ok (.iload 9, 2) := by decide +kernel
theorem dX11_even_89 : decode cX11_even 89 = .ok (.iload 10, 2) := by decide +kernel
theorem dX11_even_91 : decode cX11_even 91 = .ok (.isub, 1) := by decide +kernel
theorem dX11_even_92 : decode cX11_even 92 = .ok (.i2l, 1) := by decide +kernel
theorem dX11_even_93 : decode cX11_even 93 = .ok (.lmul, 1) := by decide +kernel
theorem dX11_even_94 : decode cX11_even 94 = .ok (.iload 10, 2) := by decide +kernel
theorem dX11_even_96 : decode cX11_even 96 = .ok (.iconst 1, 1) := by decide +kernel
theorem dX11_even_97 : decode cX11_even 97 = .ok (.iadd, 1) := by decide +kernel
theorem dX11_even_98 : decode cX11_even 98 = .ok (.i2l, 1) := by decide +kernel
theorem dX11_even_99 : decode cX11_even 99 = .ok (.ldiv, 1) := by decide +kernel
theorem dX11_even_100 : decode cX11_even 100 = .ok (.lstore 7, 2) := by decide +kernel
theorem dX11_even_102 : decode cX11_even 102 = .ok (.iinc 10 1, 3) := by decide +kernel
theorem dX11_even_105 : decode cX11_even 105 = .ok (.goto (-44), 3) := by decide +kernel
theorem dX11_even_108 : decode cX11_even 108 = .ok (.ldc2_w 108, 3) := by decide +kernel
theorem dX11_even_111 : decode cX11_even 111 = .ok (.lload 5, 2) := by decide +kernel
theorem dX11_even_113 : decode cX11_even 113 = .ok (.lmul, 1) := by decide +kernel
theorem dX11_even_114 : decode cX11_even 114 = .ok (.lstore 5, 2) := by decide +kernel
theorem dX11_even_116 : decode cX11_even 116 = .ok (.lconst 1, 1) := by decide +kernel
theorem dX11_even_117 : decode cX11_even 117 = .ok (.iload 9, 2) := by decide +kernel
theorem dX11_even_119 : decode cX11_even 119 = .ok (.lshl, 1) := by decide +kernel
theorem dX11_even_120 : decode cX11_even 120 = .ok (.lstore 10, 2) := by decide +kernel
theorem dX11_even_122 : decode cX11_even 122 = .ok (.lload 5, 2) := by decide +kernel
theorem dX11_even_124 : decode cX11_even 124 = .ok (.lload 10, 2) := by decide +kernel
theorem dX11_even_126 : decode cX11_even 126 = .ok (.lcmp, 1) := by decide +kernel
theorem dX11_even_127 : decode cX11_even 127 = .ok (.ifCond .le 8, 3) := by decide +kernel
theorem dX11_even_130 : decode cX11_even 130 = .ok (.lload 10, 2) := by decide +kernel
theorem dX11_even_132 : decode cX11_even 132 = .ok (.goto 5, 3) := by decide +kernel
theorem dX11_even_135 : decode cX11_even 135 = .ok (.lload 5, 2) := by decide +kernel
theorem dX11_even_137 : decode cX11_even 137 = .ok (.lload 10, 2) := by decide +kernel
theorem dX11_even_139 : decode cX11_even 139 = .ok (.iload_n 2, 1) := by decide +kernel
theorem dX11_even_140 : decode cX11_even 140 = .ok (.invokestatic 140, 3) := by decide +kernel
theorem dX11_even_143 : decode cX11_even 143 = .ok (.lreturn, 1) := by decide +kernel
set_option maxRecDepth 20000 in
theorem ggX11_draw_X11_in : GoodIn wsX11_draw wsX11_in := goodIn_r _ [15] (by decide +kernel) (by decide +kernel)
set_option maxRecDepth 20000 in
theorem gX11_draw_X11_in : GoodIn wsX11_draw (va_wsS RX11 78 yX11_in wsX11_in) := goodIn_app (goodIn_of _ (by decide +kernel)) ggX11_draw_X11_in
set_option maxRecDepth 20000 in
theorem ggX11_draw_X11_unite : GoodIn wsX11_draw wsX11_unite := goodIn_r _ [19, 5, 3, 20, 21, 22, 8, 9, 23, 24, 25, 26, 27, 28, 29, 30, 31, 32, 33, 34, 35, 36, 37, 38, 39, 40, 41, 42, 43, 44, 45, 46, 47, 48] (by decide +kernel) (by decide +kernel)
set_option maxRecDepth 20000 in
theorem gX11_draw_X11_unite : GoodIn wsX11_draw (wsV RX11 124 RX11 yX11_unite wsX11_unite) := goodIn_app (goodIn_of _ (by decide +kernel)) ggX11_draw_X11_unite
theorem dX11_draw_0 : decode cX11_draw 0 = .ok (.aload_n 0, 1) := by decide +kernel
theorem dX11_draw_1 : decode cX11_draw 1 = .ok (.iconst 0, 1) := by decide +kernel
theorem dX11_draw_2 : decode cX11_draw 2 = .ok (.putfield 50, 3) := by decide +kernel
theorem dX11_draw_5 : decode cX11_draw 5 = .ok (.iload_n 3, 1) := by decide +kernel
theorem dX11_draw_6 : decode cX11_draw 6 = .ok (.i2l, 1) := by decide +kernel
theorem dX11_draw_7 : decode cX11_draw 7 = .ok (.lconst 1, 1) := by decide +kernel
theorem dX11_draw_8 : decode cX11_draw 8 = .ok (.ldc2_w 144, 3) := by decide +kernel
theorem dX11_draw_11 : decode cX11_draw 11 = .ok (.invokestatic 78, 3) := by decide +kernel
theorem dX11_draw_14 : decode cX11_draw 14 = .ok (.ifCond .ne 5, 3) := by decide +kernel
theorem dX11_draw_17 : decode cX11_draw 17 = .ok (.iconst (-1), 1) := by decide +kernel
theorem dX11_draw_18 : decode cX11_draw 18 = .ok (.ireturn, 1) := by decide +kernel
theorem dX11_draw_19 : decode cX11_draw 19 = .ok (.aload_n 0, 1) := by decide +kernel
theorem dX11_draw_20 : decode cX11_draw 20 = .ok (.getfield 117, 3) := by decide +kernel
theorem dX11_draw_23 : decode cX11_draw 23 = .ok (.ifCond .ne 6, 3) := by decide +kernel
theorem dX11_draw_26 : decode cX11_draw 26 = .ok (.bipush (-3), 2) := by decide +kernel
theorem dX11_draw_28 : decode cX11_draw 28 = .ok (.ireturn, 1) := by decide +kernel
theorem dX11_draw_29 : decode cX11_draw 29 = .ok (.aload_n 0, 1) := by decide +kernel
theorem dX11_draw_30 : decode cX11_draw 30 = .ok (.iload 4, 2) := by decide +kernel
theorem dX11_draw_32 : decode cX11_draw 32 = .ok (.invokevirtual 124, 3) := by decide +kernel
theorem dX11_draw_35 : decode cX11_draw 35 = .ok (.aload_n 0, 1) := by decide +kernel
theorem dX11_draw_36 : decode cX11_draw 36 = .ok (.iconst 0, 1) := by decide +kernel
theorem dX11_draw_37 : decode cX11_draw 37 = .ok (.putfield 146, 3) := by decide +kernel
theorem dX11_draw_40 : decode cX11_draw 40 = .ok (.lload_n 1, 1) := by decide +kernel
theorem dX11_draw_41 : decode cX11_draw 41 = .ok (.lstore 5, 2) := by decide +kernel
theorem dX11_draw_43 : decode cX11_draw 43 = .ok (.iconst 0, 1) := by decide +kernel
theorem dX11_draw_44 : decode cX11_draw 44 = .ok (.istore 7, 2) := by decide +kernel
theorem dX11_draw_46 : decode cX11_draw 46 = .ok (.iload 7, 2) := by decide +kernel
theorem dX11_draw_48 : decode cX11_draw 48 = .ok (.iload_n 3, 1) := by decide +kernel
theorem dX11_draw_49 : decode cX11_draw 49 = .ok (.if_icmp .ge 192, 3) := by decide +kernel
theorem dX11_draw_52 : decode cX11_draw 52 = .ok (.iconst 0, 1) := by decide +kernel
theorem dX11_draw_53 : decode cX11_draw 53 = .ok (.istore 8, 2) := by decide +kernel
theorem dX11_draw_55 : decode cX11_draw 55 = .ok (.iconst 0, 1) := by decide +kernel
theorem dX11_draw_56 : decode cX11_draw 56 = .ok (.istore 9, 2) := by decide +kernel
theorem dX11_draw_58 : decode cX11_draw 58 = .ok (.iconst 0, 1) := by decide +kernel
theorem dX11_draw_59 : decode cX11_draw 59 = .ok (.istore 10, 2) := by decide +kernel
theorem dX11_draw_61 : decode cX11_draw 61 = .ok (.iload 10, 2) := by decide +kernel
theorem dX11_draw_63 : decode cX11_draw 63 = .ok (.aload_n 0, 1) := by decide +kernel
theorem dX11_draw_64 : decode cX11_draw 64 = .ok (.getfield 114, 3) := by decide +kernel
theorem dX11_draw_67 : decode cX11_draw 67 = .ok (.if_icmp .ge 59, 3) := by decide +kernel
theorem dX11_draw_70 : decode cX11_draw 70 = .ok (.lload 5, 2) := by decide +kernel
theorem dX11_draw_72 : decode cX11_draw 72 = .ok (.ldc2_w 149, 3) := by decide +kernel
theorem dX11_draw_75 : decode cX11_draw 75 = .ok (.lmul, 1) := by decide +kernel
theorem dX11_draw_76 : decode cX11_draw 76 = .ok (.ldc2_w 151, 3) := by decide +kernel
theorem dX11_draw_79 : decode cX11_draw 79 = .ok (.ladd, 1) := by decide +kernel
theorem dX11_draw_80 : decode cX11_draw 80 = .ok (.lstore 5, 2) := by decide +kernel
theorem dX11_draw_82 : decode cX11_draw 82 = .ok (.lload 5, 2) := by decide +kernel
theorem dX11_draw_84 : decode cX11_draw 84 = .ok (.bipush 33, 2) := by decide +kernel
theorem dX11_draw_86 : decode cX11_draw 86 = .ok (.lushr, 1) := by decide +kernel
theorem dX11_draw_87 : decode cX11_draw 87 = .ok (.aload_n 0, 1) := by decide +kernel
theorem dX11_draw_88 : decode cX11_draw 88 = .ok (.getfield 114, 3) := by decide +kernel
theorem dX11_draw_91 : decode cX11_draw 91 = .ok (.i2l, 1) := by decide +kernel
theorem dX11_draw_92 : decode cX11_draw 92 = .ok (.lrem, 1) := by decide +kernel
theorem dX11_draw_93 : decode cX11_draw 93 = .ok (.l2i, 1) := by decide +kernel
theorem dX11_draw_94 : decode cX11_draw 94 = .ok (.istore 11, 2) := by decide +kernel
theorem dX11_draw_96 : decode cX11_draw 96 = .ok (.iload 8, 2) := by decide +kernel
theorem dX11_draw_98 : decode cX11_draw 98 = .ok (.aload_n 0, 1) := by decide +kernel
theorem dX11_draw_99 : decode cX11_draw 99 = .ok (.getfield 25, 3) := by decide +kernel
theorem dX11_draw_102 : decode cX11_draw 102 = .ok (.iload 11, 2) := by decide +kernel
theorem dX11_draw_104 : decode cX11_draw 104 = .ok (.iaload, 1) := by decide +kernel
theorem dX11_draw_105 : decode cX11_draw 105 = .ok (.iadd, 1) := by decide +kernel
theorem dX11_draw_106 : decode cX11_draw 106 = .ok (.istore 8, 2) := by decide +kernel
theorem dX11_draw_108 : decode cX11_draw 108 = .ok (.iload 9, 2) := by decide +kernel
theorem dX11_draw_110 : decode cX11_draw 110 = .ok (.aload_n 0, 1) := by decide +kernel
theorem dX11_draw_111 : decode cX11_draw 111 = .ok (.getfield 28, 3) := by decide +kernel
theorem dX11_draw_114 : decode cX11_draw 114 = .ok (.iload 11, 2) := by decide +kernel
theorem dX11_draw_116 : decode cX11_draw 116 = .ok (.iaload, 1) := by decide +kernel
theorem dX11_draw_117 : decode cX11_draw 117 = .ok (.iadd, 1) := by decide +kernel
theorem dX11_draw_118 : decode cX11_draw 118 = .ok (.istore 9, 2) := by decide +kernel
theorem dX11_draw_120 : decode cX11_draw 120 = .ok (.iinc 10 1, 3) := by decide +kernel
theorem dX11_draw_123 : decode cX11_draw 123 = .ok (.goto (-62), 3) := by decide +kernel
theorem dX11_draw_126 : decode cX11_draw 126 = .ok (.aload_n 0, 1) := by decide +kernel
theorem dX11_draw_127 : decode cX11_draw 127 = .ok (.getfield 146, 3) := by decide +kernel
theorem dX11_draw_130 : decode cX11_draw 130 = .ok (.istore 10, 2) := by decide +kernel
theorem dX11_draw_132 : decode cX11_draw 132 = .ok (.iload 10, 2) := by decide +kernel
theorem dX11_draw_134 : decode cX11_draw 134 = .ok (.ifCond .le 73, 3) := by decide +kernel
theorem dX11_draw_137 : decode cX11_draw 137 = .ok (.aload_n 0, 1) := by decide +kernel
theorem dX11_draw_138 : decode cX11_draw 138 = .ok (.getfield 38, 3) := by decide +kernel
theorem dX11_draw_141 : decode cX11_draw 141 = .ok (.iload 10, 2) := by decide +kernel
theorem dX11_draw_143 : decode cX11_draw 143 = .ok (.iconst 1, 1) := by decide +kernel
theorem dX11_draw_144 : decode cX11_draw 144 = .ok (.isub, 1) := by decide +kernel
theorem dX11_draw_145 : decode cX11_draw 145 = .ok (.iaload, 1) := by decide +kernel
theorem dX11_draw_146 : decode cX11_draw 146 = .ok (.i2l, 1) := by decide +kernel
theorem dX11_draw_147 : decode cX11_draw 147 = .ok (.iload 9, 2) := by decide +kernel
theorem dX11_draw_149 : decode cX11_draw 149 = .ok (.i2l, 1) := by decide +kernel
theorem dX11_draw_150 : decode cX11_draw 150 = .ok (.lmul, 1) := by decide +kernel
theorem dX11_draw_151 : decode cX11_draw 151 = .ok (.iload 8, 2) := by decide +kernel
theorem dX11_draw_153 : decode cX11_draw 153 = .ok (.i2l, 1) := by decide +kernel
theorem dX11_draw_154 : decode cX11_draw 154 = .ok (.aload_n 0, 1) := by decide +kernel
theorem dX11_draw_155 : decode cX11_draw 155 = .ok (.getfield 41, 3) := by decide +kernel
theorem dX11_draw_158 : decode cX11_draw 158 = .ok (.iload 10, 2) := by decide +kernel
theorem dX11_draw_160 : decode cX11_draw 160 = .ok (.iconst 1, 1) := by decide +kernel
theorem dX11_draw_161 : decode cX11_draw 161 = .ok (.isub, 1) := by decide +kernel
theorem dX11_draw_162 : decode cX11_draw 162 = .ok (.iaload, 1) := by decide +kernel
theorem dX11_draw_163 : decode cX11_draw 163 = .ok (.i2l, 1) := by decide +kernel
theorem dX11_draw_164 : decode cX11_draw 164 = .ok (.lmul, 1) := by decide +kernel
theorem dX11_draw_165 : decode cX11_draw 165 = .ok (.lcmp, 1) := by decide +kernel
theorem dX11_draw_166 : decode cX11_draw 166 = .ok (.ifCond .le 41, 3) := by decide +kernel
theorem dX11_draw_169 : decode cX11_draw 169 = .ok (.aload_n 0, 1) := by decide +kernel
theorem dX11_draw_170 : decode cX11_draw 170 = .ok (.getfield 38, 3) := by decide +kernel
theorem dX11_draw_173 : decode cX11_draw 173 = .ok (.iload 10, 2) := by decide +kernel
theorem dX11_draw_175 : decode cX11_draw 175 = .ok (.aload_n 0, 1) := by decide +kernel
theorem dX11_draw_176 : decode cX11_draw 176 = .ok (.getfield 38, 3) := by decide +kernel
theorem dX11_draw_179 : decode cX11_draw 179 = .ok (.iload 10, 2) := by decide +kernel
theorem dX11_draw_181 : decode cX11_draw 181 = .ok (.iconst 1, 1) := by decide +kernel
theorem dX11_draw_182 : decode cX11_draw 182 = .ok (.isub, 1) := by decide +kernel
theorem dX11_draw_183 : decode cX11_draw 183 = .ok (.iaload, 1) := by decide +kernel
theorem dX11_draw_184 : decode cX11_draw 184 = .ok (.iastore, 1) := by decide +kernel
theorem dX11_draw_185 : decode cX11_draw 185 = .ok (.aload_n 0, 1) := by decide +kernel
theorem dX11_draw_186 : decode cX11_draw 186 = .ok (.getfield 41, 3) := by decide +kernel
theorem dX11_draw_189 : decode cX11_draw 189 = .ok (.iload 10, 2) := by decide +kernel
theorem dX11_draw_191 : decode cX11_draw 191 = .ok (.aload_n 0, 1) := by decide +kernel
theorem dX11_draw_192 : decode cX11_draw 192 = .ok (.getfield 41, 3) := by decide +kernel
theorem dX11_draw_195 : decode cX11_draw 195 = .ok (.iload 10, 2) := by decide +kernel
theorem dX11_draw_197 : decode cX11_draw 197 = .ok (.iconst 1, 1) := by decide +kernel
theorem dX11_draw_198 : decode cX11_draw 198 = .ok (.isub, 1) := by decide +kernel
theorem dX11_draw_199 : decode cX11_draw 199 = .ok (.iaload, 1) := by decide +kernel
theorem dX11_draw_200 : decode cX11_draw 200 = .ok (.iastore, 1) := by decide +kernel
theorem dX11_draw_201 : decode cX11_draw 201 = .ok (.iinc 10 (-1), 3) := by decide +kernel
theorem dX11_draw_204 : decode cX11_draw 204 = .ok (.goto (-72), 3) := by decide +kernel
theorem dX11_draw_207 : decode cX11_draw 207 = .ok (.aload_n 0, 1) := by decide +kernel
theorem dX11_draw_208 : decode cX11_draw 208 = .ok (.getfield 38, 3) := by decide +kernel
theorem dX11_draw_211 : decode cX11_draw 211 = .ok (.iload 10, 2) := by decide +kernel
theorem dX11_draw_213 : decode cX11_draw 213 = .ok (.iload 8, 2) := by decide +kernel
theorem dX11_draw_215 : decode cX11_draw 215 = .ok (.iastore, 1) := by decide +kernel
theorem dX11_draw_216 : decode cX11_draw 216 = .ok (.aload_n 0, 1) := by decide +kernel
theorem dX11_draw_217 : decode cX11_draw 217 = .ok (.getfield 41, 3) := by decide +kernel
theorem dX11_draw_220 : decode cX11_draw 220 = .ok (.iload 10, 2) := by decide +kernel
theorem dX11_draw_222 : decode cX11_draw 222 = .ok (.iload 9, 2) := by decide +kernel
theorem dX11_draw_224 : decode cX11_draw 224 = .ok (.iastore, 1) := by decide +kernel
theorem dX11_draw_225 : decode cX11_draw 225 = .ok (.aload_n 0, 1) := by decide +kernel
theorem dX11_draw_226 : decode cX11_draw 226 = .ok (.dup, 1) := by decide +kernel
theorem dX11_draw_227 : decode cX11_draw 227 = .ok (.getfield 146, 3) := by decide +kernel
theorem dX11_draw_230 : decode cX11_draw 230 = .ok (.iconst 1, 1) := by decide +kernel
theorem dX11_draw_231 : decode cX11_draw 231 = .ok (.iadd, 1) := by decide +kernel
theorem dX11_draw_232 : decode cX11_draw 232 = .ok (.putfield 146, 3) := by decide +kernel
theorem dX11_draw_235 : decode cX11_draw 235 = .ok (.iinc 7 1, 3) := by decide +kernel
theorem dX11_draw_238 : decode cX11_draw 238 = .ok (.goto (-192), 3) := by decide +kernel
theorem dX11_draw_241 : decode cX11_draw 241 = .ok (.aload_n 0, 1) := by decide +kernel
theorem dX11_draw_242 : decode cX11_draw 242 = .ok (.getfield 114, 3) := by decide +kernel
theorem dX11_draw_245 : decode cX11_draw 245 = .ok (.ireturn, 1) := by decide +kernel
set_option maxRecDepth 20000 in
theorem ggX11_drawn_X11_in : GoodIn wsX11_drawn wsX11_in := goodIn_r _ [9] (by decide +kernel) (by decide +kernel)
set_option maxRecDepth 20000 in
theorem gX11_drawn_X11_in : GoodIn wsX11_drawn (va_wsS RX11 78 yX11_in wsX11_in) := goodIn_app (goodIn_of _ (by decide +kernel)) ggX11_drawn_X11_in
set_option maxRecDepth 20000 in
theorem ggX11_drawn_X11_told : GoodIn wsX11_drawn wsX11_told := goodIn_r _ [12, 13, 14, 8, 15] (by decide +kernel) (by decide +kernel)
set_option maxRecDepth 20000 in
theorem gX11_drawn_X11_told : GoodIn wsX11_drawn (va_wsS RX11 140 yX11_told wsX11_told) := goodIn_app (goodIn_of _ (by decide +kernel)) ggX11_drawn_X11_told
theorem dX11_drawn_0 : decode cX11_drawn 0 = .ok (.aload_n 0, 1) := by decide +kernel
theorem dX11_drawn_1 : decode cX11_drawn 1 = .ok (.iconst 0, 1) := by decide +kernel
theorem dX11_drawn_2 : decode cX11_drawn 2 = .ok (.putfield 50, 3) := by decide +kernel
theorem dX11_drawn_5 : decode cX11_drawn 5 = .ok (.iload_n 2, 1) := by decide +kernel
theorem dX11_drawn_6 : decode cX11_drawn 6 = .ok (.i2l, 1) := by decide +kernel
theorem dX11_drawn_7 : decode cX11_drawn 7 = .ok (.lconst 0, 1) := by decide +kernel
theorem dX11_drawn_8 : decode cX11_drawn 8 = .ok (.lconst 1, 1) := by decide +kernel
theorem dX11_drawn_9 : decode cX11_drawn 9 = .ok (.invokestatic 78, 3) := by decide +kernel
theorem dX11_drawn_12 : decode cX11_drawn 12 = .ok (.ifCond .ne 7, 3) := by decide +kernel
theorem dX11_drawn_15 : decode cX11_drawn 15 = .ok (.ldc2_w 90, 3) := by decide +kernel
theorem dX11_drawn_18 : decode cX11_drawn 18 = .ok (.lreturn, 1) := by decide +kernel
theorem dX11_drawn_19 : decode cX11_drawn 19 = .ok (.aload_n 0, 1) := by decide +kernel
theorem dX11_drawn_20 : decode cX11_drawn 20 = .ok (.iload_n 1, 1) := by decide +kernel
theorem dX11_drawn_21 : decode cX11_drawn 21 = .ok (.i2l, 1) := by decide +kernel
theorem dX11_drawn_22 : decode cX11_drawn 22 = .ok (.lconst 0, 1) := by decide +kernel
theorem dX11_drawn_23 : decode cX11_drawn 23 = .ok (.aload_n 0, 1) := by decide +kernel
theorem dX11_drawn_24 : decode cX11_drawn 24 = .ok (.getfield 146, 3) := by decide +kernel
theorem dX11_drawn_27 : decode cX11_drawn 27 = .ok (.iconst 1, 1) := by decide +kernel
theorem dX11_drawn_28 : decode cX11_drawn 28 = .ok (.isub, 1) := by decide +kernel
theorem dX11_drawn_29 : decode cX11_drawn 29 = .ok (.i2l, 1) := by decide +kernel
theorem dX11_drawn_30 : decode cX11_drawn 30 = .ok (.invokestatic 78, 3) := by decide +kernel
theorem dX11_drawn_33 : decode cX11_drawn 33 = .ok (.ifCond .eq 7, 3) := by decide +kernel
theorem dX11_drawn_36 : decode cX11_drawn 36 = .ok (.iconst 0, 1) := by decide +kernel
theorem dX11_drawn_37 : decode cX11_drawn 37 = .ok (.goto 4, 3) := by decide +kernel
theorem dX11_drawn_40 : decode cX11_drawn 40 = .ok (.iconst 1, 1) := by decide +kernel
theorem dX11_drawn_41 : decode cX11_drawn 41 = .ok (.putfield 50, 3) := by decide +kernel
theorem dX11_drawn_44 : decode cX11_drawn 44 = .ok (.aload_n 0, 1) := by decide +kernel
theorem dX11_drawn_45 : decode cX11_drawn 45 = .ok (.getfield 50, 3) := by decide +kernel
theorem dX11_drawn_48 : decode cX11_drawn 48 = .ok (.ifCond .le 7, 3) := by decide +kernel
theorem dX11_drawn_51 : decode cX11_drawn 51 = .ok (.lconst 0, 1) := by decide +kernel
theorem dX11_drawn_52 : decode cX11_drawn 52 = .ok (.goto 21, 3) := by decide +kernel
theorem dX11_drawn_55 : decode cX11_drawn 55 = .ok (.aload_n 0, 1) := by decide +kernel
theorem dX11_drawn_56 : decode cX11_drawn 56 = .ok (.getfield 38, 3) := by decide +kernel
theorem dX11_drawn_59 : decode cX11_drawn 59 = .ok (.iload_n 1, 1) := by decide +kernel
theorem dX11_drawn_60 : decode cX11_drawn 60 = .ok (.iaload, 1) := by decide +kernel
theorem dX11_drawn_61 : decode cX11_drawn 61 = .ok (.i2l, 1) := by decide +kernel
theorem dX11_drawn_62 : decode cX11_drawn 62 = .ok (.aload_n 0, 1) := by decide +kernel
theorem dX11_drawn_63 : decode cX11_drawn 63 = .ok (.getfield 41, 3) := by decide +kernel
theorem dX11_drawn_66 : decode cX11_drawn 66 = .ok (.iload_n 1, 1) := by decide +kernel
theorem dX11_drawn_67 : decode cX11_drawn 67 = .ok (.iaload, 1) := by decide +kernel
theorem dX11_drawn_68 : decode cX11_drawn 68 = .ok (.i2l, 1) := by decide +kernel
theorem dX11_drawn_69 : decode cX11_drawn 69 = .ok (.iload_n 2, 1) := by decide +kernel
theorem dX11_drawn_70 : decode cX11_drawn 70 = .ok (.invokestatic 140, 3) := by decide +kernel
theorem dX11_drawn_73 : decode cX11_drawn 73 = .ok (.lreturn, 1) := by decide +kernel
set_option maxRecDepth 20000 in
theorem ggX11_percentile_X11_in : GoodIn wsX11_percentile wsX11_in := goodIn_r _ [11] (by decide +kernel) (by decide +kernel)
set_option maxRecDepth 20000 in
theorem gX11_percentile_X11_in : GoodIn wsX11_percentile (va_wsS RX11 78 yX11_in wsX11_in) := goodIn_app (goodIn_of _ (by decide +kernel)) ggX11_percentile_X11_in
set_option maxRecDepth 20000 in
theorem ggX11_percentile_X11_told : GoodIn wsX11_percentile wsX11_told := goodIn_r _ [14, 15, 16, 10, 17] (by decide +kernel) (by decide +kernel)
set_option maxRecDepth 20000 in
theorem gX11_percentile_X11_told : GoodIn wsX11_percentile (va_wsS RX11 140 yX11_told wsX11_told) := goodIn_app (goodIn_of _ (by decide +kernel)) ggX11_percentile_X11_told
theorem dX11_percentile_0 : decode cX11_percentile 0 = .ok (.aload_n 0, 1) := by decide +kernel
theorem dX11_percentile_1 : decode cX11_percentile 1 = .ok (.iconst 0, 1) := by decide +kernel
theorem dX11_percentile_2 : decode cX11_percentile 2 = .ok (.putfield 50, 3) := by decide +kernel
theorem dX11_percentile_5 : decode cX11_percentile 5 = .ok (.iload_n 2, 1) := by decide +kernel
theorem dX11_percentile_6 : decode cX11_percentile 6 = .ok (.i2l, 1) := by decide +kernel
theorem dX11_percentile_7 : decode cX11_percentile 7 = .ok (.lconst 1, 1) := by decide +kernel
end
section
theorem dX11_percentile_8 : decode cX11_percentile 8 = .ok (.ldc2_w 82, 3) := by decide +kernel
theorem dX11_percentile_11 : decode cX11_percentile 11 = .ok (.invokestatic 78, 3) := by decide +kernel
theorem dX11_percentile_14 : decode cX11_percentile 14 = .ok (.ifCond .eq 24, 3) := by decide +kernel
theorem dX11_percentile_17 : decode cX11_percentile 17 = .ok (.iload_n 1, 1) := by decide +kernel
theorem dX11_percentile_18 : decode cX11_percentile 18 = .ok (.i2l, 1) := by decide +kernel
theorem dX11_percentile_19 : decode cX11_percentile 19 = .ok (.lconst 0, 1) := by decide +kernel
theorem dX11_percentile_20 : decode cX11_percentile 20 = .ok (.iload_n 2, 1) := by decide +kernel
theorem dX11_percentile_21 : decode cX11_percentile 21 = .ok (.i2l, 1) := by decide +kernel
theorem dX11_percentile_22 : decode cX11_percentile 22 = .ok (.invokestatic 78, 3) := by decide +kernel
theorem dX11_percentile_25 : decode cX11_percentile 25 = .ok (.ifCond .eq 13, 3) := by decide +kernel
theorem dX11_percentile_28 : decode cX11_percentile 28 = .ok (.iload_n 3, 1) := by decide +kernel
theorem dX11_percentile_29 : decode cX11_percentile 29 = .ok (.i2l, 1) := by decide +kernel
theorem dX11_percentile_30 : decode cX11_percentile 30 = .ok (.lconst 0, 1) := by decide +kernel
theorem dX11_percentile_31 : decode cX11_percentile 31 = .ok (.lconst 1, 1) := by decide +kernel
theorem dX11_percentile_32 : decode cX11_percentile 32 = .ok (.invokestatic 78, 3) := by decide +kernel
theorem dX11_percentile_35 : decode cX11_percentile 35 = .ok (.ifCond .ne 7, 3) := by decide +kernel
theorem dX11_percentile_38 : decode cX11_percentile 38 = .ok (.ldc2_w 90, 3) := by decide +kernel
theorem dX11_percentile_41 : decode cX11_percentile 41 = .ok (.lreturn, 1) := by decide +kernel
theorem dX11_percentile_42 : decode cX11_percentile 42 = .ok (.aload_n 0, 1) := by decide +kernel
theorem dX11_percentile_43 : decode cX11_percentile 43 = .ok (.getfield 146, 3) := by decide +kernel
theorem dX11_percentile_46 : decode cX11_percentile 46 = .ok (.ifCond .ne 7, 3) := by decide +kernel
theorem dX11_percentile_49 : decode cX11_percentile 49 = .ok (.ldc2_w 153, 3) := by decide +kernel
theorem dX11_percentile_52 : decode cX11_percentile 52 = .ok (.lreturn, 1) := by decide +kernel
theorem dX11_percentile_53 : decode cX11_percentile 53 = .ok (.aload_n 0, 1) := by decide +kernel
theorem dX11_percentile_54 : decode cX11_percentile 54 = .ok (.getfield 146, 3) := by decide +kernel
theorem dX11_percentile_57 : decode cX11_percentile 57 = .ok (.iload_n 1, 1) := by decide +kernel
theorem dX11_percentile_58 : decode cX11_percentile 58 = .ok (.imul, 1) := by decide +kernel
theorem dX11_percentile_59 : decode cX11_percentile 59 = .ok (.iload_n 2, 1) := by decide +kernel
theorem dX11_percentile_60 : decode cX11_percentile 60 = .ok (.iadd, 1) := by decide +kernel
theorem dX11_percentile_61 : decode cX11_percentile 61 = .ok (.iconst 1, 1) := by decide +kernel
theorem dX11_percentile_62 : decode cX11_percentile 62 = .ok (.isub, 1) := by decide +kernel
theorem dX11_percentile_63 : decode cX11_percentile 63 = .ok (.iload_n 2, 1) := by decide +kernel
theorem dX11_percentile_64 : decode cX11_percentile 64 = .ok (.idiv, 1) := by decide +kernel
theorem dX11_percentile_65 : decode cX11_percentile 65 = .ok (.iconst 1, 1) := by decide +kernel
theorem dX11_percentile_66 : decode cX11_percentile 66 = .ok (.isub, 1) := by decide +kernel
theorem dX11_percentile_67 : decode cX11_percentile 67 = .ok (.istore 4, 2) := by decide +kernel
theorem dX11_percentile_69 : decode cX11_percentile 69 = .ok (.iload 4, 2) := by decide +kernel
theorem dX11_percentile_71 : decode cX11_percentile 71 = .ok (.ifCond .ge 7, 3) := by decide +kernel
theorem dX11_percentile_74 : decode cX11_percentile 74 = .ok (.iconst 0, 1) := by decide +kernel
theorem dX11_percentile_75 : decode cX11_percentile 75 = .ok (.goto 5, 3) := by decide +kernel
theorem dX11_percentile_78 : decode cX11_percentile 78 = .ok (.iload 4, 2) := by decide +kernel
theorem dX11_percentile_80 : decode cX11_percentile 80 = .ok (.istore 4, 2) := by decide +kernel
theorem dX11_percentile_82 : decode cX11_percentile 82 = .ok (.aload_n 0, 1) := by decide +kernel
theorem dX11_percentile_83 : decode cX11_percentile 83 = .ok (.getfield 38, 3) := by decide +kernel
theorem dX11_percentile_86 : decode cX11_percentile 86 = .ok (.iload 4, 2) := by decide +kernel
theorem dX11_percentile_88 : decode cX11_percentile 88 = .ok (.iaload, 1) := by decide +kernel
theorem dX11_percentile_89 : decode cX11_percentile 89 = .ok (.i2l, 1) := by decide +kernel
theorem dX11_percentile_90 : decode cX11_percentile 90 = .ok (.aload_n 0, 1) := by decide +kernel
theorem dX11_percentile_91 : decode cX11_percentile 91 = .ok (.getfield 41, 3) := by decide +kernel
theorem dX11_percentile_94 : decode cX11_percentile 94 = .ok (.iload 4, 2) := by decide +kernel
theorem dX11_percentile_96 : decode cX11_percentile 96 = .ok (.iaload, 1) := by decide +kernel
theorem dX11_percentile_97 : decode cX11_percentile 97 = .ok (.i2l, 1) := by decide +kernel
theorem dX11_percentile_98 : decode cX11_percentile 98 = .ok (.iload_n 3, 1) := by decide +kernel
theorem dX11_percentile_99 : decode cX11_percentile 99 = .ok (.invokestatic 140, 3) := by decide +kernel
theorem dX11_percentile_102 : decode cX11_percentile 102 = .ok (.lreturn, 1) := by decide +kernel
theorem dX11_share_0 : decode cX11_share 0 = .ok (.aload_n 0, 1) := by decide +kernel
theorem dX11_share_1 : decode cX11_share 1 = .ok (.aload_n 0, 1) := by decide +kernel
theorem dX11_share_2 : decode cX11_share 2 = .ok (.getfield 146, 3) := by decide +kernel
theorem dX11_share_5 : decode cX11_share 5 = .ok (.ifCond .ne 7, 3) := by decide +kernel
theorem dX11_share_8 : decode cX11_share 8 = .ok (.iconst 1, 1) := by decide +kernel
theorem dX11_share_9 : decode cX11_share 9 = .ok (.goto 4, 3) := by decide +kernel
theorem dX11_share_12 : decode cX11_share 12 = .ok (.iconst 0, 1) := by decide +kernel
theorem dX11_share_13 : decode cX11_share 13 = .ok (.putfield 50, 3) := by decide +kernel
theorem dX11_share_16 : decode cX11_share 16 = .ok (.iconst 0, 1) := by decide +kernel
theorem dX11_share_17 : decode cX11_share 17 = .ok (.istore_n 1, 1) := by decide +kernel
theorem dX11_share_18 : decode cX11_share 18 = .ok (.iconst 0, 1) := by decide +kernel
theorem dX11_share_19 : decode cX11_share 19 = .ok (.istore_n 2, 1) := by decide +kernel
theorem dX11_share_20 : decode cX11_share 20 = .ok (.iload_n 2, 1) := by decide +kernel
theorem dX11_share_21 : decode cX11_share 21 = .ok (.aload_n 0, 1) := by decide +kernel
theorem dX11_share_22 : decode cX11_share 22 = .ok (.getfield 146, 3) := by decide +kernel
theorem dX11_share_25 : decode cX11_share 25 = .ok (.if_icmp .ge 26, 3) := by decide +kernel
theorem dX11_share_28 : decode cX11_share 28 = .ok (.iload_n 1, 1) := by decide +kernel
theorem dX11_share_29 : decode cX11_share 29 = .ok (.aload_n 0, 1) := by decide +kernel
theorem dX11_share_30 : decode cX11_share 30 = .ok (.getfield 38, 3) := by decide +kernel
theorem dX11_share_33 : decode cX11_share 33 = .ok (.iload_n 2, 1) := by decide +kernel
theorem dX11_share_34 : decode cX11_share 34 = .ok (.iaload, 1) := by decide +kernel
theorem dX11_share_35 : decode cX11_share 35 = .ok (.ifCond .le 7, 3) := by decide +kernel
theorem dX11_share_38 : decode cX11_share 38 = .ok (.iconst 1, 1) := by decide +kernel
theorem dX11_share_39 : decode cX11_share 39 = .ok (.goto 4, 3) := by decide +kernel
theorem dX11_share_42 : decode cX11_share 42 = .ok (.iconst 0, 1) := by decide +kernel
theorem dX11_share_43 : decode cX11_share 43 = .ok (.iadd, 1) := by decide +kernel
theorem dX11_share_44 : decode cX11_share 44 = .ok (.istore_n 1, 1) := by decide +kernel
theorem dX11_share_45 : decode cX11_share 45 = .ok (.iinc 2 1, 3) := by decide +kernel
theorem dX11_share_48 : decode cX11_share 48 = .ok (.goto (-28), 3) := by decide +kernel
theorem dX11_share_51 : decode cX11_share 51 = .ok (.aload_n 0, 1) := by decide +kernel
theorem dX11_share_52 : decode cX11_share 52 = .ok (.getfield 50, 3) := by decide +kernel
theorem dX11_share_55 : decode cX11_share 55 = .ok (.ifCond .le 7, 3) := by decide +kernel
theorem dX11_share_58 : decode cX11_share 58 = .ok (.iconst 0, 1) := by decide +kernel
theorem dX11_share_59 : decode cX11_share 59 = .ok (.goto 13, 3) := by decide +kernel
theorem dX11_share_62 : decode cX11_share 62 = .ok (.sipush 1000, 3) := by decide +kernel
theorem dX11_share_65 : decode cX11_share 65 = .ok (.iload_n 1, 1) := by decide +kernel
theorem dX11_share_66 : decode cX11_share 66 = .ok (.imul, 1) := by decide +kernel
theorem dX11_share_67 : decode cX11_share 67 = .ok (.aload_n 0, 1) := by decide +kernel
theorem dX11_share_68 : decode cX11_share 68 = .ok (.getfield 146, 3) := by decide +kernel
theorem dX11_share_71 : decode cX11_share 71 = .ok (.idiv, 1) := by decide +kernel
theorem dX11_share_72 : decode cX11_share 72 = .ok (.ireturn, 1) := by decide +kernel
set_option maxRecDepth 20000 in
theorem ggX11_compare_X11_in : GoodIn wsX11_compare wsX11_in := goodIn_r _ [9] (by decide +kernel) (by decide +kernel)
set_option maxRecDepth 20000 in
theorem gX11_compare_X11_in : GoodIn wsX11_compare (va_wsS RX11 78 yX11_in wsX11_in) := goodIn_app (goodIn_of _ (by decide +kernel)) ggX11_compare_X11_in
theorem dX11_compare_0 : decode cX11_compare 0 = .ok (.aload_n 0, 1) := by decide +kernel
theorem dX11_compare_1 : decode cX11_compare 1 = .ok (.iconst 0, 1) := by decide +kernel
theorem dX11_compare_2 : decode cX11_compare 2 = .ok (.putfield 50, 3) := by decide +kernel
theorem dX11_compare_5 : decode cX11_compare 5 = .ok (.iload_n 2, 1) := by decide +kernel
theorem dX11_compare_6 : decode cX11_compare 6 = .ok (.i2l, 1) := by decide +kernel
theorem dX11_compare_7 : decode cX11_compare 7 = .ok (.lconst 1, 1) := by decide +kernel
theorem dX11_compare_8 : decode cX11_compare 8 = .ok (.ldc2_w 155, 3) := by decide +kernel
theorem dX11_compare_11 : decode cX11_compare 11 = .ok (.invokestatic 78, 3) := by decide +kernel
theorem dX11_compare_14 : decode cX11_compare 14 = .ok (.ifCond .eq 14, 3) := by decide +kernel
theorem dX11_compare_17 : decode cX11_compare 17 = .ok (.iload_n 1, 1) := by decide +kernel
theorem dX11_compare_18 : decode cX11_compare 18 = .ok (.i2l, 1) := by decide +kernel
theorem dX11_compare_19 : decode cX11_compare 19 = .ok (.lconst 0, 1) := by decide +kernel
theorem dX11_compare_20 : decode cX11_compare 20 = .ok (.iload_n 2, 1) := by decide +kernel
theorem dX11_compare_21 : decode cX11_compare 21 = .ok (.i2l, 1) := by decide +kernel
theorem dX11_compare_22 : decode cX11_compare 22 = .ok (.invokestatic 78, 3) := by decide +kernel
theorem dX11_compare_25 : decode cX11_compare 25 = .ok (.ifCond .ne 5, 3) := by decide +kernel
theorem dX11_compare_28 : decode cX11_compare 28 = .ok (.iconst (-1), 1) := by decide +kernel
theorem dX11_compare_29 : decode cX11_compare 29 = .ok (.ireturn, 1) := by decide +kernel
theorem dX11_compare_30 : decode cX11_compare 30 = .ok (.aload_n 0, 1) := by decide +kernel
theorem dX11_compare_31 : decode cX11_compare 31 = .ok (.getfield 157, 3) := by decide +kernel
theorem dX11_compare_34 : decode cX11_compare 34 = .ok (.bipush 10, 2) := by decide +kernel
theorem dX11_compare_36 : decode cX11_compare 36 = .ok (.if_icmp .ne 6, 3) := by decide +kernel
theorem dX11_compare_39 : decode cX11_compare 39 = .ok (.bipush (-2), 2) := by decide +kernel
theorem dX11_compare_41 : decode cX11_compare 41 = .ok (.ireturn, 1) := by decide +kernel
theorem dX11_compare_42 : decode cX11_compare 42 = .ok (.aload_n 0, 1) := by decide +kernel
theorem dX11_compare_43 : decode cX11_compare 43 = .ok (.getfield 44, 3) := by decide +kernel
theorem dX11_compare_46 : decode cX11_compare 46 = .ok (.aload_n 0, 1) := by decide +kernel
theorem dX11_compare_47 : decode cX11_compare 47 = .ok (.getfield 157, 3) := by decide +kernel
theorem dX11_compare_50 : decode cX11_compare 50 = .ok (.iload_n 1, 1) := by decide +kernel
theorem dX11_compare_51 : decode cX11_compare 51 = .ok (.iastore, 1) := by decide +kernel
theorem dX11_compare_52 : decode cX11_compare 52 = .ok (.aload_n 0, 1) := by decide +kernel
theorem dX11_compare_53 : decode cX11_compare 53 = .ok (.getfield 47, 3) := by decide +kernel
theorem dX11_compare_56 : decode cX11_compare 56 = .ok (.aload_n 0, 1) := by decide +kernel
theorem dX11_compare_57 : decode cX11_compare 57 = .ok (.getfield 157, 3) := by decide +kernel
theorem dX11_compare_60 : decode cX11_compare 60 = .ok (.iload_n 2, 1) := by decide +kernel
theorem dX11_compare_61 : decode cX11_compare 61 = .ok (.iastore, 1) := by decide +kernel
theorem dX11_compare_62 : decode cX11_compare 62 = .ok (.aload_n 0, 1) := by decide +kernel
theorem dX11_compare_63 : decode cX11_compare 63 = .ok (.dup, 1) := by decide +kernel
theorem dX11_compare_64 : decode cX11_compare 64 = .ok (.getfield 157, 3) := by decide +kernel
theorem dX11_compare_67 : decode cX11_compare 67 = .ok (.iconst 1, 1) := by decide +kernel
theorem dX11_compare_68 : decode cX11_compare 68 = .ok (.iadd, 1) := by decide +kernel
theorem dX11_compare_69 : decode cX11_compare 69 = .ok (.putfield 157, 3) := by decide +kernel
theorem dX11_compare_72 : decode cX11_compare 72 = .ok (.aload_n 0, 1) := by decide +kernel
theorem dX11_compare_73 : decode cX11_compare 73 = .ok (.getfield 157, 3) := by decide +kernel
theorem dX11_compare_76 : decode cX11_compare 76 = .ok (.iconst 1, 1) := by decide +kernel
theorem dX11_compare_77 : decode cX11_compare 77 = .ok (.isub, 1) := by decide +kernel
theorem dX11_compare_78 : decode cX11_compare 78 = .ok (.ireturn, 1) := by decide +kernel
theorem dX11_placeOf_0 : decode cX11_placeOf 0 = .ok (.iconst 1, 1) := by decide +kernel
theorem dX11_placeOf_1 : decode cX11_placeOf 1 = .ok (.istore_n 2, 1) := by decide +kernel
theorem dX11_placeOf_2 : decode cX11_placeOf 2 = .ok (.iconst 0, 1) := by decide +kernel
theorem dX11_placeOf_3 : decode cX11_placeOf 3 = .ok (.istore_n 3, 1) := by decide +kernel
theorem dX11_placeOf_4 : decode cX11_placeOf 4 = .ok (.iload_n 3, 1) := by decide +kernel
theorem dX11_placeOf_5 : decode cX11_placeOf 5 = .ok (.aload_n 0, 1) := by decide +kernel
theorem dX11_placeOf_6 : decode cX11_placeOf 6 = .ok (.getfield 157, 3) := by decide +kernel
theorem dX11_placeOf_9 : decode cX11_placeOf 9 = .ok (.if_icmp .ge 72, 3) := by decide +kernel
theorem dX11_placeOf_12 : decode cX11_placeOf 12 = .ok (.aload_n 0, 1) := by decide +kernel
theorem dX11_placeOf_13 : decode cX11_placeOf 13 = .ok (.getfield 44, 3) := by decide +kernel
theorem dX11_placeOf_16 : decode cX11_placeOf 16 = .ok (.iload_n 3, 1) := by decide +kernel
theorem dX11_placeOf_17 : decode cX11_placeOf 17 = .ok (.iaload, 1) := by decide +kernel
theorem dX11_placeOf_18 : decode cX11_placeOf 18 = .ok (.i2l, 1) := by decide +kernel
theorem dX11_placeOf_19 : decode cX11_placeOf 19 = .ok (.aload_n 0, 1) := by decide +kernel
theorem dX11_placeOf_20 : decode cX11_placeOf 20 = .ok (.getfield 47, 3) := by decide +kernel
theorem dX11_placeOf_23 : decode cX11_placeOf 23 = .ok (.iload_n 1, 1) := by decide +kernel
theorem dX11_placeOf_24 : decode cX11_placeOf 24 = .ok (.iaload, 1) := by decide +kernel
theorem dX11_placeOf_25 : decode cX11_placeOf 25 = .ok (.i2l, 1) := by decide +kernel
theorem dX11_placeOf_26 : decode cX11_placeOf 26 = .ok (.lmul, 1) := by decide +kernel
theorem dX11_placeOf_27 : decode cX11_placeOf 27 = .ok (.lstore 4, 2) := by decide +kernel
theorem dX11_placeOf_29 : decode cX11_placeOf 29 = .ok (.aload_n 0, 1) := by decide +kernel
theorem dX11_placeOf_30 : decode cX11_placeOf 30 = .ok (.getfield 44, 3) := by decide +kernel
theorem dX11_placeOf_33 : decode cX11_placeOf 33 = .ok (.iload_n 1, 1) := by decide +kernel
theorem dX11_placeOf_34 : decode cX11_placeOf 34 = .ok (.iaload, 1) := by decide +kernel
theorem dX11_placeOf_35 : decode cX11_placeOf 35 = .ok (.i2l, 1) := by decide +kernel
theorem dX11_placeOf_36 : decode cX11_placeOf 36 = .ok (.aload_n 0, 1) := by decide +kernel
theorem dX11_placeOf_37 : decode cX11_placeOf 37 = .ok (.getfield 47, 3) := by decide +kernel
theorem dX11_placeOf_40 : decode cX11_placeOf 40 = .ok (.iload_n 3, 1) := by decide +kernel
theorem dX11_placeOf_41 : decode cX11_placeOf 41 = .ok (.iaload, 1) := by decide +kernel
theorem dX11_placeOf_42 : decode cX11_placeOf 42 = .ok (.i2l, 1) := by decide +kernel
theorem dX11_placeOf_43 : decode cX11_placeOf 43 = .ok (.lmul, 1) := by decide +kernel
theorem dX11_placeOf_44 : decode cX11_placeOf 44 = .ok (.lstore 6, 2) := by decide +kernel
theorem dX11_placeOf_46 : decode cX11_placeOf 46 = .ok (.iload_n 2, 1) := by decide +kernel
theorem dX11_placeOf_47 : decode cX11_placeOf 47 = .ok (.lload 4, 2) := by decide +kernel
theorem dX11_placeOf_49 : decode cX11_placeOf 49 = .ok (.lload 6, 2) := by decide +kernel
theorem dX11_placeOf_51 : decode cX11_placeOf 51 = .ok (.lcmp, 1) := by decide +kernel
theorem dX11_placeOf_52 : decode cX11_placeOf 52 = .ok (.ifCond .lt 16, 3) := by decide +kernel
theorem dX11_placeOf_55 : decode cX11_placeOf 55 = .ok (.lload 4, 2) := by decide +kernel
theorem dX11_placeOf_57 : decode cX11_placeOf 57 = .ok (.lload 6, 2) := by decide +kernel
theorem dX11_placeOf_59 : decode cX11_placeOf 59 = .ok (.lcmp, 1) := by decide +kernel
theorem dX11_placeOf_60 : decode cX11_placeOf 60 = .ok (.ifCond .ne 12, 3) := by decide +kernel
theorem dX11_placeOf_63 : decode cX11_placeOf 63 = .ok (.iload_n 3, 1) := by decide +kernel
theorem dX11_placeOf_64 : decode cX11_placeOf 64 = .ok (.iload_n 1, 1) := by decide +kernel
theorem dX11_placeOf_65 : decode cX11_placeOf 65 = .ok (.if_icmp .ge 7, 3) := by decide +kernel
theorem dX11_placeOf_68 : decode cX11_placeOf 68 = .ok (.iconst 1, 1) := by decide +kernel
theorem dX11_placeOf_69 : decode cX11_placeOf 69 = .ok (.goto 4, 3) := by decide +kernel
theorem dX11_placeOf_72 : decode cX11_placeOf 72 = .ok (.iconst 0, 1) := by decide +kernel
theorem dX11_placeOf_73 : decode cX11_placeOf 73 = .ok (.iadd, 1) := by decide +kernel
theorem dX11_placeOf_74 : decode cX11_placeOf 74 = .ok (.istore_n 2, 1) := by decide +kernel
theorem dX11_placeOf_75 : decode cX11_placeOf 75 = .ok (.iinc 3 1, 3) := by decide +kernel
theorem dX11_placeOf_78 : decode cX11_placeOf 78 = .ok (.goto (-74), 3) := by decide +kernel
theorem dX11_placeOf_81 : decode cX11_placeOf 81 = .ok (.iload_n 2, 1) := by decide +kernel
theorem dX11_placeOf_82 : decode cX11_placeOf 82 = .ok (.ireturn, 1) := by decide +kernel
set_option maxRecDepth 20000 in
theorem ggX11_raised_X11_in : GoodIn wsX11_raised wsX11_in := goodIn_r _ [11] (by decide +kernel) (by decide +kernel)
set_option maxRecDepth 20000 in
theorem gX11_raised_X11_in : GoodIn wsX11_raised (va_wsS RX11 78 yX11_in wsX11_in) := goodIn_app (goodIn_of _ (by decide +kernel)) ggX11_raised_X11_in
set_option maxRecDepth 20000 in
theorem ggX11_raised_X11_placeOf : GoodIn wsX11_raised wsX11_placeOf := goodIn_r _ [15, 4, 6, 7, 22, 23, 24, 25, 26, 27, 28, 29, 30, 31, 32, 33, 34, 35, 36, 37, 38, 39, 40, 41, 42, 43, 44, 45, 46, 47] (by decide +kernel) (by decide +kernel)
set_option maxRecDepth 20000 in
theorem gX11_raised_X11_placeOf : GoodIn wsX11_raised (wsV RX11 160 RX11 yX11_placeOf wsX11_placeOf) := goodIn_app (goodIn_of _ (by decide +kernel)) ggX11_raised_X11_placeOf
set_option maxRecDepth 20000 in
theorem ggX11_raised_X11_told : GoodIn wsX11_raised wsX11_told := goodIn_r _ [18, 19, 20, 10, 21] (by decide +kernel) (by decide +kernel)
set_option maxRecDepth 20000 in
theorem gX11_raised_X11_told : GoodIn wsX11_raised (va_wsS RX11 140 yX11_told wsX11_told) := goodIn_app (goodIn_of _ (by decide +kernel)) ggX11_raised_X11_told
theorem dX11_raised_0 : decode cX11_raised 0 = .ok (.aload_n 0, 1) := by decide +kernel
theorem dX11_raised_1 : decode cX11_raised 1 = .ok (.iconst 0, 1) := by decide +kernel
theorem dX11_raised_2 : decode cX11_raised 2 = .ok (.putfield 50, 3) := by decide +kernel
theorem dX11_raised_5 : decode cX11_raised 5 = .ok (.iload_n 1, 1) := by decide +kernel
theorem dX11_raised_6 : decode cX11_raised 6 = .ok (.i2l, 1) := by decide +kernel
theorem dX11_raised_7 : decode cX11_raised 7 = .ok (.lconst 0, 1) := by decide +kernel
theorem dX11_raised_8 : decode cX11_raised 8 = .ok (.ldc2_w 108, 3) := by decide +kernel
theorem dX11_raised_11 : decode cX11_raised 11 = .ok (.invokestatic 78, 3) := by decide +kernel
theorem dX11_raised_14 : decode cX11_raised 14 = .ok (.ifCond .eq 13, 3) := by decide +kernel
theorem dX11_raised_17 : decode cX11_raised 17 = .ok (.iload_n 3, 1) := by decide +kernel
theorem dX11_raised_18 : decode cX11_raised 18 = .ok (.i2l, 1) := by decide +kernel
theorem dX11_raised_19 : decode cX11_raised 19 = .ok (.lconst 0, 1) := by decide +kernel
theorem dX11_raised_20 : decode cX11_raised 20 = .ok (.lconst 1, 1) := by decide +kernel
theorem dX11_raised_21 : decode cX11_raised 21 = .ok (.invokestatic 78, 3) := by decide +kernel
theorem dX11_raised_24 : decode cX11_raised 24 = .ok (.ifCond .ne 7, 3) := by decide +kernel
theorem dX11_raised_27 : decode cX11_raised 27 = .ok (.ldc2_w 90, 3) := by decide +kernel
theorem dX11_raised_30 : decode cX11_raised 30 = .ok (.lreturn, 1) := by decide +kernel
theorem dX11_raised_31 : decode cX11_raised 31 = .ok (.iload_n 2, 1) := by decide +kernel
theorem dX11_raised_32 : decode cX11_raised 32 = .ok (.i2l, 1) := by decide +kernel
theorem dX11_raised_33 : decode cX11_raised 33 = .ok (.lconst 0, 1) := by decide +kernel
theorem dX11_raised_34 : decode cX11_raised 34 = .ok (.aload_n 0, 1) := by decide +kernel
theorem dX11_raised_35 : decode cX11_raised 35 = .ok (.getfield 157, 3) := by decide +kernel
theorem dX11_raised_38 : decode cX11_raised 38 = .ok (.iconst 1, 1) := by decide +kernel
theorem dX11_raised_39 : decode cX11_raised 39 = .ok (.isub, 1) := by decide +kernel
theorem dX11_raised_40 : decode cX11_raised 40 = .ok (.i2l, 1) := by decide +kernel
theorem dX11_raised_41 : decode cX11_raised 41 = .ok (.invokestatic 78, 3) := by decide +kernel
theorem dX11_raised_44 : decode cX11_raised 44 = .ok (.ifCond .ne 7, 3) := by decide +kernel
theorem dX11_raised_47 : decode cX11_raised 47 = .ok (.ldc2_w 153, 3) := by decide +kernel
theorem dX11_raised_50 : decode cX11_raised 50 = .ok (.lreturn, 1) := by decide +kernel
theorem dX11_raised_51 : decode cX11_raised 51 = .ok (.aload_n 0, 1) := by decide +kernel
theorem dX11_raised_52 : decode cX11_raised 52 = .ok (.iload_n 2, 1) := by decide +kernel
theorem dX11_raised_53 : decode cX11_raised 53 = .ok (.invokevirtual 160, 3) := by decide +kernel
theorem dX11_raised_56 : decode cX11_raised 56 = .ok (.istore 4, 2) := by decide +kernel
theorem dX11_raised_58 : decode cX11_raised 58 = .ok (.aload_n 0, 1) := by decide +kernel
theorem dX11_raised_59 : decode cX11_raised 59 = .ok (.getfield 157, 3) := by decide +kernel
theorem dX11_raised_62 : decode cX11_raised 62 = .ok (.i2l, 1) := by decide +kernel
theorem dX11_raised_63 : decode cX11_raised 63 = .ok (.aload_n 0, 1) := by decide +kernel
theorem dX11_raised_64 : decode cX11_raised 64 = .ok (.getfield 44, 3) := by decide +kernel
theorem dX11_raised_67 : decode cX11_raised 67 = .ok (.iload_n 2, 1) := by decide +kernel
theorem dX11_raised_68 : decode cX11_raised 68 = .ok (.iaload, 1) := by decide +kernel
theorem dX11_raised_69 : decode cX11_raised 69 = .ok (.i2l, 1) := by decide +kernel
theorem dX11_raised_70 : decode cX11_raised 70 = .ok (.lmul, 1) := by decide +kernel
theorem dX11_raised_71 : decode cX11_raised 71 = .ok (.lstore 5, 2) := by decide +kernel
theorem dX11_raised_73 : decode cX11_raised 73 = .ok (.aload_n 0, 1) := by decide +kernel
theorem dX11_raised_74 : decode cX11_raised 74 = .ok (.getfield 47, 3) := by decide +kernel
theorem dX11_raised_77 : decode cX11_raised 77 = .ok (.iload_n 2, 1) := by decide +kernel
theorem dX11_raised_78 : decode cX11_raised 78 = .ok (.iaload, 1) := by decide +kernel
theorem dX11_raised_79 : decode cX11_raised 79 = .ok (.i2l, 1) := by decide +kernel
theorem dX11_raised_80 : decode cX11_raised 80 = .ok (.lstore 7, 2) := by decide +kernel
theorem dX11_raised_82 : decode cX11_raised 82 = .ok (.iload_n 1, 1) := by decide +kernel
theorem dX11_raised_83 : decode cX11_raised 83 = .ok (.ifCond .le 7, 3) := by decide +kernel
theorem dX11_raised_86 : decode cX11_raised 86 = .ok (.iconst 1, 1) := by decide +kernel
theorem dX11_raised_87 : decode cX11_raised 87 = .ok (.goto 4, 3) := by decide +kernel
theorem dX11_raised_90 : decode cX11_raised 90 = .ok (.iconst 0, 1) := by decide +kernel
theorem dX11_raised_91 : decode cX11_raised 91 = .ok (.istore 9, 2) := by decide +kernel
theorem dX11_raised_93 : decode cX11_raised 93 = .ok (.iconst 0, 1) := by decide +kernel
theorem dX11_raised_94 : decode cX11_raised 94 = .ok (.istore 10, 2) := by decide +kernel
theorem dX11_raised_96 : decode cX11_raised 96 = .ok (.iload 10, 2) := by decide +kernel
theorem dX11_raised_98 : decode cX11_raised 98 = .ok (.aload_n 0, 1) := by decide +kernel
theorem dX11_raised_99 : decode cX11_raised 99 = .ok (.getfield 157, 3) := by decide +kernel
theorem dX11_raised_102 : decode cX11_raised 102 = .ok (.if_icmp .ge 196, 3) := by decide +kernel
theorem dX11_raised_105 : decode cX11_raised 105 = .ok (.iload_n 1, 1) := by decide +kernel
theorem dX11_raised_106 : decode cX11_raised 106 = .ok (.ifCond .le 192, 3) := by decide +kernel
theorem dX11_raised_109 : decode cX11_raised 109 = .ok (.aload_n 0, 1) := by decide +kernel
theorem dX11_raised_110 : decode cX11_raised 110 = .ok (.iload 10, 2) := by decide +kernel
theorem dX11_raised_112 : decode cX11_raised 112 = .ok (.invokevirtual 160, 3) := by decide +kernel
theorem dX11_raised_115 : decode cX11_raised 115 = .ok (.istore 11, 2) := by decide +kernel
theorem dX11_raised_117 : decode cX11_raised 117 = .ok (.iload_n 1, 1) := by decide +kernel
theorem dX11_raised_118 : decode cX11_raised 118 = .ok (.iconst 1, 1) := by decide +kernel
theorem dX11_raised_119 : decode cX11_raised 119 = .ok (.if_icmp .ne 13, 3) := by decide +kernel
theorem dX11_raised_122 : decode cX11_raised 122 = .ok (.iload 11, 2) := by decide +kernel
theorem dX11_raised_124 : decode cX11_raised 124 = .ok (.iload 4, 2) := by decide +kernel
theorem dX11_raised_126 : decode cX11_raised 126 = .ok (.if_icmp .gt 166, 3) := by decide +kernel
theorem dX11_raised_129 : decode cX11_raised 129 = .ok (.goto 10, 3) := by decide +kernel
theorem dX11_raised_132 : decode cX11_raised 132 = .ok (.iload 11, 2) := by decide +kernel
theorem dX11_raised_134 : decode cX11_raised 134 = .ok (.iload 4, 2) := by decide +kernel
theorem dX11_raised_136 : decode cX11_raised 136 = .ok (.if_icmp .lt 156, 3) := by decide +kernel
theorem dX11_raised_139 : decode cX11_raised 139 = .ok (.iload_n 1, 1) := by decide +kernel
theorem dX11_raised_140 : decode cX11_raised 140 = .ok (.iconst 1, 1) := by decide +kernel
theorem dX11_raised_141 : decode cX11_raised 141 = .ok (.if_icmp .ne 26, 3) := by decide +kernel
theorem dX11_raised_144 : decode cX11_raised 144 = .ok (.aload_n 0, 1) := by decide +kernel
theorem dX11_raised_145 : decode cX11_raised 145 = .ok (.getfield 157, 3) := by decide +kernel
theorem dX11_raised_148 : decode cX11_raised 148 = .ok (.i2l, 1) := by decide +kernel
theorem dX11_raised_149 : decode cX11_raised 149 = .ok (.lconst 1, 1) := by decide +kernel
theorem dX11_raised_150 : decode cX11_raised 150 = .ok (.ladd, 1) := by decide +kernel
theorem dX11_raised_151 : decode cX11_raised 151 = .ok (.iload 11, 2) := by decide +kernel
theorem dX11_raised_153 : decode cX11_raised 153 = .ok (.i2l, 1) := by decide +kernel
theorem dX11_raised_154 : decode cX11_raised 154 = .ok (.lsub, 1) := by decide +kernel
theorem dX11_raised_155 : decode cX11_raised 155 = .ok (.aload_n 0, 1) := by decide +kernel
theorem dX11_raised_156 : decode cX11_raised 156 = .ok (.getfield 44, 3) := by decide +kernel
theorem dX11_raised_159 : decode cX11_raised 159 = .ok (.iload 10, 2) := by decide +kernel
theorem dX11_raised_161 : decode cX11_raised 161 = .ok (.iaload, 1) := by decide +kernel
theorem dX11_raised_162 : decode cX11_raised 162 = .ok (.i2l, 1) := by decide +kernel
theorem dX11_raised_163 : decode cX11_raised 163 = .ok (.lmul, 1) := by decide +kernel
theorem dX11_raised_164 : decode cX11_raised 164 = .ok (.goto 17, 3) := by decide +kernel
theorem dX11_raised_167 : decode cX11_raised 167 = .ok (.aload_n 0, 1) := by decide +kernel
theorem dX11_raised_168 : decode cX11_raised 168 = .ok (.getfield 157, 3) := by decide +kernel
theorem dX11_raised_171 : decode cX11_raised 171 = .ok (.i2l, 1) := by decide +kernel
theorem dX11_raised_172 : decode cX11_raised 172 = .ok (.aload_n 0, 1) := by decide +kernel
theorem dX11_raised_173 : decode cX11_raised 173 = .ok (.getfield 44, 3) := by decide +kernel
theorem dX11_raised_176 : decode cX11_raised 176 = .ok (.iload 10, 2) := by decide +kernel
theorem dX11_raised_178 : decode cX11_raised 178 = .ok (.iaload, 1) := by decide +kernel
theorem dX11_raised_179 : decode cX11_raised 179 = .ok (.i2l, 1) := by decide +kernel
theorem dX11_raised_180 : decode cX11_raised 180 = .ok (.lmul, 1) := by decide +kernel
theorem dX11_raised_181 : decode cX11_raised 181 = .ok (.lstore 12, 2) := by decide +kernel
theorem dX11_raised_183 : decode cX11_raised 183 = .ok (.iload_n 1, 1) := by decide +kernel
theorem dX11_raised_184 : decode cX11_raised 184 = .ok (.iconst 1, 1) := by decide +kernel
theorem dX11_raised_185 : decode cX11_raised 185 = .ok (.if_icmp .ne 14, 3) := by decide +kernel
theorem dX11_raised_188 : decode cX11_raised 188 = .ok (.aload_n 0, 1) := by decide +kernel
theorem dX11_raised_189 : decode cX11_raised 189 = .ok (.getfield 47, 3) := by decide +kernel
theorem dX11_raised_192 : decode cX11_raised 192 = .ok (.iload 10, 2) := by decide +kernel
theorem dX11_raised_194 : decode cX11_raised 194 = .ok (.iaload, 1) := by decide +kernel
theorem dX11_raised_195 : decode cX11_raised 195 = .ok (.i2l, 1) := by decide +kernel
theorem dX11_raised_196 : decode cX11_raised 196 = .ok (.goto 15, 3) := by decide +kernel
theorem dX11_raised_199 : decode cX11_raised 199 = .ok (.iload 11, 2) := by decide +kernel
theorem dX11_raised_201 : decode cX11_raised 201 = .ok (.i2l, 1) := by decide +kernel
theorem dX11_raised_202 : decode cX11_raised 202 = .ok (.aload_n 0, 1) := by decide +kernel
theorem dX11_raised_203 : decode cX11_raised 203 = .ok (.getfield 47, 3) := by decide +kernel
theorem dX11_raised_206 : decode cX11_raised 206 = .ok (.iload 10, 2) := by decide +kernel
theorem dX11_raised_208 : decode cX11_raised 208 = .ok (.iaload, 1) := by decide +kernel
theorem dX11_raised_209 : decode cX11_raised 209 = .ok (.i2l, 1) := by decide +kernel
theorem dX11_raised_210 : decode cX11_raised 210 = .ok (.lmul, 1) := by decide +kernel
theorem dX11_raised_211 : decode cX11_raised 211 = .ok (.lstore 14, 2) := by decide +kernel
theorem dX11_raised_213 : decode cX11_raised 213 = .ok (.iload 9, 2) := by decide +kernel
theorem dX11_raised_215 : decode cX11_raised 215 = .ok (.ifCond .ne 39, 3) := by decide +kernel
theorem dX11_raised_218 : decode cX11_raised 218 = .ok (.iload_n 1, 1) := by decide +kernel
theorem dX11_raised_219 : decode cX11_raised 219 = .ok (.iconst 1, 1) := by decide +kernel
theorem dX11_raised_220 : decode cX11_raised 220 = .ok (.if_icmp .ne 20, 3) := by decide +kernel
theorem dX11_raised_223 : decode cX11_raised 223 = .ok (.lload 12, 2) := by decide +kernel
theorem dX11_raised_225 : decode cX11_raised 225 = .ok (.lload 7, 2) := by decide +kernel
theorem dX11_raised_227 : decode cX11_raised 227 = .ok (.lmul, 1) := by decide +kernel
theorem dX11_raised_228 : decode cX11_raised 228 = .ok (.lload 5, 2) := by decide +kernel
theorem dX11_raised_230 : decode cX11_raised 230 = .ok (.lload 14, 2) := by decide +kernel
theorem dX11_raised_232 : decode cX11_raised 232 = .ok (.lmul, 1) := by decide +kernel
theorem dX11_raised_233 : decode cX11_raised 233 = .ok (.lcmp, 1) := by decide +kernel
theorem dX11_raised_234 : decode cX11_raised 234 = .ok (.ifCond .le 24, 3) := by decide +kernel
theorem dX11_raised_237 : decode cX11_raised 237 = .ok (.goto 17, 3) := by decide +kernel
theorem dX11_raised_240 : decode cX11_raised 240 = .ok (.lload 12, 2) := by decide +kernel
theorem dX11_raised_242 : decode cX11_raised 242 = .ok (.lload 7, 2) := by decide +kernel
theorem dX11_raised_244 : decode cX11_raised 244 = .ok (.lmul, 1) := by decide +kernel
theorem dX11_raised_245 : decode cX11_raised 245 = .ok (.lload 5, 2) := by decide +kernel
theorem dX11_raised_247 : decode cX11_raised 247 = .ok (.lload 14, 2) := by decide +kernel
theorem dX11_raised_249 : decode cX11_raised 249 = .ok (.lmul, 1) := by decide +kernel
theorem dX11_raised_250 : decode cX11_raised 250 = .ok (.lcmp, 1) := by decide +kernel
theorem dX11_raised_251 : decode cX11_raised 251 = .ok (.ifCond .ge 7, 3) := by decide +kernel
theorem dX11_raised_254 : decode cX11_raised 254 = .ok (.iconst 1, 1) := by decide +kernel
theorem dX11_raised_255 : decode cX11_raised 255 = .ok (.goto 4, 3) := by decide +kernel
theorem dX11_raised_258 : decode cX11_raised 258 = .ok (.iconst 0, 1) := by decide +kernel
theorem dX11_raised_259 : decode cX11_raised 259 = .ok (.istore 16, 2) := by decide +kernel
theorem dX11_raised_261 : decode cX11_raised 261 = .ok (.iload 16, 2) := by decide +kernel
theorem dX11_raised_263 : decode cX11_raised 263 = .ok (.ifCond .eq 8, 3) := by decide +kernel
theorem dX11_raised_266 : decode cX11_raised 266 = .ok (.lload 12, 2) := by decide +kernel
theorem dX11_raised_268 : decode cX11_raised 268 = .ok (.goto 5, 3) := by decide +kernel
theorem dX11_raised_271 : decode cX11_raised 271 = .ok (.lload 5, 2) := by decide +kernel
theorem dX11_raised_273 : decode cX11_raised 273 = .ok (.lstore 5, 2) := by decide +kernel
theorem dX11_raised_275 : decode cX11_raised 275 = .ok (.iload 16, 2) := by decide +kernel
theorem dX11_raised_277 : decode cX11_raised 277 = .ok (.ifCond .eq 8, 3) := by decide +kernel
theorem dX11_raised_280 : decode cX11_raised 280 = .ok (.lload 14, 2) := by decide +kernel
theorem dX11_raised_282 : decode cX11_raised 282 = .ok (.goto 5, 3) := by decide +kernel
theorem dX11_raised_285 : decode cX11_raised 285 = .ok (.lload 7, 2) := by decide +kernel
theorem dX11_raised_287 : decode cX11_raised 287 = .ok (.lstore 7, 2) := by decide +kernel
theorem dX11_raised_289 : decode cX11_raised 289 = .ok (.iconst 0, 1) := by decide +kernel
theorem dX11_raised_290 : decode cX11_raised 290 = .ok (.istore 9, 2) := by decide +kernel
theorem dX11_raised_292 : decode cX11_raised 292 = .ok (.iinc 10 1, 3) := by decide +kernel
theorem dX11_raised_295 : decode cX11_raised 295 = .ok (.goto (-199), 3) := by decide +kernel
theorem dX11_raised_298 : decode cX11_raised 298 = .ok (.lload 5, 2) := by decide +kernel
theorem dX11_raised_300 : decode cX11_raised 300 = .ok (.lload 7, 2) := by decide +kernel
theorem dX11_raised_302 : decode cX11_raised 302 = .ok (.lcmp, 1) := by decide +kernel
theorem dX11_raised_303 : decode cX11_raised 303 = .ok (.ifCond .le 7, 3) := by decide +kernel
theorem dX11_raised_306 : decode cX11_raised 306 = .ok (.lconst 1, 1) := by decide +kernel
theorem dX11_raised_307 : decode cX11_raised 307 = .ok (.goto 11, 3) := by decide +kernel
theorem dX11_raised_310 : decode cX11_raised 310 = .ok (.lload 5, 2) := by decide +kernel
theorem dX11_raised_312 : decode cX11_raised 312 = .ok (.lload 7, 2) := by decide +kernel
theorem dX11_raised_314 : decode cX11_raised 314 = .ok (.iload_n 3, 1) := by decide +kernel
theorem dX11_raised_315 : decode cX11_raised 315 = .ok (.invokestatic 140, 3) := by decide +kernel
theorem dX11_raised_318 : decode cX11_raised 318 = .ok (.lreturn, 1) := by decide +kernel
theorem dX11_forget_0 : decode cX11_forget 0 = .ok (.aload_n 0, 1) := by decide +kernel
theorem dX11_forget_1 : decode cX11_forget 1 = .ok (.iconst 0, 1) := by decide +kernel
theorem dX11_forget_2 : decode cX11_forget 2 = .ok (.putfield 50, 3) := by decide +kernel
theorem dX11_forget_5 : decode cX11_forget 5 = .ok (.aload_n 0, 1) := by decide +kernel
theorem dX11_forget_6 : decode cX11_forget 6 = .ok (.getfield 157, 3) := by decide +kernel
theorem dX11_forget_9 : decode cX11_forget 9 = .ok (.istore_n 1, 1) := by decide +kernel
theorem dX11_forget_10 : decode cX11_forget 10 = .ok (.aload_n 0, 1) := by decide +kernel
theorem dX11_forget_11 : decode cX11_forget 11 = .ok (.iconst 0, 1) := by decide +kernel
theorem dX11_forget_12 : decode cX11_forget 12 = .ok (.putfield 157, 3) := by decide +kernel
theorem dX11_forget_15 : decode cX11_forget 15 = .ok (.iload_n 1, 1) := by decide +kernel
theorem dX11_forget_16 : decode cX11_forget 16 = .ok (.ireturn, 1) := by decide +kernel
set_option maxRecDepth 20000 in
theorem ggX11_begin_X11_in : GoodIn wsX11_begin wsX11_in := goodIn_r _ [15] (by decide +kernel) (by decide +kernel)
set_option maxRecDepth 20000 in
theorem gX11_begin_X11_in : GoodIn wsX11_begin (va_wsS RX11 78 yX11_in wsX11_in) := goodIn_app (goodIn_of _ (by decide +kernel)) ggX11_begin_X11_in
set_option maxRecDepth 20000 in
theorem ggX11_begin_X11_isTrust : GoodIn wsX11_begin wsX11_isTrust := goodIn_r _ [18, 2, 19, 12, 13, 14, 15] (by decide +kernel) (by decide +kernel)
set_option maxRecDepth 20000 in
theorem gX11_begin_X11_isTrust : GoodIn wsX11_begin (va_wsS RX11 110 yX11_isTrust wsX11_isTrust) := goodIn_app (goodIn_of _ (by decide +kernel)) ggX11_begin_X11_isTrust
theorem dX11_begin_0 : decode cX11_begin 0 = .ok (.aload_n 0, 1) := by decide +kernel
theorem dX11_begin_1 : decode cX11_begin 1 = .ok (.iconst 0, 1) := by decide +kernel
theorem dX11_begin_2 : decode cX11_begin 2 = .ok (.putfield 50, 3) := by decide +kernel
theorem dX11_begin_5 : decode cX11_begin 5 = .ok (.iload_n 2, 1) := by decide +kernel
theorem dX11_begin_6 : decode cX11_begin 6 = .ok (.i2l, 1) := by decide +kernel
theorem dX11_begin_7 : decode cX11_begin 7 = .ok (.ldc2_w 108, 3) := by decide +kernel
theorem dX11_begin_10 : decode cX11_begin 10 = .ok (.ldc2_w 122, 3) := by decide +kernel
theorem dX11_begin_13 : decode cX11_begin 13 = .ok (.invokestatic 78, 3) := by decide +kernel
theorem dX11_begin_16 : decode cX11_begin 16 = .ok (.ifCond .eq 16, 3) := by decide +kernel
theorem dX11_begin_19 : decode cX11_begin 19 = .ok (.iload_n 1, 1) := by decide +kernel
theorem dX11_begin_20 : decode cX11_begin 20 = .ok (.i2l, 1) := by decide +kernel
theorem dX11_begin_21 : decode cX11_begin 21 = .ok (.lconst 1, 1) := by decide +kernel
theorem dX11_begin_22 : decode cX11_begin 22 = .ok (.iload_n 2, 1) := by decide +kernel
theorem dX11_begin_23 : decode cX11_begin 23 = .ok (.iconst 1, 1) := by decide +kernel
theorem dX11_begin_24 : decode cX11_begin 24 = .ok (.isub, 1) := by decide +kernel
theorem dX11_begin_25 : decode cX11_begin 25 = .ok (.i2l, 1) := by decide +kernel
theorem dX11_begin_26 : decode cX11_begin 26 = .ok (.invokestatic 78, 3) := by decide +kernel
theorem dX11_begin_29 : decode cX11_begin 29 = .ok (.ifCond .ne 5, 3) := by decide +kernel
theorem dX11_begin_32 : decode cX11_begin 32 = .ok (.iconst (-1), 1) := by decide +kernel
theorem dX11_begin_33 : decode cX11_begin 33 = .ok (.ireturn, 1) := by decide +kernel
theorem dX11_begin_34 : decode cX11_begin 34 = .ok (.iload_n 3, 1) := by decide +kernel
theorem dX11_begin_35 : decode cX11_begin 35 = .ok (.iload 4, 2) := by decide +kernel
theorem dX11_begin_37 : decode cX11_begin 37 = .ok (.invokestatic 110, 3) := by decide +kernel
theorem dX11_begin_40 : decode cX11_begin 40 = .ok (.ifCond .ne 10, 3) := by decide +kernel
theorem dX11_begin_43 : decode cX11_begin 43 = .ok (.aload_n 0, 1) := by decide +kernel
theorem dX11_begin_44 : decode cX11_begin 44 = .ok (.iconst 1, 1) := by decide +kernel
theorem dX11_begin_45 : decode cX11_begin 45 = .ok (.putfield 50, 3) := by decide +kernel
theorem dX11_begin_48 : decode cX11_begin 48 = .ok (.iconst 0, 1) := by decide +kernel
theorem dX11_begin_49 : decode cX11_begin 49 = .ok (.ireturn, 1) := by decide +kernel
theorem dX11_begin_50 : decode cX11_begin 50 = .ok (.aload_n 0, 1) := by decide +kernel
theorem dX11_begin_51 : decode cX11_begin 51 = .ok (.iconst 1, 1) := by decide +kernel
theorem dX11_begin_52 : decode cX11_begin 52 = .ok (.putfield 164, 3) := by decide +kernel
theorem dX11_begin_55 : decode cX11_begin 55 = .ok (.aload_n 0, 1) := by decide +kernel
theorem dX11_begin_56 : decode cX11_begin 56 = .ok (.iload_n 1, 1) := by decide +kernel
theorem dX11_begin_57 : decode cX11_begin 57 = .ok (.putfield 168, 3) := by decide +kernel
theorem dX11_begin_60 : decode cX11_begin 60 = .ok (.aload_n 0, 1) := by decide +kernel
theorem dX11_begin_61 : decode cX11_begin 61 = .ok (.iload_n 2, 1) := by decide +kernel
theorem dX11_begin_62 : decode cX11_begin 62 = .ok (.putfield 171, 3) := by decide +kernel
theorem dX11_begin_65 : decode cX11_begin 65 = .ok (.aload_n 0, 1) := by decide +kernel
theorem dX11_begin_66 : decode cX11_begin 66 = .ok (.iload_n 3, 1) := by decide +kernel
theorem dX11_begin_67 : decode cX11_begin 67 = .ok (.putfield 174, 3) := by decide +kernel
theorem dX11_begin_70 : decode cX11_begin 70 = .ok (.aload_n 0, 1) := by decide +kernel
theorem dX11_begin_71 : decode cX11_begin 71 = .ok (.iload 4, 2) := by decide +kernel
theorem dX11_begin_73 : decode cX11_begin 73 = .ok (.putfield 177, 3) := by decide +kernel
theorem dX11_begin_76 : decode cX11_begin 76 = .ok (.aload_n 0, 1) := by decide +kernel
theorem dX11_begin_77 : decode cX11_begin 77 = .ok (.iconst 0, 1) := by decide +kernel
theorem dX11_begin_78 : decode cX11_begin 78 = .ok (.putfield 180, 3) := by decide +kernel
theorem dX11_begin_81 : decode cX11_begin 81 = .ok (.aload_n 0, 1) := by decide +kernel
theorem dX11_begin_82 : decode cX11_begin 82 = .ok (.iconst 0, 1) := by decide +kernel
theorem dX11_begin_83 : decode cX11_begin 83 = .ok (.putfield 183, 3) := by decide +kernel
theorem dX11_begin_86 : decode cX11_begin 86 = .ok (.aload_n 0, 1) := by decide +kernel
theorem dX11_begin_87 : decode cX11_begin 87 = .ok (.iconst 0, 1) := by decide +kernel
theorem dX11_begin_88 : decode cX11_begin 88 = .ok (.putfield 186, 3) := by decide +kernel
theorem dX11_begin_91 : decode cX11_begin 91 = .ok (.iconst 1, 1) := by decide +kernel
theorem dX11_begin_92 : decode cX11_begin 92 = .ok (.ireturn, 1) := by decide +kernel
set_option maxRecDepth 20000 in
theorem ggX11_isRich_X11_power : GoodIn wsX11_isRich wsX11_power := goodIn_r _ [12, 13, 14, 11, 15, 16, 17, 18, 19, 20] (by decide +kernel) (by decide +kernel)
set_option maxRecDepth 20000 in
theorem gX11_isRich_X11_power : GoodIn wsX11_isRich (va_wsS RX11 96 yX11_power wsX11_power) := goodIn_app (goodIn_of _ (by decide +kernel)) ggX11_isRich_X11_power
set_option maxRecDepth 20000 in
theorem ggX11_isRich_X11_times : GoodIn wsX11_isRich wsX11_times := goodIn_r _ [19, 20] (by decide +kernel) (by decide +kernel)
set_option maxRecDepth 20000 in
theorem gX11_isRich_X11_times : GoodIn wsX11_isRich (va_wsS RX11 61 yX11_times wsX11_times) := goodIn_app (goodIn_of _ (by decide +kernel)) ggX11_isRich_X11_times
set_option maxRecDepth 20000 in
theorem ggX11_isRich_X11_term : GoodIn wsX11_isRich wsX11_term := goodIn_r _ [23, 13, 14, 11, 15, 16, 17, 18, 19, 20, 24, 25, 26] (by decide +kernel) (by decide +kernel)
set_option maxRecDepth 20000 in
theorem gX11_isRich_X11_term : GoodIn wsX11_isRich (va_wsS RX11 68 yX11_term wsX11_term) := goodIn_app (goodIn_of _ (by decide +kernel)) ggX11_isRich_X11_term
set_option maxRecDepth 20000 in
theorem ggX11_isRich_X11_compared : GoodIn wsX11_isRich wsX11_compared := goodIn_r _ [29] (by decide +kernel) (by decide +kernel)
set_option maxRecDepth 20000 in
theorem gX11_isRich_X11_compared : GoodIn wsX11_isRich (va_wsS RX11 100 yX11_compared wsX11_compared) := goodIn_app (goodIn_of _ (by decide +kernel)) ggX11_isRich_X11_compared
theorem dX11_isRich_0 : decode cX11_isRich 0 = .ok (.aload_n 0, 1) := by decide +kernel
theorem dX11_isRich_1 : decode cX11_isRich 1 = .ok (.getfield 7, 3) := by decide +kernel
theorem dX11_isRich_4 : decode cX11_isRich 4 = .ok (.aload_n 0, 1) := by decide +kernel
theorem dX11_isRich_5 : decode cX11_isRich 5 = .ok (.getfield 171, 3) := by decide +kernel
theorem dX11_isRich_8 : decode cX11_isRich 8 = .ok (.aload_n 0, 1) := by decide +kernel
theorem dX11_isRich_9 : decode cX11_isRich 9 = .ok (.getfield 180, 3) := by decide +kernel
theorem dX11_isRich_12 : decode cX11_isRich 12 = .ok (.invokestatic 96, 3) := by decide +kernel
theorem dX11_isRich_15 : decode cX11_isRich 15 = .ok (.aload_n 0, 1) := by decide +kernel
theorem dX11_isRich_16 : decode cX11_isRich 16 = .ok (.getfield 7, 3) := by decide +kernel
theorem dX11_isRich_19 : decode cX11_isRich 19 = .ok (.aload_n 0, 1) := by decide +kernel
theorem dX11_isRich_20 : decode cX11_isRich 20 = .ok (.getfield 174, 3) := by decide +kernel
theorem dX11_isRich_23 : decode cX11_isRich 23 = .ok (.i2l, 1) := by decide +kernel
theorem dX11_isRich_24 : decode cX11_isRich 24 = .ok (.invokestatic 61, 3) := by decide +kernel
theorem dX11_isRich_27 : decode cX11_isRich 27 = .ok (.aload_n 0, 1) := by decide +kernel
theorem dX11_isRich_28 : decode cX11_isRich 28 = .ok (.getfield 13, 3) := by decide +kernel
theorem dX11_isRich_31 : decode cX11_isRich 31 = .ok (.aload_n 0, 1) := by decide +kernel
theorem dX11_isRich_32 : decode cX11_isRich 32 = .ok (.getfield 180, 3) := by decide +kernel
theorem dX11_isRich_35 : decode cX11_isRich 35 = .ok (.aload_n 0, 1) := by decide +kernel
theorem dX11_isRich_36 : decode cX11_isRich 36 = .ok (.getfield 183, 3) := by decide +kernel
theorem dX11_isRich_39 : decode cX11_isRich 39 = .ok (.aload_n 0, 1) := by decide +kernel
theorem dX11_isRich_40 : decode cX11_isRich 40 = .ok (.getfield 168, 3) := by decide +kernel
theorem dX11_isRich_43 : decode cX11_isRich 43 = .ok (.aload_n 0, 1) := by decide +kernel
theorem dX11_isRich_44 : decode cX11_isRich 44 = .ok (.getfield 171, 3) := by decide +kernel
theorem dX11_isRich_47 : decode cX11_isRich 47 = .ok (.aload_n 0, 1) := by decide +kernel
theorem dX11_isRich_48 : decode cX11_isRich 48 = .ok (.getfield 168, 3) := by decide +kernel
theorem dX11_isRich_51 : decode cX11_isRich 51 = .ok (.isub, 1) := by decide +kernel
theorem dX11_isRich_52 : decode cX11_isRich 52 = .ok (.invokestatic 68, 3) := by decide +kernel
theorem dX11_isRich_55 : decode cX11_isRich 55 = .ok (.aload_n 0, 1) := by decide +kernel
theorem dX11_isRich_56 : decode cX11_isRich 56 = .ok (.getfield 13, 3) := by decide +kernel
theorem dX11_isRich_59 : decode cX11_isRich 59 = .ok (.aload_n 0, 1) := by decide +kernel
theorem dX11_isRich_60 : decode cX11_isRich 60 = .ok (.getfield 180, 3) := by decide +kernel
theorem dX11_isRich_63 : decode cX11_isRich 63 = .ok (.iconst 1, 1) := by decide +kernel
theorem dX11_isRich_64 : decode cX11_isRich 64 = .ok (.iadd, 1) := by decide +kernel
theorem dX11_isRich_65 : decode cX11_isRich 65 = .ok (.i2l, 1) := by decide +kernel
theorem dX11_isRich_66 : decode cX11_isRich 66 = .ok (.invokestatic 61, 3) := by decide +kernel
theorem dX11_isRich_69 : decode cX11_isRich 69 = .ok (.aload_n 0, 1) := by decide +kernel
theorem dX11_isRich_70 : decode cX11_isRich 70 = .ok (.getfield 13, 3) := by decide +kernel
theorem dX11_isRich_73 : decode cX11_isRich 73 = .ok (.aload_n 0, 1) := by decide +kernel
theorem dX11_isRich_74 : decode cX11_isRich 74 = .ok (.getfield 177, 3) := by decide +kernel
theorem dX11_isRich_77 : decode cX11_isRich 77 = .ok (.i2l, 1) := by decide +kernel
theorem dX11_isRich_78 : decode cX11_isRich 78 = .ok (.invokestatic 61, 3) := by decide +kernel
theorem dX11_isRich_81 : decode cX11_isRich 81 = .ok (.aload_n 0, 1) := by decide +kernel
theorem dX11_isRich_82 : decode cX11_isRich 82 = .ok (.getfield 7, 3) := by decide +kernel
theorem dX11_isRich_85 : decode cX11_isRich 85 = .ok (.aload_n 0, 1) := by decide +kernel
theorem dX11_isRich_86 : decode cX11_isRich 86 = .ok (.getfield 13, 3) := by decide +kernel
theorem dX11_isRich_89 : decode cX11_isRich 89 = .ok (.invokestatic 100, 3) := by decide +kernel
theorem dX11_isRich_92 : decode cX11_isRich 92 = .ok (.ifCond .lt 7, 3) := by decide +kernel
theorem dX11_isRich_95 : decode cX11_isRich 95 = .ok (.iconst 1, 1) := by decide +kernel
theorem dX11_isRich_96 : decode cX11_isRich 96 = .ok (.goto 4, 3) := by decide +kernel
theorem dX11_isRich_99 : decode cX11_isRich 99 = .ok (.iconst 0, 1) := by decide +kernel
theorem dX11_isRich_100 : decode cX11_isRich 100 = .ok (.ireturn, 1) := by decide +kernel
set_option maxRecDepth 20000 in
theorem ggX11_hit_X11_isRich : GoodIn wsX11_hit wsX11_isRich := goodIn_r _ [10, 11, 12, 3, 13, 14, 4, 15, 16, 17, 18, 9, 19, 20, 21, 22, 23, 24, 25, 26, 27, 28, 29, 30, 31, 32, 33, 34, 35, 36, 37, 38, 39, 40, 41, 42, 43, 44, 45, 46, 47, 48, 49, 50, 51, 52, 53, 54, 55, 56, 57, 58, 59, 60, 61, 62] (by decide +kernel) (by decide +kernel)
set_option maxRecDepth 20000 in
theorem gX11_hit_X11_isRich : GoodIn wsX11_hit (wsV RX11 189 RX11 yX11_isRich wsX11_isRich) := goodIn_app (goodIn_of _ (by decide +kernel)) ggX11_hit_X11_isRich
theorem dX11_hit_0 : decode cX11_hit 0 = .ok (.aload_n 0, 1) := by decide +kernel
theorem dX11_hit_1 : decode cX11_hit 1 = .ok (.iconst 0, 1) := by decide +kernel
theorem dX11_hit_2 : decode cX11_hit 2 = .ok (.putfield 50, 3) := by decide +kernel
theorem dX11_hit_5 : decode cX11_hit 5 = .ok (.aload_n 0, 1) := by decide +kernel
theorem dX11_hit_6 : decode cX11_hit 6 = .ok (.getfield 164, 3) := by decide +kernel
theorem dX11_hit_9 : decode cX11_hit 9 = .ok (.ifCond .ne 6, 3) := by decide +kernel
theorem dX11_hit_12 : decode cX11_hit 12 = .ok (.bipush (-3), 2) := by decide +kernel
theorem dX11_hit_14 : decode cX11_hit 14 = .ok (.ireturn, 1) := by decide +kernel
theorem dX11_hit_15 : decode cX11_hit 15 = .ok (.aload_n 0, 1) := by decide +kernel
theorem dX11_hit_16 : decode cX11_hit 16 = .ok (.getfield 180, 3) := by decide +kernel
theorem dX11_hit_19 : decode cX11_hit 19 = .ok (.bipush 60, 2) := by decide +kernel
theorem dX11_hit_21 : decode cX11_hit 21 = .ok (.if_icmp .ne 6, 3) := by decide +kernel
theorem dX11_hit_24 : decode cX11_hit 24 = .ok (.bipush (-2), 2) := by decide +kernel
theorem dX11_hit_26 : decode cX11_hit 26 = .ok (.ireturn, 1) := by decide +kernel
theorem dX11_hit_27 : decode cX11_hit 27 = .ok (.aload_n 0, 1) := by decide +kernel
theorem dX11_hit_28 : decode cX11_hit 28 = .ok (.dup, 1) := by decide +kernel
theorem dX11_hit_29 : decode cX11_hit 29 = .ok (.getfield 180, 3) := by decide +kernel
theorem dX11_hit_32 : decode cX11_hit 32 = .ok (.iconst 1, 1) := by decide +kernel
theorem dX11_hit_33 : decode cX11_hit 33 = .ok (.iadd, 1) := by decide +kernel
theorem dX11_hit_34 : decode cX11_hit 34 = .ok (.putfield 180, 3) := by decide +kernel
theorem dX11_hit_37 : decode cX11_hit 37 = .ok (.aload_n 0, 1) := by decide +kernel
theorem dX11_hit_38 : decode cX11_hit 38 = .ok (.dup, 1) := by decide +kernel
theorem dX11_hit_39 : decode cX11_hit 39 = .ok (.getfield 183, 3) := by decide +kernel
theorem dX11_hit_42 : decode cX11_hit 42 = .ok (.iload_n 1, 1) := by decide +kernel
theorem dX11_hit_43 : decode cX11_hit 43 = .ok (.ifCond .eq 7, 3) := by decide +kernel
theorem dX11_hit_46 : decode cX11_hit 46 = .ok (.iconst 1, 1) := by decide +kernel
theorem dX11_hit_47 : decode cX11_hit 47 = .ok (.goto 4, 3) := by decide +kernel
theorem dX11_hit_50 : decode cX11_hit 50 = .ok (.iconst 0, 1) := by decide +kernel
theorem dX11_hit_51 : decode cX11_hit 51 = .ok (.iadd, 1) := by decide +kernel
theorem dX11_hit_52 : decode cX11_hit 52 = .ok (.putfield 183, 3) := by decide +kernel
theorem dX11_hit_55 : decode cX11_hit 55 = .ok (.aload_n 0, 1) := by decide +kernel
theorem dX11_hit_56 : decode cX11_hit 56 = .ok (.getfield 186, 3) := by decide +kernel
theorem dX11_hit_59 : decode cX11_hit 59 = .ok (.ifCond .ne 18, 3) := by decide +kernel
theorem dX11_hit_62 : decode cX11_hit 62 = .ok (.aload_n 0, 1) := by decide +kernel
theorem dX11_hit_63 : decode cX11_hit 63 = .ok (.invokevirtual 189, 3) := by decide +kernel
theorem dX11_hit_66 : decode cX11_hit 66 = .ok (.ifCond .eq 11, 3) := by decide +kernel
theorem dX11_hit_69 : decode cX11_hit 69 = .ok (.aload_n 0, 1) := by decide +kernel
theorem dX11_hit_70 : decode cX11_hit 70 = .ok (.aload_n 0, 1) := by decide +kernel
theorem dX11_hit_71 : decode cX11_hit 71 = .ok (.getfield 180, 3) := by decide +kernel
theorem dX11_hit_74 : decode cX11_hit 74 = .ok (.putfield 186, 3) := by decide +kernel
theorem dX11_hit_77 : decode cX11_hit 77 = .ok (.aload_n 0, 1) := by decide +kernel
theorem dX11_hit_78 : decode cX11_hit 78 = .ok (.getfield 186, 3) := by decide +kernel
theorem dX11_hit_81 : decode cX11_hit 81 = .ok (.ifCond .le 7, 3) := by decide +kernel
theorem dX11_hit_84 : decode cX11_hit 84 = .ok (.iconst 1, 1) := by decide +kernel
theorem dX11_hit_85 : decode cX11_hit 85 = .ok (.goto 4, 3) := by decide +kernel
theorem dX11_hit_88 : decode cX11_hit 88 = .ok (.iconst 0, 1) := by decide +kernel
theorem dX11_hit_89 : decode cX11_hit 89 = .ok (.ireturn, 1) := by decide +kernel
set_option maxRecDepth 20000 in
theorem ggX11_test_X11_isRich : GoodIn wsX11_test wsX11_isRich := goodIn_r _ [10, 11, 12, 3, 13, 14, 4, 15, 16, 17, 18, 9, 19, 20, 21, 22, 23, 24, 25, 26, 27, 28, 29, 30, 31, 32, 33, 34, 35, 36, 37, 38, 39, 40, 41, 42, 43, 44, 45, 46, 47, 48, 49, 50, 51, 52, 53, 54, 55, 56, 57, 58, 59, 60, 61, 62] (by decide +kernel) (by decide +kernel)
set_option maxRecDepth 20000 in
theorem gX11_test_X11_isRich : GoodIn wsX11_test (wsV RX11 189 RX11 yX11_isRich wsX11_isRich) := goodIn_app (goodIn_of _ (by decide +kernel)) ggX11_test_X11_isRich
theorem dX11_test_0 : decode cX11_test 0 = .ok (.aload_n 0, 1) := by decide +kernel
theorem dX11_test_1 : decode cX11_test 1 = .ok (.iconst 0, 1) := by decide +kernel
theorem dX11_test_2 : decode cX11_test 2 = .ok (.putfield 50, 3) := by decide +kernel
theorem dX11_test_5 : decode cX11_test 5 = .ok (.aload_n 0, 1) := by decide +kernel
theorem dX11_test_6 : decode cX11_test 6 = .ok (.getfield 164, 3) := by decide +kernel
theorem dX11_test_9 : decode cX11_test 9 = .ok (.ifCond .ne 6, 3) := by decide +kernel
theorem dX11_test_12 : decode cX11_test 12 = .ok (.bipush (-3), 2) := by decide +kernel
theorem dX11_test_14 : decode cX11_test 14 = .ok (.ireturn, 1) := by decide +kernel
theorem dX11_test_15 : decode cX11_test 15 = .ok (.iload_n 1, 1) := by decide +kernel
theorem dX11_test_16 : decode cX11_test 16 = .ok (.tableswitch 60 0 3 #[32, 37, 42, 47], 32) := by decide +kernel
theorem dX11_test_48 : decode cX11_test 48 = .ok (.aload_n 0, 1) := by decide +kernel
theorem dX11_test_49 : decode cX11_test 49 = .ok (.getfield 180, 3) := by decide +kernel
theorem dX11_test_52 : decode cX11_test 52 = .ok (.ireturn, 1) := by decide +kernel
theorem dX11_test_53 : decode cX11_test 53 = .ok (.aload_n 0, 1) := by decide +kernel
theorem dX11_test_54 : decode cX11_test 54 = .ok (.getfield 183, 3) := by decide +kernel
theorem dX11_test_57 : decode cX11_test 57 = .ok (.ireturn, 1) := by decide +kernel
end
section
theorem dX11_test_58 : decode cX11_test 58 = .ok (.aload_n 0, 1) := by decide +kernel
theorem dX11_test_59 : decode cX11_test 59 = .ok (.getfield 186, 3) := by decide +kernel
theorem dX11_test_62 : decode cX11_test 62 = .ok (.ireturn, 1) := by decide +kernel
theorem dX11_test_63 : decode cX11_test 63 = .ok (.aload_n 0, 1) := by decide +kernel
theorem dX11_test_64 : decode cX11_test 64 = .ok (.invokevirtual 189, 3) := by decide +kernel
theorem dX11_test_67 : decode cX11_test 67 = .ok (.ifCond .eq 7, 3) := by decide +kernel
theorem dX11_test_70 : decode cX11_test 70 = .ok (.iconst 1, 1) := by decide +kernel
theorem dX11_test_71 : decode cX11_test 71 = .ok (.goto 4, 3) := by decide +kernel
theorem dX11_test_74 : decode cX11_test 74 = .ok (.iconst 0, 1) := by decide +kernel
theorem dX11_test_75 : decode cX11_test 75 = .ok (.ireturn, 1) := by decide +kernel
theorem dX11_test_76 : decode cX11_test 76 = .ok (.iconst (-1), 1) := by decide +kernel
theorem dX11_test_77 : decode cX11_test 77 = .ok (.ireturn, 1) := by decide +kernel
set_option maxRecDepth 20000 in
theorem ggX11_count__X11_unite : GoodIn wsX11_count_ wsX11_unite := goodIn_r _ [10, 3, 2, 11, 12, 13, 14, 15, 16, 17, 18, 19, 20, 21, 22, 23, 24, 25, 26, 27, 28, 29, 30, 31, 32, 33, 34, 35, 36, 37, 38, 39, 40, 41] (by decide +kernel) (by decide +kernel)
set_option maxRecDepth 20000 in
theorem gX11_count__X11_unite : GoodIn wsX11_count_ (wsV RX11 124 RX11 yX11_unite wsX11_unite) := goodIn_app (goodIn_of _ (by decide +kernel)) ggX11_count__X11_unite
theorem dX11_count__0 : decode cX11_count_ 0 = .ok (.aload_n 0, 1) := by decide +kernel
theorem dX11_count__1 : decode cX11_count_ 1 = .ok (.iconst 0, 1) := by decide +kernel
theorem dX11_count__2 : decode cX11_count_ 2 = .ok (.putfield 50, 3) := by decide +kernel
theorem dX11_count__5 : decode cX11_count_ 5 = .ok (.aload_n 0, 1) := by decide +kernel
theorem dX11_count__6 : decode cX11_count_ 6 = .ok (.iconst 1, 1) := by decide +kernel
theorem dX11_count__7 : decode cX11_count_ 7 = .ok (.invokevirtual 124, 3) := by decide +kernel
theorem dX11_count__10 : decode cX11_count_ 10 = .ok (.iload_n 1, 1) := by decide +kernel
theorem dX11_count__11 : decode cX11_count_ 11 = .ok (.tableswitch 49 0 3 #[29, 34, 39, 44], 29) := by decide +kernel
theorem dX11_count__40 : decode cX11_count_ 40 = .ok (.aload_n 0, 1) := by decide +kernel
theorem dX11_count__41 : decode cX11_count_ 41 = .ok (.getfield 117, 3) := by decide +kernel
theorem dX11_count__44 : decode cX11_count_ 44 = .ok (.ireturn, 1) := by decide +kernel
theorem dX11_count__45 : decode cX11_count_ 45 = .ok (.aload_n 0, 1) := by decide +kernel
theorem dX11_count__46 : decode cX11_count_ 46 = .ok (.getfield 114, 3) := by decide +kernel
theorem dX11_count__49 : decode cX11_count_ 49 = .ok (.ireturn, 1) := by decide +kernel
theorem dX11_count__50 : decode cX11_count_ 50 = .ok (.aload_n 0, 1) := by decide +kernel
theorem dX11_count__51 : decode cX11_count_ 51 = .ok (.getfield 146, 3) := by decide +kernel
theorem dX11_count__54 : decode cX11_count_ 54 = .ok (.ireturn, 1) := by decide +kernel
theorem dX11_count__55 : decode cX11_count_ 55 = .ok (.aload_n 0, 1) := by decide +kernel
theorem dX11_count__56 : decode cX11_count_ 56 = .ok (.getfield 157, 3) := by decide +kernel
theorem dX11_count__59 : decode cX11_count_ 59 = .ok (.ireturn, 1) := by decide +kernel
theorem dX11_count__60 : decode cX11_count_ 60 = .ok (.iconst (-1), 1) := by decide +kernel
theorem dX11_count__61 : decode cX11_count_ 61 = .ok (.ireturn, 1) := by decide +kernel
theorem dX11_clear_0 : decode cX11_clear 0 = .ok (.aload_n 0, 1) := by decide +kernel
theorem dX11_clear_1 : decode cX11_clear 1 = .ok (.iconst 0, 1) := by decide +kernel
theorem dX11_clear_2 : decode cX11_clear 2 = .ok (.putfield 50, 3) := by decide +kernel
theorem dX11_clear_5 : decode cX11_clear 5 = .ok (.aload_n 0, 1) := by decide +kernel
theorem dX11_clear_6 : decode cX11_clear 6 = .ok (.getfield 117, 3) := by decide +kernel
theorem dX11_clear_9 : decode cX11_clear 9 = .ok (.istore_n 1, 1) := by decide +kernel
theorem dX11_clear_10 : decode cX11_clear 10 = .ok (.aload_n 0, 1) := by decide +kernel
theorem dX11_clear_11 : decode cX11_clear 11 = .ok (.iconst 0, 1) := by decide +kernel
theorem dX11_clear_12 : decode cX11_clear 12 = .ok (.putfield 117, 3) := by decide +kernel
theorem dX11_clear_15 : decode cX11_clear 15 = .ok (.aload_n 0, 1) := by decide +kernel
theorem dX11_clear_16 : decode cX11_clear 16 = .ok (.iconst 0, 1) := by decide +kernel
theorem dX11_clear_17 : decode cX11_clear 17 = .ok (.putfield 146, 3) := by decide +kernel
theorem dX11_clear_20 : decode cX11_clear 20 = .ok (.aload_n 0, 1) := by decide +kernel
theorem dX11_clear_21 : decode cX11_clear 21 = .ok (.iconst 0, 1) := by decide +kernel
theorem dX11_clear_22 : decode cX11_clear 22 = .ok (.putfield 157, 3) := by decide +kernel
theorem dX11_clear_25 : decode cX11_clear 25 = .ok (.aload_n 0, 1) := by decide +kernel
theorem dX11_clear_26 : decode cX11_clear 26 = .ok (.iconst 0, 1) := by decide +kernel
theorem dX11_clear_27 : decode cX11_clear 27 = .ok (.putfield 164, 3) := by decide +kernel
theorem dX11_clear_30 : decode cX11_clear 30 = .ok (.iload_n 1, 1) := by decide +kernel
theorem dX11_clear_31 : decode cX11_clear 31 = .ok (.ireturn, 1) := by decide +kernel
theorem dJ9_abs_0f7a4_0 : decode cJ9_abs_0f7a4 0 = .ok (.iload_n 0, 1) := by decide +kernel
theorem dJ9_abs_0f7a4_1 : decode cJ9_abs_0f7a4 1 = .ok (.ifCond .ge 8, 3) := by decide +kernel
theorem dJ9_abs_0f7a4_4 : decode cJ9_abs_0f7a4 4 = .ok (.iload_n 0, 1) := by decide +kernel
theorem dJ9_abs_0f7a4_5 : decode cJ9_abs_0f7a4 5 = .ok (.ineg, 1) := by decide +kernel
theorem dJ9_abs_0f7a4_6 : decode cJ9_abs_0f7a4 6 = .ok (.goto 4, 3) := by decide +kernel
theorem dJ9_abs_0f7a4_9 : decode cJ9_abs_0f7a4 9 = .ok (.iload_n 0, 1) := by decide +kernel
theorem dJ9_abs_0f7a4_10 : decode cJ9_abs_0f7a4 10 = .ok (.ireturn, 1) := by decide +kernel
theorem dJ9_abs_067f4_0 : decode cJ9_abs_067f4 0 = .ok (.lload_n 0, 1) := by decide +kernel
theorem dJ9_abs_067f4_1 : decode cJ9_abs_067f4 1 = .ok (.lconst 0, 1) := by decide +kernel
theorem dJ9_abs_067f4_2 : decode cJ9_abs_067f4 2 = .ok (.lcmp, 1) := by decide +kernel
theorem dJ9_abs_067f4_3 : decode cJ9_abs_067f4 3 = .ok (.ifCond .ge 8, 3) := by decide +kernel
theorem dJ9_abs_067f4_6 : decode cJ9_abs_067f4 6 = .ok (.lload_n 0, 1) := by decide +kernel
theorem dJ9_abs_067f4_7 : decode cJ9_abs_067f4 7 = .ok (.lneg, 1) := by decide +kernel
theorem dJ9_abs_067f4_8 : decode cJ9_abs_067f4 8 = .ok (.goto 4, 3) := by decide +kernel
theorem dJ9_abs_067f4_11 : decode cJ9_abs_067f4 11 = .ok (.lload_n 0, 1) := by decide +kernel
theorem dJ9_abs_067f4_12 : decode cJ9_abs_067f4 12 = .ok (.lreturn, 1) := by decide +kernel
theorem dJ9_max_7cf53_0 : decode cJ9_max_7cf53 0 = .ok (.iload_n 0, 1) := by decide +kernel
theorem dJ9_max_7cf53_1 : decode cJ9_max_7cf53 1 = .ok (.iload_n 1, 1) := by decide +kernel
theorem dJ9_max_7cf53_2 : decode cJ9_max_7cf53 2 = .ok (.if_icmp .lt 7, 3) := by decide +kernel
theorem dJ9_max_7cf53_5 : decode cJ9_max_7cf53 5 = .ok (.iload_n 0, 1) := by decide +kernel
theorem dJ9_max_7cf53_6 : decode cJ9_max_7cf53 6 = .ok (.goto 4, 3) := by decide +kernel
theorem dJ9_max_7cf53_9 : decode cJ9_max_7cf53 9 = .ok (.iload_n 1, 1) := by decide +kernel
theorem dJ9_max_7cf53_10 : decode cJ9_max_7cf53 10 = .ok (.ireturn, 1) := by decide +kernel
theorem dJ9_min_7cf53_0 : decode cJ9_min_7cf53 0 = .ok (.iload_n 0, 1) := by decide +kernel
theorem dJ9_min_7cf53_1 : decode cJ9_min_7cf53 1 = .ok (.iload_n 1, 1) := by decide +kernel
theorem dJ9_min_7cf53_2 : decode cJ9_min_7cf53 2 = .ok (.if_icmp .gt 7, 3) := by decide +kernel
theorem dJ9_min_7cf53_5 : decode cJ9_min_7cf53 5 = .ok (.iload_n 0, 1) := by decide +kernel
theorem dJ9_min_7cf53_6 : decode cJ9_min_7cf53 6 = .ok (.goto 4, 3) := by decide +kernel
theorem dJ9_min_7cf53_9 : decode cJ9_min_7cf53 9 = .ok (.iload_n 1, 1) := by decide +kernel
theorem dJ9_min_7cf53_10 : decode cJ9_min_7cf53 10 = .ok (.ireturn, 1) := by decide +kernel
set_option maxRecDepth 20000 in
theorem ggL_bound_X10_bound : GoodIn wsL_bound wsX10_bound := goodIn_ca (goodIn_r _ [6, 7, 8, 9, 10, 11, 12, 13, 14, 15, 5, 16, 17, 18, 19, 20, 21, 22, 23, 24, 25, 26, 27, 28, 29, 30, 31, 32, 33, 34, 35, 36, 37, 38, 39, 40, 41, 42, 43, 44, 45, 46, 47, 48, 49, 50, 51, 52, 53, 54, 55, 56, 57, 58, 59, 60, 61, 62, 63, 64, 65, 66, 67, 68, 69, 70, 71, 72, 73, 74, 75, 76, 77, 78, 79, 80, 81, 82, 83, 84, 85, 86] (by decide +kernel) (by decide +kernel)) (goodIn_sub (fun _ h => List.mem_cons_of_mem _ (List.mem_append_right _ h)) (by decide +kernel))
set_option maxRecDepth 20000 in
theorem gL_bound_X10_bound : GoodIn wsL_bound (wsV RL 7 RX10 yX10_bound wsX10_bound) := goodIn_app (goodIn_of _ (by decide +kernel)) ggL_bound_X10_bound
theorem dL_bound_0 : decode cL_bound 0 = .ok (.aload 6, 2) := by decide +kernel
theorem dL_bound_2 : decode cL_bound 2 = .ok (.iconst 0, 1) := by decide +kernel
theorem dL_bound_3 : decode cL_bound 3 = .ok (.aload_n 0, 1) := by decide +kernel
theorem dL_bound_4 : decode cL_bound 4 = .ok (.iload_n 1, 1) := by decide +kernel
theorem dL_bound_5 : decode cL_bound 5 = .ok (.iload_n 2, 1) := by decide +kernel
theorem dL_bound_6 : decode cL_bound 6 = .ok (.iload_n 3, 1) := by decide +kernel
theorem dL_bound_7 : decode cL_bound 7 = .ok (.iload 4, 2) := by decide +kernel
theorem dL_bound_9 : decode cL_bound 9 = .ok (.iload 5, 2) := by decide +kernel
theorem dL_bound_11 : decode cL_bound 11 = .ok (.invokevirtual 7, 3) := by decide +kernel
theorem dL_bound_14 : decode cL_bound 14 = .ok (.i2l, 1) := by decide +kernel
theorem dL_bound_15 : decode cL_bound 15 = .ok (.lastore, 1) := by decide +kernel
theorem dL_bound_16 : decode cL_bound 16 = .ok (.goto 7, 3) := by decide +kernel
theorem dL_bound_19 : decode cL_bound 19 = .ok (.astore 7, 2) := by decide +kernel
theorem dL_bound_21 : decode cL_bound 21 = .ok (.iconst 1, 1) := by decide +kernel
theorem dL_bound_22 : decode cL_bound 22 = .ok (.ireturn, 1) := by decide +kernel
theorem dL_bound_23 : decode cL_bound 23 = .ok (.iconst 0, 1) := by decide +kernel
theorem dL_bound_24 : decode cL_bound 24 = .ok (.ireturn, 1) := by decide +kernel
set_option maxRecDepth 20000 in
theorem ggL_drawn_X10_drawn : GoodIn wsL_drawn wsX10_drawn := goodIn_ca (goodIn_r _ [6, 7, 8, 9, 10, 11, 12, 5, 13, 14, 15, 16, 17, 18, 19, 20, 21, 22, 23, 24, 25, 26, 27, 28, 29, 30, 31, 32, 33, 34, 35, 36, 37] (by decide +kernel) (by decide +kernel)) (goodIn_sub (fun _ h => List.mem_cons_of_mem _ (List.mem_append_right _ h)) (by decide +kernel))
set_option maxRecDepth 20000 in
theorem gL_drawn_X10_drawn : GoodIn wsL_drawn (wsV RL 15 RX10 yX10_drawn wsX10_drawn) := goodIn_app (goodIn_of _ (by decide +kernel)) ggL_drawn_X10_drawn
theorem dL_drawn_0 : decode cL_drawn 0 = .ok (.aload_n 3, 1) := by decide +kernel
theorem dL_drawn_1 : decode cL_drawn 1 = .ok (.iconst 0, 1) := by decide +kernel
theorem dL_drawn_2 : decode cL_drawn 2 = .ok (.aload_n 0, 1) := by decide +kernel
theorem dL_drawn_3 : decode cL_drawn 3 = .ok (.iload_n 1, 1) := by decide +kernel
theorem dL_drawn_4 : decode cL_drawn 4 = .ok (.iload_n 2, 1) := by decide +kernel
theorem dL_drawn_5 : decode cL_drawn 5 = .ok (.invokevirtual 15, 3) := by decide +kernel
theorem dL_drawn_8 : decode cL_drawn 8 = .ok (.lastore, 1) := by decide +kernel
theorem dL_drawn_9 : decode cL_drawn 9 = .ok (.goto 7, 3) := by decide +kernel
theorem dL_drawn_12 : decode cL_drawn 12 = .ok (.astore 4, 2) := by decide +kernel
theorem dL_drawn_14 : decode cL_drawn 14 = .ok (.iconst 1, 1) := by decide +kernel
theorem dL_drawn_15 : decode cL_drawn 15 = .ok (.ireturn, 1) := by decide +kernel
theorem dL_drawn_16 : decode cL_drawn 16 = .ok (.iconst 0, 1) := by decide +kernel
theorem dL_drawn_17 : decode cL_drawn 17 = .ok (.ireturn, 1) := by decide +kernel
set_option maxRecDepth 20000 in
theorem ggL_share_X10_share : GoodIn wsL_share wsX10_share := goodIn_ca (goodIn_r _ [6, 7, 8, 9, 10, 11, 12, 13, 14, 15, 16, 17, 18, 19, 20, 21, 22, 23, 24, 25, 26, 27, 28, 29, 30, 31, 32] (by decide +kernel) (by decide +kernel)) (goodIn_sub (fun _ h => List.mem_cons_of_mem _ (List.mem_append_right _ h)) (by decide +kernel))
set_option maxRecDepth 20000 in
theorem gL_share_X10_share : GoodIn wsL_share (wsV RL 21 RX10 yX10_share wsX10_share) := goodIn_app (goodIn_of _ (by decide +kernel)) ggL_share_X10_share
theorem dL_share_0 : decode cL_share 0 = .ok (.aload_n 1, 1) := by decide +kernel
theorem dL_share_1 : decode cL_share 1 = .ok (.iconst 0, 1) := by decide +kernel
theorem dL_share_2 : decode cL_share 2 = .ok (.aload_n 0, 1) := by decide +kernel
theorem dL_share_3 : decode cL_share 3 = .ok (.invokevirtual 21, 3) := by decide +kernel
theorem dL_share_6 : decode cL_share 6 = .ok (.i2l, 1) := by decide +kernel
theorem dL_share_7 : decode cL_share 7 = .ok (.lastore, 1) := by decide +kernel
theorem dL_share_8 : decode cL_share 8 = .ok (.goto 6, 3) := by decide +kernel
theorem dL_share_11 : decode cL_share 11 = .ok (.astore_n 2, 1) := by decide +kernel
theorem dL_share_12 : decode cL_share 12 = .ok (.iconst 1, 1) := by decide +kernel
theorem dL_share_13 : decode cL_share 13 = .ok (.ireturn, 1) := by decide +kernel
theorem dL_share_14 : decode cL_share 14 = .ok (.iconst 0, 1) := by decide +kernel
theorem dL_share_15 : decode cL_share 15 = .ok (.ireturn, 1) := by decide +kernel
set_option maxRecDepth 20000 in
theorem ggL_begin_X10_begin : GoodIn wsL_begin wsX10_begin := goodIn_ca (goodIn_r _ [6, 7, 8, 9, 10, 11, 12, 13, 14, 15, 5, 16, 17, 18, 19, 20, 21, 22, 23, 24, 25, 26, 27, 28, 29, 30, 31, 32, 33, 34, 35, 36, 37, 38, 39, 40, 41, 42, 43, 44, 45, 46, 47] (by decide +kernel) (by decide +kernel)) (goodIn_sub (fun _ h => List.mem_cons_of_mem _ (List.mem_append_right _ h)) (by decide +kernel))
set_option maxRecDepth 20000 in
theorem gL_begin_X10_begin : GoodIn wsL_begin (wsV RL 27 RX10 yX10_begin wsX10_begin) := goodIn_app (goodIn_of _ (by decide +kernel)) ggL_begin_X10_begin
theorem dL_begin_0 : decode cL_begin 0 = .ok (.aload 5, 2) := by decide +kernel
theorem dL_begin_2 : decode cL_begin 2 = .ok (.iconst 0, 1) := by decide +kernel
theorem dL_begin_3 : decode cL_begin 3 = .ok (.aload_n 0, 1) := by decide +kernel
theorem dL_begin_4 : decode cL_begin 4 = .ok (.iload_n 1, 1) := by decide +kernel
theorem dL_begin_5 : decode cL_begin 5 = .ok (.iload_n 2, 1) := by decide +kernel
theorem dL_begin_6 : decode cL_begin 6 = .ok (.iload_n 3, 1) := by decide +kernel
theorem dL_begin_7 : decode cL_begin 7 = .ok (.iload 4, 2) := by decide +kernel
theorem dL_begin_9 : decode cL_begin 9 = .ok (.invokevirtual 27, 3) := by decide +kernel
theorem dL_begin_12 : decode cL_begin 12 = .ok (.i2l, 1) := by decide +kernel
theorem dL_begin_13 : decode cL_begin 13 = .ok (.lastore, 1) := by decide +kernel
theorem dL_begin_14 : decode cL_begin 14 = .ok (.goto 7, 3) := by decide +kernel
theorem dL_begin_17 : decode cL_begin 17 = .ok (.astore 6, 2) := by decide +kernel
theorem dL_begin_19 : decode cL_begin 19 = .ok (.iconst 1, 1) := by decide +kernel
theorem dL_begin_20 : decode cL_begin 20 = .ok (.ireturn, 1) := by decide +kernel
theorem dL_begin_21 : decode cL_begin 21 = .ok (.iconst 0, 1) := by decide +kernel
theorem dL_begin_22 : decode cL_begin 22 = .ok (.ireturn, 1) := by decide +kernel
set_option maxRecDepth 20000 in
theorem ggL_law_X10_init : GoodIn wsL_law wsX10_init := goodIn_r _ [10, 11, 12, 13, 14, 15, 16, 17, 18, 19, 20, 21, 22, 23, 24, 25, 26, 27, 28, 29, 30, 31, 32, 33, 34, 35, 36, 37, 38, 39, 40, 41, 42, 43, 44, 45, 46, 47, 48, 49, 50, 51, 52, 53, 54, 55, 56, 57, 58, 59, 6, 60, 61, 62, 63, 64, 65, 66, 67, 68, 69, 70, 71, 72, 73, 74, 75, 76, 77, 78, 79, 80, 81, 82, 83, 84, 85, 86, 87, 88, 89, 90, 91, 92, 93, 94, 95, 96, 97, 98, 99, 100, 101, 102, 103, 104, 105, 106, 107, 108, 109, 110, 111, 112, 113, 114, 115, 116, 797, 798, 799, 763, 764, 765, 766, 767, 768, 769, 770, 800, 801, 802, 803, 804, 805, 806, 807, 808, 809, 810, 811, 812, 813, 814, 815, 816, 817, 818, 819, 820, 821, 822, 823, 824, 825, 826, 827, 828, 829, 830, 831] (by decide +kernel) (by decide +kernel)
set_option maxRecDepth 20000 in
theorem gL_law_X10_init : GoodIn wsL_law (wsX10_init) := ggL_law_X10_init
set_option maxRecDepth 20000 in
theorem ggL_law_X11_init : GoodIn wsL_law wsX11_init := goodIn_r _ [119, 120, 12, 13, 66, 121, 122, 123, 124, 125, 126, 127, 6, 128, 129, 130, 131, 132, 133, 771, 772, 773, 774, 775, 776, 777, 778, 779, 780, 781, 782, 783, 784, 785, 786, 787, 788, 789, 790, 791, 792, 793, 794, 795, 796] (by decide +kernel) (by decide +kernel)
set_option maxRecDepth 20000 in
theorem gL_law_X11_init : GoodIn wsL_law (wsX11_init) := ggL_law_X11_init
set_option maxRecDepth 20000 in
theorem ggL_law_X10_above : GoodIn wsL_law wsX10_above := goodIn_r _ [137, 138, 17, 139, 140, 2, 141, 142, 143, 144, 145, 146, 147, 148, 149, 150, 151, 16, 152, 53, 153, 154, 155, 156, 157, 158, 159, 160, 54, 161, 162, 163, 52, 164, 60, 165, 61, 166, 167, 168, 169, 170, 171, 172, 173, 174, 175, 176, 177, 178, 179, 180, 181, 182, 183, 184, 185, 186, 187, 188, 189, 763, 764, 765, 766, 767, 768, 769, 770, 797, 798, 799, 830, 831] (by decide +kernel) (by decide +kernel)
set_option maxRecDepth 20000 in
theorem gL_law_X10_above : GoodIn wsL_law (wsV RL 35 RX10 yX10_above wsX10_above) := goodIn_app (goodIn_of _ (by decide +kernel)) ggL_law_X10_above
set_option maxRecDepth 20000 in
theorem ggL_law_X11_above : GoodIn wsL_law wsX11_above := goodIn_r _ [193, 194, 195, 196, 121, 197, 198, 5, 199, 200, 201, 202, 203, 204, 205, 206, 207, 208, 122, 209, 210, 211, 212, 213, 214, 215, 216, 217, 218, 219, 220, 221, 222, 223, 224, 225, 771, 772, 773, 774, 775, 776, 777, 778, 779, 780, 781, 782, 783, 784, 785, 786, 787, 788, 789, 790, 791, 792, 793, 794, 795, 796] (by decide +kernel) (by decide +kernel)
set_option maxRecDepth 20000 in
theorem gL_law_X11_above : GoodIn wsL_law (wsV RL 39 RX11 yX11_above wsX11_above) := goodIn_app (goodIn_of _ (by decide +kernel)) ggL_law_X11_above
set_option maxRecDepth 20000 in
theorem ggL_law_X10_odds : GoodIn wsL_law wsX10_odds := goodIn_r _ [229, 17, 139, 140, 2, 141, 142, 143, 144, 145, 146, 147, 148, 230, 231, 232, 16, 233, 55, 53, 161, 162, 163, 52, 164, 60, 165, 61, 181, 182, 183, 184, 185, 167, 168, 169, 153, 154, 155, 156, 157, 158, 159, 160, 54, 166, 170, 171, 172, 173, 174, 175, 176, 177, 178, 179, 180, 234, 235, 236, 237, 763, 764, 765, 766, 767, 768, 769, 770, 797, 798, 799, 830, 831] (by decide +kernel) (by decide +kernel)
set_option maxRecDepth 20000 in
theorem gL_law_X10_odds : GoodIn wsL_law (wsV RL 40 RX10 yX10_odds wsX10_odds) := goodIn_app (goodIn_of _ (by decide +kernel)) ggL_law_X10_odds
set_option maxRecDepth 20000 in
theorem ggL_law_X11_odds : GoodIn wsL_law wsX11_odds := goodIn_r _ [241, 194, 201, 197, 198, 5, 199, 200, 202, 203, 204, 242, 243, 244, 245, 121, 122, 205, 206, 207, 208, 209, 210, 211, 212, 213, 214, 215, 216, 217, 218, 219, 220, 221, 222, 223, 224, 225, 246, 247, 248, 249, 250, 251, 771, 772, 773, 774, 775, 776, 777, 778, 779, 780, 781, 782, 783, 784, 785, 786, 787, 788, 789, 790, 791, 792, 793, 794, 795, 796] (by decide +kernel) (by decide +kernel)
set_option maxRecDepth 20000 in
theorem gL_law_X11_odds : GoodIn wsL_law (wsV RL 44 RX11 yX11_odds wsX11_odds) := goodIn_app (goodIn_of _ (by decide +kernel)) ggL_law_X11_odds
set_option maxRecDepth 20000 in
theorem ggL_law_L_bound : GoodIn wsL_law wsL_bound := goodIn_ca (goodIn_r _ [255, 256, 257, 258, 259, 2, 260, 261, 262, 17, 142, 143, 144, 145, 146, 147, 148, 263, 264, 265, 266, 267, 268, 16, 269, 55, 270, 53, 161, 162, 163, 52, 164, 60, 165, 61, 181, 182, 183, 184, 185, 167, 168, 169, 153, 154, 155, 156, 157, 158, 159, 160, 54, 166, 170, 171, 172, 173, 174, 175, 176, 177, 178, 179, 180, 234, 235, 236, 237, 271, 272, 273, 274, 275, 763, 764, 765, 766, 767, 768, 769, 770, 797, 798, 799, 830, 831] (by decide +kernel) (by decide +kernel)) (goodIn_sub (fun _ h => List.mem_append_left _ (List.mem_append_left _ (List.mem_append_right _ h))) (by decide +kernel))
set_option maxRecDepth 20000 in
theorem gL_law_L_bound : GoodIn wsL_law (va_wsS RL 45 yL_bound wsL_bound) := goodIn_app (goodIn_of _ (by decide +kernel)) ggL_law_L_bound
set_option maxRecDepth 20000 in
theorem ggL_law_X11_bound : GoodIn wsL_law wsX11_bound := goodIn_r _ [279, 194, 200, 202, 203, 5, 204, 280, 281, 282, 283, 201, 242, 243, 244, 245, 121, 122, 205, 206, 207, 208, 209, 210, 211, 212, 213, 214, 215, 216, 217, 218, 219, 220, 221, 222, 223, 224, 225, 246, 247, 248, 249, 250, 251, 771, 772, 773, 774, 775, 776, 777, 778, 779, 780, 781, 782, 783, 784, 785, 786, 787, 788, 789, 790, 791, 792, 793, 794, 795, 796] (by decide +kernel) (by decide +kernel)
set_option maxRecDepth 20000 in
theorem gL_law_X11_bound : GoodIn wsL_law (wsV RL 50 RX11 yX11_bound wsX11_bound) := goodIn_app (goodIn_of _ (by decide +kernel)) ggL_law_X11_bound
set_option maxRecDepth 20000 in
theorem ggL_law_X11_thrown : GoodIn wsL_law wsX11_thrown := goodIn_r _ [287, 194, 771, 772, 773, 774, 775, 776, 777, 778, 779, 780, 781, 782, 783, 784, 785, 786, 787, 788, 789, 790, 791, 792, 793, 794, 795, 796] (by decide +kernel) (by decide +kernel)
set_option maxRecDepth 20000 in
theorem gL_law_X11_thrown : GoodIn wsL_law (wsV RL 51 RX11 yX11_thrown wsX11_thrown) := goodIn_app (goodIn_of _ (by decide +kernel)) ggL_law_X11_thrown
set_option maxRecDepth 20000 in
theorem ggL_law_X10_row : GoodIn wsL_law wsX10_row := goodIn_r _ [291, 21, 142, 143, 144, 145, 292, 293, 294, 20, 295, 70, 296, 297, 298, 299, 67, 68, 69, 300, 301, 302, 303, 304, 763, 764, 765, 766, 767, 768, 769, 770, 800, 801, 802, 803] (by decide +kernel) (by decide +kernel)
set_option maxRecDepth 20000 in
theorem gL_law_X10_row : GoodIn wsL_law (wsV RL 54 RX10 yX10_row wsX10_row) := goodIn_app (goodIn_of _ (by decide +kernel)) ggL_law_X10_row
set_option maxRecDepth 20000 in
theorem ggL_law_X11_row : GoodIn wsL_law wsX11_row := goodIn_r _ [308, 194, 309, 310, 311, 123, 124, 125, 202, 203, 5, 204, 771, 772, 773, 774, 775, 776, 777, 778, 779, 780, 781, 782, 783, 784, 785, 786, 787, 788, 789, 790, 791, 792, 793, 794, 795, 796] (by decide +kernel) (by decide +kernel)
set_option maxRecDepth 20000 in
theorem gL_law_X11_row : GoodIn wsL_law (wsV RL 58 RX11 yX11_row wsX11_row) := goodIn_app (goodIn_of _ (by decide +kernel)) ggL_law_X11_row
set_option maxRecDepth 20000 in
theorem ggL_law_X10_drop : GoodIn wsL_law wsX10_drop := goodIn_r _ [315, 21, 301, 302, 303, 20, 304, 70, 316, 317, 318, 319, 763, 764, 765, 766, 767, 768, 769, 770, 800, 801, 802, 803] (by decide +kernel) (by decide +kernel)
set_option maxRecDepth 20000 in
theorem gL_law_X10_drop : GoodIn wsL_law (wsV RL 59 RX10 yX10_drop wsX10_drop) := goodIn_app (goodIn_of _ (by decide +kernel)) ggL_law_X10_drop
set_option maxRecDepth 20000 in
theorem ggL_law_X11_drop : GoodIn wsL_law wsX11_drop := goodIn_r _ [323, 194, 311, 771, 772, 773, 774, 775, 776, 777, 778, 779, 780, 781, 782, 783, 784, 785, 786, 787, 788, 789, 790, 791, 792, 793, 794, 795, 796] (by decide +kernel) (by decide +kernel)
set_option maxRecDepth 20000 in
theorem gL_law_X11_drop : GoodIn wsL_law (wsV RL 62 RX11 yX11_drop wsX11_drop) := goodIn_app (goodIn_of _ (by decide +kernel)) ggL_law_X11_drop
set_option maxRecDepth 20000 in
theorem ggL_law_X10_turned : GoodIn wsL_law wsX10_turned := goodIn_r _ [327, 138, 25, 21, 29, 142, 143, 144, 145, 328, 329, 330, 24, 331, 77, 332, 333, 334, 335, 336, 337, 338, 20, 339, 70, 67, 340, 341, 342, 343, 68, 69, 344, 345, 346, 347, 75, 76, 348, 349, 350, 351, 352, 302, 303, 304, 353, 354, 355, 356, 357, 358, 359, 28, 360, 82, 361, 362, 176, 363, 364, 179, 180, 365, 366, 367, 368, 83, 84, 85, 369, 175, 177, 370, 371, 372, 373, 374, 375, 376, 377, 378, 379, 380, 381, 382, 383, 384, 385, 386, 387, 388, 389, 390, 391, 392, 393, 394, 395, 396, 397, 398, 399, 400, 401, 402, 403, 404, 405, 406, 763, 764, 765, 766, 767, 768, 769, 770, 804, 805, 806, 800, 801, 802, 803, 807, 808, 809, 810] (by decide +kernel) (by decide +kernel)
set_option maxRecDepth 20000 in
theorem gL_law_X10_turned : GoodIn wsL_law (wsV RL 63 RX10 yX10_turned wsX10_turned) := goodIn_app (goodIn_of _ (by decide +kernel)) ggL_law_X10_turned
set_option maxRecDepth 20000 in
theorem ggL_law_X11_turned : GoodIn wsL_law wsX11_turned := goodIn_r _ [410, 194, 283, 196, 128, 411, 126, 129, 412, 202, 203, 5, 204, 413, 414, 415, 416, 311, 123, 124, 125, 127, 771, 772, 773, 774, 775, 776, 777, 778, 779, 780, 781, 782, 783, 784, 785, 786, 787, 788, 789, 790, 791, 792, 793, 794, 795, 796] (by decide +kernel) (by decide +kernel)
set_option maxRecDepth 20000 in
theorem gL_law_X11_turned : GoodIn wsL_law (wsV RL 67 RX11 yX11_turned wsX11_turned) := goodIn_app (goodIn_of _ (by decide +kernel)) ggL_law_X11_turned
set_option maxRecDepth 20000 in
theorem ggL_law_X10_wins : GoodIn wsL_law wsX10_wins := goodIn_r _ [420, 21, 142, 143, 144, 145, 421, 422, 423, 20, 424, 68, 69, 425, 426, 427, 428, 70, 429, 430, 431, 432, 763, 764, 765, 766, 767, 768, 769, 770, 800, 801, 802, 803] (by decide +kernel) (by decide +kernel)
set_option maxRecDepth 20000 in
theorem gL_law_X10_wins : GoodIn wsL_law (wsV RL 68 RX10 yX10_wins wsX10_wins) := goodIn_app (goodIn_of _ (by decide +kernel)) ggL_law_X10_wins
set_option maxRecDepth 20000 in
theorem ggL_law_X11_wins : GoodIn wsL_law wsX11_wins := goodIn_r _ [436, 194, 437, 202, 203, 5, 204, 438, 439, 440, 441, 311, 124, 125, 771, 772, 773, 774, 775, 776, 777, 778, 779, 780, 781, 782, 783, 784, 785, 786, 787, 788, 789, 790, 791, 792, 793, 794, 795, 796] (by decide +kernel) (by decide +kernel)
set_option maxRecDepth 20000 in
theorem gL_law_X11_wins : GoodIn wsL_law (wsV RL 72 RX11 yX11_wins wsX11_wins) := goodIn_app (goodIn_of _ (by decide +kernel)) ggL_law_X11_wins
set_option maxRecDepth 20000 in
theorem ggL_law_X10_even : GoodIn wsL_law wsX10_even := goodIn_r _ [445, 138, 21, 45, 142, 143, 144, 145, 146, 147, 2, 148, 421, 422, 423, 20, 424, 68, 69, 425, 426, 427, 428, 70, 429, 430, 431, 432, 446, 447, 448, 449, 450, 179, 176, 180, 451, 452, 453, 454, 455, 456, 457, 44, 458, 459, 460, 461, 99, 100, 462, 463, 464, 465, 466, 467, 468, 469, 470, 471, 472, 473, 763, 764, 765, 766, 767, 768, 769, 770, 800, 801, 802, 803, 828, 829] (by decide +kernel) (by decide +kernel)
set_option maxRecDepth 20000 in
theorem gL_law_X10_even : GoodIn wsL_law (wsV RL 73 RX10 yX10_even wsX10_even) := goodIn_app (goodIn_of _ (by decide +kernel)) ggL_law_X10_even
set_option maxRecDepth 20000 in
theorem ggL_law_X11_even : GoodIn wsL_law wsX11_even := goodIn_r _ [477, 194, 437, 196, 283, 202, 203, 5, 204, 438, 439, 440, 441, 311, 124, 125, 478, 479, 480, 481, 482, 483, 771, 772, 773, 774, 775, 776, 777, 778, 779, 780, 781, 782, 783, 784, 785, 786, 787, 788, 789, 790, 791, 792, 793, 794, 795, 796] (by decide +kernel) (by decide +kernel)
set_option maxRecDepth 20000 in
theorem gL_law_X11_even : GoodIn wsL_law (wsV RL 76 RX11 yX11_even wsX11_even) := goodIn_app (goodIn_of _ (by decide +kernel)) ggL_law_X11_even
set_option maxRecDepth 20000 in
theorem ggL_law_X10_draw : GoodIn wsL_law wsX10_draw := goodIn_r _ [487, 21, 25, 33, 142, 143, 144, 145, 301, 302, 303, 20, 304, 70, 328, 329, 330, 24, 331, 77, 332, 333, 334, 335, 336, 337, 338, 339, 67, 340, 341, 342, 343, 68, 69, 344, 345, 346, 347, 75, 76, 348, 349, 350, 351, 352, 353, 354, 355, 356, 488, 489, 490, 32, 491, 94, 492, 493, 93, 494, 371, 372, 373, 495, 375, 376, 377, 496, 497, 498, 499, 500, 456, 457, 44, 458, 459, 460, 176, 461, 99, 100, 462, 463, 464, 501, 502, 503, 504, 90, 91, 505, 506, 507, 508, 509, 471, 472, 473, 510, 763, 764, 765, 766, 767, 768, 769, 770, 800, 801, 802, 803, 804, 805, 806, 811, 812, 813, 814, 828, 829] (by decide +kernel) (by decide +kernel)
set_option maxRecDepth 20000 in
theorem gL_law_X10_draw : GoodIn wsL_law (wsV RL 79 RX10 yX10_draw wsX10_draw) := goodIn_app (goodIn_of _ (by decide +kernel)) ggL_law_X10_draw
set_option maxRecDepth 20000 in
theorem ggL_law_X11_draw : GoodIn wsL_law wsX11_draw := goodIn_r _ [514, 194, 515, 311, 516, 411, 517, 518, 126, 127, 130, 131, 202, 203, 5, 204, 413, 414, 415, 416, 123, 124, 125, 771, 772, 773, 774, 775, 776, 777, 778, 779, 780, 781, 782, 783, 784, 785, 786, 787, 788, 789, 790, 791, 792, 793, 794, 795, 796] (by decide +kernel) (by decide +kernel)
set_option maxRecDepth 20000 in
theorem gL_law_X11_draw : GoodIn wsL_law (wsV RL 83 RX11 yX11_draw wsX11_draw) := goodIn_app (goodIn_of _ (by decide +kernel)) ggL_law_X11_draw
set_option maxRecDepth 20000 in
theorem ggL_law_L_drawn : GoodIn wsL_law wsL_drawn := goodIn_ca (goodIn_r _ [521, 522, 523, 524, 525, 2, 526, 527, 528, 138, 33, 146, 147, 148, 529, 530, 531, 32, 532, 94, 533, 534, 535, 536, 90, 91, 763, 764, 765, 766, 767, 768, 769, 770, 811, 812, 813, 814] (by decide +kernel) (by decide +kernel)) (goodIn_sub (fun _ h => List.mem_append_left _ (List.mem_append_right _ h)) (by decide +kernel))
set_option maxRecDepth 20000 in
theorem gL_law_L_drawn : GoodIn wsL_law (va_wsS RL 84 yL_drawn wsL_drawn) := goodIn_app (goodIn_of _ (by decide +kernel)) ggL_law_L_drawn
set_option maxRecDepth 20000 in
theorem ggL_law_X11_drawn : GoodIn wsL_law wsX11_drawn := goodIn_r _ [540, 194, 196, 516, 130, 131, 202, 203, 5, 204, 478, 479, 480, 481, 482, 483, 771, 772, 773, 774, 775, 776, 777, 778, 779, 780, 781, 782, 783, 784, 785, 786, 787, 788, 789, 790, 791, 792, 793, 794, 795, 796] (by decide +kernel) (by decide +kernel)
set_option maxRecDepth 20000 in
theorem gL_law_X11_drawn : GoodIn wsL_law (wsV RL 87 RX11 yX11_drawn wsX11_drawn) := goodIn_app (goodIn_of _ (by decide +kernel)) ggL_law_X11_drawn
set_option maxRecDepth 20000 in
theorem ggL_law_X10_percentile : GoodIn wsL_law wsX10_percentile := goodIn_r _ [544, 138, 33, 545, 546, 175, 176, 177, 142, 143, 144, 145, 146, 147, 2, 148, 529, 530, 531, 32, 532, 94, 533, 534, 535, 536, 90, 91, 763, 764, 765, 766, 767, 768, 769, 770, 811, 812, 813, 814] (by decide +kernel) (by decide +kernel)
set_option maxRecDepth 20000 in
theorem gL_law_X10_percentile : GoodIn wsL_law (wsV RL 88 RX10 yX10_percentile wsX10_percentile) := goodIn_app (goodIn_of _ (by decide +kernel)) ggL_law_X10_percentile
set_option maxRecDepth 20000 in
theorem ggL_law_X11_percentile : GoodIn wsL_law wsX11_percentile := goodIn_r _ [550, 194, 201, 196, 516, 551, 130, 131, 202, 203, 5, 204, 478, 479, 480, 481, 482, 483, 771, 772, 773, 774, 775, 776, 777, 778, 779, 780, 781, 782, 783, 784, 785, 786, 787, 788, 789, 790, 791, 792, 793, 794, 795, 796] (by decide +kernel) (by decide +kernel)
set_option maxRecDepth 20000 in
theorem gL_law_X11_percentile : GoodIn wsL_law (wsV RL 92 RX11 yX11_percentile wsX11_percentile) := goodIn_app (goodIn_of _ (by decide +kernel)) ggL_law_X11_percentile
set_option maxRecDepth 20000 in
theorem ggL_law_L_share : GoodIn wsL_law wsL_share := goodIn_ca (goodIn_r _ [554, 555, 556, 557, 558, 2, 559, 560, 561, 33, 529, 530, 531, 32, 532, 94, 562, 563, 564, 565, 90, 763, 764, 765, 766, 767, 768, 769, 770, 811, 812, 813, 814] (by decide +kernel) (by decide +kernel)) (goodIn_sub (fun _ h => List.mem_append_right _ h) (by decide +kernel))
set_option maxRecDepth 20000 in
theorem gL_law_L_share : GoodIn wsL_law (va_wsS RL 93 yL_share wsL_share) := goodIn_app (goodIn_of _ (by decide +kernel)) ggL_law_L_share
set_option maxRecDepth 20000 in
theorem ggL_law_X11_share : GoodIn wsL_law wsX11_share := goodIn_r _ [569, 516, 194, 130, 771, 772, 773, 774, 775, 776, 777, 778, 779, 780, 781, 782, 783, 784, 785, 786, 787, 788, 789, 790, 791, 792, 793, 794, 795, 796] (by decide +kernel) (by decide +kernel)
set_option maxRecDepth 20000 in
theorem gL_law_X11_share : GoodIn wsL_law (wsV RL 96 RX11 yX11_share wsX11_share) := goodIn_app (goodIn_of _ (by decide +kernel)) ggL_law_X11_share
set_option maxRecDepth 20000 in
theorem ggL_law_X10_compare : GoodIn wsL_law wsX10_compare := goodIn_r _ [573, 574, 37, 142, 143, 144, 145, 575, 576, 577, 36, 578, 107, 579, 580, 581, 582, 105, 106, 583, 584, 585, 586, 587, 763, 764, 765, 766, 767, 768, 769, 770, 815, 816, 817] (by decide +kernel) (by decide +kernel)
set_option maxRecDepth 20000 in
theorem gL_law_X10_compare : GoodIn wsL_law (wsV RL 97 RX10 yX10_compare wsX10_compare) := goodIn_app (goodIn_of _ (by decide +kernel)) ggL_law_X10_compare
set_option maxRecDepth 20000 in
theorem ggL_law_X11_compare : GoodIn wsL_law wsX11_compare := goodIn_r _ [591, 194, 592, 593, 132, 133, 202, 203, 5, 204, 771, 772, 773, 774, 775, 776, 777, 778, 779, 780, 781, 782, 783, 784, 785, 786, 787, 788, 789, 790, 791, 792, 793, 794, 795, 796] (by decide +kernel) (by decide +kernel)
set_option maxRecDepth 20000 in
theorem gL_law_X11_compare : GoodIn wsL_law (wsV RL 100 RX11 yX11_compare wsX11_compare) := goodIn_app (goodIn_of _ (by decide +kernel)) ggL_law_X11_compare
set_option maxRecDepth 20000 in
theorem ggL_law_X10_raised : GoodIn wsL_law wsX10_raised := goodIn_r _ [597, 138, 37, 545, 45, 142, 143, 144, 145, 146, 147, 2, 148, 584, 585, 586, 36, 587, 107, 598, 599, 600, 601, 105, 106, 602, 456, 457, 44, 458, 459, 460, 176, 461, 99, 100, 462, 463, 464, 603, 604, 605, 606, 607, 608, 609, 610, 611, 612, 613, 614, 615, 506, 507, 508, 616, 617, 618, 619, 620, 621, 622, 623, 465, 466, 467, 468, 469, 470, 471, 472, 473, 763, 764, 765, 766, 767, 768, 769, 770, 815, 816, 817, 828, 829] (by decide +kernel) (by decide +kernel)
set_option maxRecDepth 20000 in
theorem gL_law_X10_raised : GoodIn wsL_law (wsV RL 101 RX10 yX10_raised wsX10_raised) := goodIn_app (goodIn_of _ (by decide +kernel)) ggL_law_X10_raised
set_option maxRecDepth 20000 in
theorem ggL_law_X11_raised : GoodIn wsL_law wsX11_raised := goodIn_r _ [627, 194, 283, 196, 593, 551, 132, 133, 202, 203, 5, 204, 628, 629, 630, 631, 478, 479, 480, 481, 482, 483, 771, 772, 773, 774, 775, 776, 777, 778, 779, 780, 781, 782, 783, 784, 785, 786, 787, 788, 789, 790, 791, 792, 793, 794, 795, 796] (by decide +kernel) (by decide +kernel)
set_option maxRecDepth 20000 in
theorem gL_law_X11_raised : GoodIn wsL_law (wsV RL 104 RX11 yX11_raised wsX11_raised) := goodIn_app (goodIn_of _ (by decide +kernel)) ggL_law_X11_raised
set_option maxRecDepth 20000 in
theorem ggL_law_X10_forget : GoodIn wsL_law wsX10_forget := goodIn_r _ [635, 37, 584, 585, 586, 36, 587, 107, 636, 637, 638, 639, 763, 764, 765, 766, 767, 768, 769, 770, 815, 816, 817] (by decide +kernel) (by decide +kernel)
set_option maxRecDepth 20000 in
theorem gL_law_X10_forget : GoodIn wsL_law (wsV RL 105 RX10 yX10_forget wsX10_forget) := goodIn_app (goodIn_of _ (by decide +kernel)) ggL_law_X10_forget
set_option maxRecDepth 20000 in
theorem ggL_law_X11_forget : GoodIn wsL_law wsX11_forget := goodIn_r _ [643, 194, 593, 771, 772, 773, 774, 775, 776, 777, 778, 779, 780, 781, 782, 783, 784, 785, 786, 787, 788, 789, 790, 791, 792, 793, 794, 795, 796] (by decide +kernel) (by decide +kernel)
set_option maxRecDepth 20000 in
theorem gL_law_X11_forget : GoodIn wsL_law (wsV RL 108 RX11 yX11_forget wsX11_forget) := goodIn_app (goodIn_of _ (by decide +kernel)) ggL_law_X11_forget
set_option maxRecDepth 20000 in
theorem ggL_law_L_begin : GoodIn wsL_law wsL_begin := goodIn_ca (goodIn_r _ [646, 256, 647, 648, 649, 2, 650, 261, 262, 41, 142, 143, 144, 145, 263, 264, 265, 651, 652, 653, 40, 654, 655, 656, 657, 658, 659, 660, 661, 662, 763, 764, 765, 766, 767, 768, 769, 770, 818, 819, 820, 821, 822, 823, 824, 825, 826, 827] (by decide +kernel) (by decide +kernel)) (goodIn_sub (fun _ h => List.mem_append_left _ (List.mem_append_left _ (List.mem_append_right _ h))) (by decide +kernel))
set_option maxRecDepth 20000 in
theorem gL_law_L_begin : GoodIn wsL_law (va_wsS RL 109 yL_begin wsL_begin) := goodIn_app (goodIn_of _ (by decide +kernel)) ggL_law_L_begin
set_option maxRecDepth 20000 in
theorem ggL_law_X11_begin : GoodIn wsL_law wsX11_begin := goodIn_r _ [666, 194, 283, 310, 667, 668, 669, 670, 671, 672, 673, 674, 202, 203, 5, 204, 280, 281, 282, 201, 771, 772, 773, 774, 775, 776, 777, 778, 779, 780, 781, 782, 783, 784, 785, 786, 787, 788, 789, 790, 791, 792, 793, 794, 795, 796] (by decide +kernel) (by decide +kernel)
set_option maxRecDepth 20000 in
theorem gL_law_X11_begin : GoodIn wsL_law (wsV RL 112 RX11 yX11_begin wsX11_begin) := goodIn_app (goodIn_of _ (by decide +kernel)) ggL_law_X11_begin
set_option maxRecDepth 20000 in
theorem ggL_law_X10_hit : GoodIn wsL_law wsX10_hit := goodIn_r _ [678, 41, 679, 680, 681, 40, 682, 655, 683, 684, 685, 686, 660, 687, 688, 689, 690, 661, 662, 691, 692, 693, 694, 695, 113, 658, 657, 114, 659, 656, 696, 162, 163, 52, 164, 60, 165, 61, 697, 182, 183, 184, 185, 167, 168, 169, 698, 453, 144, 454, 699, 700, 235, 236, 237, 701, 702, 703, 704, 763, 764, 765, 766, 767, 768, 769, 770, 818, 819, 820, 821, 822, 823, 824, 825, 826, 827, 830, 831] (by decide +kernel) (by decide +kernel)
set_option maxRecDepth 20000 in
theorem gL_law_X10_hit : GoodIn wsL_law (wsV RL 113 RX10 yX10_hit wsX10_hit) := goodIn_app (goodIn_of _ (by decide +kernel)) ggL_law_X10_hit
set_option maxRecDepth 20000 in
theorem ggL_law_X11_hit : GoodIn wsL_law wsX11_hit := goodIn_r _ [708, 194, 667, 672, 673, 674, 709, 710, 711, 5, 712, 121, 669, 670, 122, 668, 671, 246, 247, 248, 209, 210, 211, 212, 216, 217, 218, 219, 213, 214, 215, 220, 221, 222, 249, 250, 251, 771, 772, 773, 774, 775, 776, 777, 778, 779, 780, 781, 782, 783, 784, 785, 786, 787, 788, 789, 790, 791, 792, 793, 794, 795, 796] (by decide +kernel) (by decide +kernel)
set_option maxRecDepth 20000 in
theorem gL_law_X11_hit : GoodIn wsL_law (wsV RL 117 RX11 yX11_hit wsX11_hit) := goodIn_app (goodIn_of _ (by decide +kernel)) ggL_law_X11_hit
set_option maxRecDepth 20000 in
theorem ggL_law_X10_test : GoodIn wsL_law wsX10_test := goodIn_r _ [716, 41, 679, 680, 681, 40, 682, 655, 717, 718, 719, 720, 660, 721, 722, 723, 724, 661, 701, 702, 703, 704, 662, 725, 693, 694, 695, 113, 658, 657, 114, 659, 656, 696, 162, 163, 52, 164, 60, 165, 61, 697, 182, 183, 184, 185, 167, 168, 169, 698, 453, 144, 454, 699, 700, 235, 236, 237, 763, 764, 765, 766, 767, 768, 769, 770, 818, 819, 820, 821, 822, 823, 824, 825, 826, 827, 830, 831] (by decide +kernel) (by decide +kernel)
set_option maxRecDepth 20000 in
theorem gL_law_X10_test : GoodIn wsL_law (wsV RL 118 RX10 yX10_test wsX10_test) := goodIn_app (goodIn_of _ (by decide +kernel)) ggL_law_X10_test
set_option maxRecDepth 20000 in
theorem ggL_law_X11_test : GoodIn wsL_law wsX11_test := goodIn_r _ [729, 194, 667, 672, 673, 674, 709, 710, 711, 5, 712, 121, 669, 670, 122, 668, 671, 246, 247, 248, 209, 210, 211, 212, 216, 217, 218, 219, 213, 214, 215, 220, 221, 222, 249, 250, 251, 771, 772, 773, 774, 775, 776, 777, 778, 779, 780, 781, 782, 783, 784, 785, 786, 787, 788, 789, 790, 791, 792, 793, 794, 795, 796] (by decide +kernel) (by decide +kernel)
set_option maxRecDepth 20000 in
theorem gL_law_X11_test : GoodIn wsL_law (wsV RL 122 RX11 yX11_test wsX11_test) := goodIn_app (goodIn_of _ (by decide +kernel)) ggL_law_X11_test
set_option maxRecDepth 20000 in
theorem ggL_law_X10_count : GoodIn wsL_law wsX10_count := goodIn_r _ [733, 21, 33, 37, 301, 302, 303, 20, 304, 70, 734, 735, 736, 737, 738, 337, 338, 339, 67, 529, 530, 531, 32, 532, 94, 584, 585, 586, 36, 587, 107, 763, 764, 765, 766, 767, 768, 769, 770, 800, 801, 802, 803, 811, 812, 813, 814, 815, 816, 817] (by decide +kernel) (by decide +kernel)
set_option maxRecDepth 20000 in
theorem gL_law_X10_count : GoodIn wsL_law (wsV RL 123 RX10 yX10_count wsX10_count) := goodIn_app (goodIn_of _ (by decide +kernel)) ggL_law_X10_count
set_option maxRecDepth 20000 in
theorem ggL_law_X11_count_ : GoodIn wsL_law wsX11_count_ := goodIn_r _ [742, 194, 311, 411, 516, 593, 413, 414, 415, 5, 416, 123, 124, 125, 126, 127, 771, 772, 773, 774, 775, 776, 777, 778, 779, 780, 781, 782, 783, 784, 785, 786, 787, 788, 789, 790, 791, 792, 793, 794, 795, 796] (by decide +kernel) (by decide +kernel)
set_option maxRecDepth 20000 in
theorem gL_law_X11_count_ : GoodIn wsL_law (wsV RL 126 RX11 yX11_count_ wsX11_count_) := goodIn_app (goodIn_of _ (by decide +kernel)) ggL_law_X11_count_
set_option maxRecDepth 20000 in
theorem ggL_law_X10_clear : GoodIn wsL_law wsX10_clear := goodIn_r _ [746, 21, 33, 37, 41, 301, 302, 303, 20, 304, 70, 747, 748, 749, 750, 751, 752, 753, 32, 754, 94, 636, 637, 638, 36, 639, 107, 755, 756, 757, 40, 758, 655, 763, 764, 765, 766, 767, 768, 769, 770, 800, 801, 802, 803, 811, 812, 813, 814, 815, 816, 817, 818, 819, 820, 821, 822, 823, 824, 825, 826, 827] (by decide +kernel) (by decide +kernel)
set_option maxRecDepth 20000 in
theorem gL_law_X10_clear : GoodIn wsL_law (wsV RL 127 RX10 yX10_clear wsX10_clear) := goodIn_app (goodIn_of _ (by decide +kernel)) ggL_law_X10_clear
set_option maxRecDepth 20000 in
theorem ggL_law_X11_clear : GoodIn wsL_law wsX11_clear := goodIn_r _ [762, 194, 311, 516, 593, 667, 771, 772, 773, 774, 775, 776, 777, 778, 779, 780, 781, 782, 783, 784, 785, 786, 787, 788, 789, 790, 791, 792, 793, 794, 795, 796] (by decide +kernel) (by decide +kernel)
set_option maxRecDepth 20000 in
theorem gL_law_X11_clear : GoodIn wsL_law (wsV RL 130 RX11 yX11_clear wsX11_clear) := goodIn_app (goodIn_of _ (by decide +kernel)) ggL_law_X11_clear
theorem dL_law_0 : decode cL_law 0 = .ok (.new 8, 3) := by decide +kernel
theorem dL_law_3 : decode cL_law 3 = .ok (.dup, 1) := by decide +kernel
theorem dL_law_4 : decode cL_law 4 = .ok (.invokespecial 31, 3) := by decide +kernel
theorem dL_law_7 : decode cL_law 7 = .ok (.astore_n 1, 1) := by decide +kernel
theorem dL_law_8 : decode cL_law 8 = .ok (.new 32, 3) := by decide +kernel
theorem dL_law_11 : decode cL_law 11 = .ok (.dup, 1) := by decide +kernel
theorem dL_law_12 : decode cL_law 12 = .ok (.invokespecial 34, 3) := by decide +kernel
theorem dL_law_15 : decode cL_law 15 = .ok (.astore_n 2, 1) := by decide +kernel
theorem dL_law_16 : decode cL_law 16 = .ok (.iconst 1, 1) := by decide +kernel
theorem dL_law_17 : decode cL_law 17 = .ok (.newarray .long, 2) := by decide +kernel
theorem dL_law_19 : decode cL_law 19 = .ok (.astore_n 3, 1) := by decide +kernel
theorem dL_law_20 : decode cL_law 20 = .ok (.iconst 0, 1) := by decide +kernel
theorem dL_law_21 : decode cL_law 21 = .ok (.istore 4, 2) := by decide +kernel
theorem dL_law_23 : decode cL_law 23 = .ok (.iload 4, 2) := by decide +kernel
theorem dL_law_25 : decode cL_law 25 = .ok (.aload_n 0, 1) := by decide +kernel
theorem dL_law_26 : decode cL_law 26 = .ok (.arraylength, 1) := by decide +kernel
theorem dL_law_27 : decode cL_law 27 = .ok (.bipush 8, 2) := by decide +kernel
theorem dL_law_29 : decode cL_law 29 = .ok (.isub, 1) := by decide +kernel
theorem dL_law_30 : decode cL_law 30 = .ok (.if_icmp .gt 1150, 3) := by decide +kernel
theorem dL_law_33 : decode cL_law 33 = .ok (.aload_n 0, 1) := by decide +kernel
theorem dL_law_34 : decode cL_law 34 = .ok (.iload 4, 2) := by decide +kernel
theorem dL_law_36 : decode cL_law 36 = .ok (.iaload, 1) := by decide +kernel
theorem dL_law_37 : decode cL_law 37 = .ok (.bipush 31, 2) := by decide +kernel
theorem dL_law_39 : decode cL_law 39 = .ok (.iand, 1) := by decide +kernel
theorem dL_law_40 : decode cL_law 40 = .ok (.tableswitch 1134 0 19 #[96, 184, 285, 389, 438, 451, 505, 542, 580, 677, 744, 794, 838, 875, 925, 938, 1030, 1071, 1096, 1121], 96) := by decide +kernel
theorem dL_law_136 : decode cL_law 136 = .ok (.aload_n 1, 1) := by decide +kernel
theorem dL_law_137 : decode cL_law 137 = .ok (.aload_n 0, 1) := by decide +kernel
theorem dL_law_138 : decode cL_law 138 = .ok (.iload 4, 2) := by decide +kernel
theorem dL_law_140 : decode cL_law 140 = .ok (.iconst 1, 1) := by decide +kernel
theorem dL_law_141 : decode cL_law 141 = .ok (.iadd, 1) := by decide +kernel
theorem dL_law_142 : decode cL_law 142 = .ok (.iaload, 1) := by decide +kernel
theorem dL_law_143 : decode cL_law 143 = .ok (.aload_n 0, 1) := by decide +kernel
theorem dL_law_144 : decode cL_law 144 = .ok (.iload 4, 2) := by decide +kernel
theorem dL_law_146 : decode cL_law 146 = .ok (.iconst 2, 1) := by decide +kernel
theorem dL_law_147 : decode cL_law 147 = .ok (.iadd, 1) := by decide +kernel
theorem dL_law_148 : decode cL_law 148 = .ok (.iaload, 1) := by decide +kernel
theorem dL_law_149 : decode cL_law 149 = .ok (.aload_n 0, 1) := by decide +kernel
theorem dL_law_150 : decode cL_law 150 = .ok (.iload 4, 2) := by decide +kernel
theorem dL_law_152 : decode cL_law 152 = .ok (.iconst 3, 1) := by decide +kernel
theorem dL_law_153 : decode cL_law 153 = .ok (.iadd, 1) := by decide +kernel
theorem dL_law_154 : decode cL_law 154 = .ok (.iaload, 1) := by decide +kernel
theorem dL_law_155 : decode cL_law 155 = .ok (.aload_n 0, 1) := by decide +kernel
theorem dL_law_156 : decode cL_law 156 = .ok (.iload 4, 2) := by decide +kernel
theorem dL_law_158 : decode cL_law 158 = .ok (.iconst 4, 1) := by decide +kernel
theorem dL_law_159 : decode cL_law 159 = .ok (.iadd, 1) := by decide +kernel
theorem dL_law_160 : decode cL_law 160 = .ok (.iaload, 1) := by decide +kernel
theorem dL_law_161 : decode cL_law 161 = .ok (.aload_n 0, 1) := by decide +kernel
theorem dL_law_162 : decode cL_law 162 = .ok (.iload 4, 2) := by decide +kernel
theorem dL_law_164 : decode cL_law 164 = .ok (.iconst 5, 1) := by decide +kernel
theorem dL_law_165 : decode cL_law 165 = .ok (.iadd, 1) := by decide +kernel
theorem dL_law_166 : decode cL_law 166 = .ok (.iaload, 1) := by decide +kernel
theorem dL_law_167 : decode cL_law 167 = .ok (.aload_n 0, 1) := by decide +kernel
theorem dL_law_168 : decode cL_law 168 = .ok (.iload 4, 2) := by decide +kernel
theorem dL_law_170 : decode cL_law 170 = .ok (.bipush 6, 2) := by decide +kernel
theorem dL_law_172 : decode cL_law 172 = .ok (.iadd, 1) := by decide +kernel
theorem dL_law_173 : decode cL_law 173 = .ok (.iaload, 1) := by decide +kernel
theorem dL_law_174 : decode cL_law 174 = .ok (.invokevirtual 35, 3) := by decide +kernel
theorem dL_law_177 : decode cL_law 177 = .ok (.aload_n 2, 1) := by decide +kernel
theorem dL_law_178 : decode cL_law 178 = .ok (.aload_n 0, 1) := by decide +kernel
theorem dL_law_179 : decode cL_law 179 = .ok (.iload 4, 2) := by decide +kernel
theorem dL_law_181 : decode cL_law 181 = .ok (.iconst 1, 1) := by decide +kernel
theorem dL_law_182 : decode cL_law 182 = .ok (.iadd, 1) := by decide +kernel
theorem dL_law_183 : decode cL_law 183 = .ok (.iaload, 1) := by decide +kernel
theorem dL_law_184 : decode cL_law 184 = .ok (.aload_n 0, 1) := by decide +kernel
theorem dL_law_185 : decode cL_law 185 = .ok (.iload 4, 2) := by decide +kernel
theorem dL_law_187 : decode cL_law 187 = .ok (.iconst 2, 1) := by decide +kernel
theorem dL_law_188 : decode cL_law 188 = .ok (.iadd, 1) := by decide +kernel
theorem dL_law_189 : decode cL_law 189 = .ok (.iaload, 1) := by decide +kernel
theorem dL_law_190 : decode cL_law 190 = .ok (.aload_n 0, 1) := by decide +kernel
theorem dL_law_191 : decode cL_law 191 = .ok (.iload 4, 2) := by decide +kernel
theorem dL_law_193 : decode cL_law 193 = .ok (.iconst 3, 1) := by decide +kernel
theorem dL_law_194 : decode cL_law 194 = .ok (.iadd, 1) := by decide +kernel
theorem dL_law_195 : decode cL_law 195 = .ok (.iaload, 1) := by decide +kernel
theorem dL_law_196 : decode cL_law 196 = .ok (.aload_n 0, 1) := by decide +kernel
theorem dL_law_197 : decode cL_law 197 = .ok (.iload 4, 2) := by decide +kernel
theorem dL_law_199 : decode cL_law 199 = .ok (.iconst 4, 1) := by decide +kernel
theorem dL_law_200 : decode cL_law 200 = .ok (.iadd, 1) := by decide +kernel
theorem dL_law_201 : decode cL_law 201 = .ok (.iaload, 1) := by decide +kernel
theorem dL_law_202 : decode cL_law 202 = .ok (.aload_n 0, 1) := by decide +kernel
theorem dL_law_203 : decode cL_law 203 = .ok (.iload 4, 2) := by decide +kernel
theorem dL_law_205 : decode cL_law 205 = .ok (.iconst 5, 1) := by decide +kernel
theorem dL_law_206 : decode cL_law 206 = .ok (.iadd, 1) := by decide +kernel
theorem dL_law_207 : decode cL_law 207 = .ok (.iaload, 1) := by decide +kernel
theorem dL_law_208 : decode cL_law 208 = .ok (.aload_n 0, 1) := by decide +kernel
theorem dL_law_209 : decode cL_law 209 = .ok (.iload 4, 2) := by decide +kernel
theorem dL_law_211 : decode cL_law 211 = .ok (.bipush 6, 2) := by decide +kernel
theorem dL_law_213 : decode cL_law 213 = .ok (.iadd, 1) := by decide +kernel
theorem dL_law_214 : decode cL_law 214 = .ok (.iaload, 1) := by decide +kernel
theorem dL_law_215 : decode cL_law 215 = .ok (.invokevirtual 39, 3) := by decide +kernel
theorem dL_law_218 : decode cL_law 218 = .ok (.lcmp, 1) := by decide +kernel
theorem dL_law_219 : decode cL_law 219 = .ok (.ifCond .eq 955, 3) := by decide +kernel
theorem dL_law_222 : decode cL_law 222 = .ok (.iconst 0, 1) := by decide +kernel
theorem dL_law_223 : decode cL_law 223 = .ok (.ireturn, 1) := by decide +kernel
theorem dL_law_224 : decode cL_law 224 = .ok (.aload_n 1, 1) := by decide +kernel
theorem dL_law_225 : decode cL_law 225 = .ok (.aload_n 0, 1) := by decide +kernel
theorem dL_law_226 : decode cL_law 226 = .ok (.iload 4, 2) := by decide +kernel
theorem dL_law_228 : decode cL_law 228 = .ok (.iconst 1, 1) := by decide +kernel
theorem dL_law_229 : decode cL_law 229 = .ok (.iadd, 1) := by decide +kernel
theorem dL_law_230 : decode cL_law 230 = .ok (.iaload, 1) := by decide +kernel
theorem dL_law_231 : decode cL_law 231 = .ok (.aload_n 0, 1) := by decide +kernel
theorem dL_law_232 : decode cL_law 232 = .ok (.iload 4, 2) := by decide +kernel
theorem dL_law_234 : decode cL_law 234 = .ok (.iconst 2, 1) := by decide +kernel
theorem dL_law_235 : decode cL_law 235 = .ok (.iadd, 1) := by decide +kernel
theorem dL_law_236 : decode cL_law 236 = .ok (.iaload, 1) := by decide +kernel
theorem dL_law_237 : decode cL_law 237 = .ok (.aload_n 0, 1) := by decide +kernel
theorem dL_law_238 : decode cL_law 238 = .ok (.iload 4, 2) := by decide +kernel
theorem dL_law_240 : decode cL_law 240 = .ok (.iconst 3, 1) := by decide +kernel
theorem dL_law_241 : decode cL_law 241 = .ok (.iadd, 1) := by decide +kernel
theorem dL_law_242 : decode cL_law 242 = .ok (.iaload, 1) := by decide +kernel
theorem dL_law_243 : decode cL_law 243 = .ok (.aload_n 0, 1) := by decide +kernel
theorem dL_law_244 : decode cL_law 244 = .ok (.iload 4, 2) := by decide +kernel
theorem dL_law_246 : decode cL_law 246 = .ok (.iconst 4, 1) := by decide +kernel
theorem dL_law_247 : decode cL_law 247 = .ok (.iadd, 1) := by decide +kernel
theorem dL_law_248 : decode cL_law 248 = .ok (.iaload, 1) := by decide +kernel
theorem dL_law_249 : decode cL_law 249 = .ok (.aload_n 0, 1) := by decide +kernel
theorem dL_law_250 : decode cL_law 250 = .ok (.iload 4, 2) := by decide +kernel
theorem dL_law_252 : decode cL_law 252 = .ok (.iconst 5, 1) := by decide +kernel
theorem dL_law_253 : decode cL_law 253 = .ok (.iadd, 1) := by decide +kernel
theorem dL_law_254 : decode cL_law 254 = .ok (.iaload, 1) := by decide +kernel
theorem dL_law_255 : decode cL_law 255 = .ok (.aload_n 0, 1) := by decide +kernel
theorem dL_law_256 : decode cL_law 256 = .ok (.iload 4, 2) := by decide +kernel
theorem dL_law_258 : decode cL_law 258 = .ok (.bipush 6, 2) := by decide +kernel
theorem dL_law_260 : decode cL_law 260 = .ok (.iadd, 1) := by decide +kernel
theorem dL_law_261 : decode cL_law 261 = .ok (.iaload, 1) := by decide +kernel
theorem dL_law_262 : decode cL_law 262 = .ok (.aload_n 0, 1) := by decide +kernel
theorem dL_law_263 : decode cL_law 263 = .ok (.iload 4, 2) := by decide +kernel
theorem dL_law_265 : decode cL_law 265 = .ok (.bipush 7, 2) := by decide +kernel
theorem dL_law_267 : decode cL_law 267 = .ok (.iadd, 1) := by decide +kernel
theorem dL_law_268 : decode cL_law 268 = .ok (.iaload, 1) := by decide +kernel
theorem dL_law_269 : decode cL_law 269 = .ok (.invokevirtual 40, 3) := by decide +kernel
theorem dL_law_272 : decode cL_law 272 = .ok (.aload_n 2, 1) := by decide +kernel
theorem dL_law_273 : decode cL_law 273 = .ok (.aload_n 0, 1) := by decide +kernel
theorem dL_law_274 : decode cL_law 274 = .ok (.iload 4, 2) := by decide +kernel
theorem dL_law_276 : decode cL_law 276 = .ok (.iconst 1, 1) := by decide +kernel
theorem dL_law_277 : decode cL_law 277 = .ok (.iadd, 1) := by decide +kernel
theorem dL_law_278 : decode cL_law 278 = .ok (.iaload, 1) := by decide +kernel
theorem dL_law_279 : decode cL_law 279 = .ok (.aload_n 0, 1) := by decide +kernel
theorem dL_law_280 : decode cL_law 280 = .ok (.iload 4, 2) := by decide +kernel
theorem dL_law_282 : decode cL_law 282 = .ok (.iconst 2, 1) := by decide +kernel
theorem dL_law_283 : decode cL_law 283 = .ok (.iadd, 1) := by decide +kernel
theorem dL_law_284 : decode cL_law 284 = .ok (.iaload, 1) := by decide +kernel
theorem dL_law_285 : decode cL_law 285 = .ok (.aload_n 0, 1) := by decide +kernel
theorem dL_law_286 : decode cL_law 286 = .ok (.iload 4, 2) := by decide +kernel
theorem dL_law_288 : decode cL_law 288 = .ok (.iconst 3, 1) := by decide +kernel
theorem dL_law_289 : decode cL_law 289 = .ok (.iadd, 1) := by decide +kernel
theorem dL_law_290 : decode cL_law 290 = .ok (.iaload, 1) := by decide +kernel
theorem dL_law_291 : decode cL_law 291 = .ok (.aload_n 0, 1) := by decide +kernel
theorem dL_law_292 : decode cL_law 292 = .ok (.iload 4, 2) := by decide +kernel
theorem dL_law_294 : decode cL_law 294 = .ok (.iconst 4, 1) := by decide +kernel
theorem dL_law_295 : decode cL_law 295 = .ok (.iadd, 1) := by decide +kernel
theorem dL_law_296 : decode cL_law 296 = .ok (.iaload, 1) := by decide +kernel
theorem dL_law_297 : decode cL_law 297 = .ok (.aload_n 0, 1) := by decide +kernel
theorem dL_law_298 : decode cL_law 298 = .ok (.iload 4, 2) := by decide +kernel
theorem dL_law_300 : decode cL_law 300 = .ok (.iconst 5, 1) := by decide +kernel
theorem dL_law_301 : decode cL_law 301 = .ok (.iadd, 1) := by decide +kernel
theorem dL_law_302 : decode cL_law 302 = .ok (.iaload, 1) := by decide +kernel
theorem dL_law_303 : decode cL_law 303 = .ok (.aload_n 0, 1) := by decide +kernel
theorem dL_law_304 : decode cL_law 304 = .ok (.iload 4, 2) := by decide +kernel
theorem dL_law_306 : decode cL_law 306 = .ok (.bipush 6, 2) := by decide +kernel
theorem dL_law_308 : decode cL_law 308 = .ok (.iadd, 1) := by decide +kernel
theorem dL_law_309 : decode cL_law 309 = .ok (.iaload, 1) := by decide +kernel
theorem dL_law_310 : decode cL_law 310 = .ok (.aload_n 0, 1) := by decide +kernel
theorem dL_law_311 : decode cL_law 311 = .ok (.iload 4, 2) := by decide +kernel
theorem dL_law_313 : decode cL_law 313 = .ok (.bipush 7, 2) := by decide +kernel
theorem dL_law_315 : decode cL_law 315 = .ok (.iadd, 1) := by decide +kernel
theorem dL_law_316 : decode cL_law 316 = .ok (.iaload, 1) := by decide +kernel
theorem dL_law_317 : decode cL_law 317 = .ok (.invokevirtual 44, 3) := by decide +kernel
theorem dL_law_320 : decode cL_law 320 = .ok (.if_icmp .eq 854, 3) := by decide +kernel
theorem dL_law_323 : decode cL_law 323 = .ok (.iconst 0, 1) := by decide +kernel
theorem dL_law_324 : decode cL_law 324 = .ok (.ireturn, 1) := by decide +kernel
theorem dL_law_325 : decode cL_law 325 = .ok (.aload_n 1, 1) := by decide +kernel
theorem dL_law_326 : decode cL_law 326 = .ok (.aload_n 0, 1) := by decide +kernel
theorem dL_law_327 : decode cL_law 327 = .ok (.iload 4, 2) := by decide +kernel
theorem dL_law_329 : decode cL_law 329 = .ok (.iconst 1, 1) := by decide +kernel
theorem dL_law_330 : decode cL_law 330 = .ok (.iadd, 1) := by decide +kernel
theorem dL_law_331 : decode cL_law 331 = .ok (.iaload, 1) := by decide +kernel
theorem dL_law_332 : decode cL_law 332 = .ok (.aload_n 0, 1) := by decide +kernel
theorem dL_law_333 : decode cL_law 333 = .ok (.iload 4, 2) := by decide +kernel
theorem dL_law_335 : decode cL_law 335 = .ok (.iconst 2, 1) := by decide +kernel
theorem dL_law_336 : decode cL_law 336 = .ok (.iadd, 1) := by decide +kernel
theorem dL_law_337 : decode cL_law 337 = .ok (.iaload, 1) := by decide +kernel
theorem dL_law_338 : decode cL_law 338 = .ok (.aload_n 0, 1) := by decide +kernel
theorem dL_law_339 : decode cL_law 339 = .ok (.iload 4, 2) := by decide +kernel
theorem dL_law_341 : decode cL_law 341 = .ok (.iconst 3, 1) := by decide +kernel
theorem dL_law_342 : decode cL_law 342 = .ok (.iadd, 1) := by decide +kernel
theorem dL_law_343 : decode cL_law 343 = .ok (.iaload, 1) := by decide +kernel
theorem dL_law_344 : decode cL_law 344 = .ok (.aload_n 0, 1) := by decide +kernel
theorem dL_law_345 : decode cL_law 345 = .ok (.iload 4, 2) := by decide +kernel
theorem dL_law_347 : decode cL_law 347 = .ok (.iconst 4, 1) := by decide +kernel
theorem dL_law_348 : decode cL_law 348 = .ok (.iadd, 1) := by decide +kernel
theorem dL_law_349 : decode cL_law 349 = .ok (.iaload, 1) := by decide +kernel
theorem dL_law_350 : decode cL_law 350 = .ok (.aload_n 0, 1) := by decide +kernel
theorem dL_law_351 : decode cL_law 351 = .ok (.iload 4, 2) := by decide +kernel
theorem dL_law_353 : decode cL_law 353 = .ok (.iconst 5, 1) := by decide +kernel
theorem dL_law_354 : decode cL_law 354 = .ok (.iadd, 1) := by decide +kernel
theorem dL_law_355 : decode cL_law 355 = .ok (.iaload, 1) := by decide +kernel
theorem dL_law_356 : decode cL_law 356 = .ok (.aload_n 3, 1) := by decide +kernel
theorem dL_law_357 : decode cL_law 357 = .ok (.invokestatic 45, 3) := by decide +kernel
theorem dL_law_360 : decode cL_law 360 = .ok (.istore 5, 2) := by decide +kernel
theorem dL_law_362 : decode cL_law 362 = .ok (.aload_n 2, 1) := by decide +kernel
theorem dL_law_363 : decode cL_law 363 = .ok (.aload_n 0, 1) := by decide +kernel
theorem dL_law_364 : decode cL_law 364 = .ok (.iload 4, 2) := by decide +kernel
theorem dL_law_366 : decode cL_law 366 = .ok (.iconst 1, 1) := by decide +kernel
theorem dL_law_367 : decode cL_law 367 = .ok (.iadd, 1) := by decide +kernel
theorem dL_law_368 : decode cL_law 368 = .ok (.iaload, 1) := by decide +kernel
theorem dL_law_369 : decode cL_law 369 = .ok (.aload_n 0, 1) := by decide +kernel
theorem dL_law_370 : decode cL_law 370 = .ok (.iload 4, 2) := by decide +kernel
theorem dL_law_372 : decode cL_law 372 = .ok (.iconst 2, 1) := by decide +kernel
theorem dL_law_373 : decode cL_law 373 = .ok (.iadd, 1) := by decide +kernel
theorem dL_law_374 : decode cL_law 374 = .ok (.iaload, 1) := by decide +kernel
theorem dL_law_375 : decode cL_law 375 = .ok (.aload_n 0, 1) := by decide +kernel
theorem dL_law_376 : decode cL_law 376 = .ok (.iload 4, 2) := by decide +kernel
theorem dL_law_378 : decode cL_law 378 = .ok (.iconst 3, 1) := by decide +kernel
theorem dL_law_379 : decode cL_law 379 = .ok (.iadd, 1) := by decide +kernel
theorem dL_law_380 : decode cL_law 380 = .ok (.iaload, 1) := by decide +kernel
theorem dL_law_381 : decode cL_law 381 = .ok (.aload_n 0, 1) := by decide +kernel
theorem dL_law_382 : decode cL_law 382 = .ok (.iload 4, 2) := by decide +kernel
theorem dL_law_384 : decode cL_law 384 = .ok (.iconst 4, 1) := by decide +kernel
theorem dL_law_385 : decode cL_law 385 = .ok (.iadd, 1) := by decide +kernel
theorem dL_law_386 : decode cL_law 386 = .ok (.iaload, 1) := by decide +kernel
theorem dL_law_387 : decode cL_law 387 = .ok (.aload_n 0, 1) := by decide +kernel
theorem dL_law_388 : decode cL_law 388 = .ok (.iload 4, 2) := by decide +kernel
theorem dL_law_390 : decode cL_law 390 = .ok (.iconst 5, 1) := by decide +kernel
theorem dL_law_391 : decode cL_law 391 = .ok (.iadd, 1) := by decide +kernel
theorem dL_law_392 : decode cL_law 392 = .ok (.iaload, 1) := by decide +kernel
theorem dL_law_393 : decode cL_law 393 = .ok (.invokevirtual 50, 3) := by decide +kernel
theorem dL_law_396 : decode cL_law 396 = .ok (.istore 6, 2) := by decide +kernel
theorem dL_law_398 : decode cL_law 398 = .ok (.aload_n 2, 1) := by decide +kernel
theorem dL_law_399 : decode cL_law 399 = .ok (.invokevirtual 51, 3) := by decide +kernel
theorem dL_law_402 : decode cL_law 402 = .ok (.iload 5, 2) := by decide +kernel
theorem dL_law_404 : decode cL_law 404 = .ok (.if_icmp .eq 5, 3) := by decide +kernel
theorem dL_law_407 : decode cL_law 407 = .ok (.iconst 0, 1) := by decide +kernel
theorem dL_law_408 : decode cL_law 408 = .ok (.ireturn, 1) := by decide +kernel
theorem dL_law_409 : decode cL_law 409 = .ok (.iload 5, 2) := by decide +kernel
theorem dL_law_411 : decode cL_law 411 = .ok (.ifCond .ne 15, 3) := by decide +kernel
theorem dL_law_414 : decode cL_law 414 = .ok (.aload_n 3, 1) := by decide +kernel
theorem dL_law_415 : decode cL_law 415 = .ok (.iconst 0, 1) := by decide +kernel
theorem dL_law_416 : decode cL_law 416 = .ok (.laload, 1) := by decide +kernel
theorem dL_law_417 : decode cL_law 417 = .ok (.iload 6, 2) := by decide +kernel
theorem dL_law_419 : decode cL_law 419 = .ok (.i2l, 1) := by decide +kernel
theorem dL_law_420 : decode cL_law 420 = .ok (.lcmp, 1) := by decide +kernel
theorem dL_law_421 : decode cL_law 421 = .ok (.ifCond .eq 5, 3) := by decide +kernel
theorem dL_law_424 : decode cL_law 424 = .ok (.iconst 0, 1) := by decide +kernel
theorem dL_law_425 : decode cL_law 425 = .ok (.ireturn, 1) := by decide +kernel
theorem dL_law_426 : decode cL_law 426 = .ok (.goto 748, 3) := by decide +kernel
theorem dL_law_429 : decode cL_law 429 = .ok (.aload_n 1, 1) := by decide +kernel
theorem dL_law_430 : decode cL_law 430 = .ok (.aload_n 0, 1) := by decide +kernel
theorem dL_law_431 : decode cL_law 431 = .ok (.iload 4, 2) := by decide +kernel
theorem dL_law_433 : decode cL_law 433 = .ok (.iconst 1, 1) := by decide +kernel
theorem dL_law_434 : decode cL_law 434 = .ok (.iadd, 1) := by decide +kernel
theorem dL_law_435 : decode cL_law 435 = .ok (.iaload, 1) := by decide +kernel
theorem dL_law_436 : decode cL_law 436 = .ok (.aload_n 0, 1) := by decide +kernel
theorem dL_law_437 : decode cL_law 437 = .ok (.iload 4, 2) := by decide +kernel
theorem dL_law_439 : decode cL_law 439 = .ok (.iconst 2, 1) := by decide +kernel
theorem dL_law_440 : decode cL_law 440 = .ok (.iadd, 1) := by decide +kernel
theorem dL_law_441 : decode cL_law 441 = .ok (.iaload, 1) := by decide +kernel
theorem dL_law_442 : decode cL_law 442 = .ok (.aload_n 0, 1) := by decide +kernel
theorem dL_law_443 : decode cL_law 443 = .ok (.iload 4, 2) := by decide +kernel
theorem dL_law_445 : decode cL_law 445 = .ok (.iconst 3, 1) := by decide +kernel
theorem dL_law_446 : decode cL_law 446 = .ok (.iadd, 1) := by decide +kernel
theorem dL_law_447 : decode cL_law 447 = .ok (.iaload, 1) := by decide +kernel
theorem dL_law_448 : decode cL_law 448 = .ok (.invokevirtual 54, 3) := by decide +kernel
theorem dL_law_451 : decode cL_law 451 = .ok (.aload_n 2, 1) := by decide +kernel
theorem dL_law_452 : decode cL_law 452 = .ok (.aload_n 0, 1) := by decide +kernel
theorem dL_law_453 : decode cL_law 453 = .ok (.iload 4, 2) := by decide +kernel
theorem dL_law_455 : decode cL_law 455 = .ok (.iconst 1, 1) := by decide +kernel
end
section
theorem dL_law_456 : decode cL_law 456 = .ok (.iadd, 1) := by decide +kernel
theorem dL_law_457 : decode cL_law 457 = .ok (.iaload, 1) := by decide +kernel
theorem dL_law_458 : decode cL_law 458 = .ok (.aload_n 0, 1) := by decide +kernel
theorem dL_law_459 : decode cL_law 459 = .ok (.iload 4, 2) := by decide +kernel
theorem dL_law_461 : decode cL_law 461 = .ok (.iconst 2, 1) := by decide +kernel
theorem dL_law_462 : decode cL_law 462 = .ok (.iadd, 1) := by decide +kernel
theorem dL_law_463 : decode cL_law 463 = .ok (.iaload, 1) := by decide +kernel
theorem dL_law_464 : decode cL_law 464 = .ok (.aload_n 0, 1) := by decide +kernel
theorem dL_law_465 : decode cL_law 465 = .ok (.iload 4, 2) := by decide +kernel
theorem dL_law_467 : decode cL_law 467 = .ok (.iconst 3, 1) := by decide +kernel
theorem dL_law_468 : decode cL_law 468 = .ok (.iadd, 1) := by decide +kernel
theorem dL_law_469 : decode cL_law 469 = .ok (.iaload, 1) := by decide +kernel
theorem dL_law_470 : decode cL_law 470 = .ok (.invokevirtual 58, 3) := by decide +kernel
theorem dL_law_473 : decode cL_law 473 = .ok (.if_icmp .eq 701, 3) := by decide +kernel
theorem dL_law_476 : decode cL_law 476 = .ok (.iconst 0, 1) := by decide +kernel
theorem dL_law_477 : decode cL_law 477 = .ok (.ireturn, 1) := by decide +kernel
theorem dL_law_478 : decode cL_law 478 = .ok (.aload_n 1, 1) := by decide +kernel
theorem dL_law_479 : decode cL_law 479 = .ok (.invokevirtual 59, 3) := by decide +kernel
theorem dL_law_482 : decode cL_law 482 = .ok (.aload_n 2, 1) := by decide +kernel
theorem dL_law_483 : decode cL_law 483 = .ok (.invokevirtual 62, 3) := by decide +kernel
theorem dL_law_486 : decode cL_law 486 = .ok (.if_icmp .eq 688, 3) := by decide +kernel
theorem dL_law_489 : decode cL_law 489 = .ok (.iconst 0, 1) := by decide +kernel
theorem dL_law_490 : decode cL_law 490 = .ok (.ireturn, 1) := by decide +kernel
theorem dL_law_491 : decode cL_law 491 = .ok (.aload_n 1, 1) := by decide +kernel
theorem dL_law_492 : decode cL_law 492 = .ok (.aload_n 0, 1) := by decide +kernel
theorem dL_law_493 : decode cL_law 493 = .ok (.iload 4, 2) := by decide +kernel
theorem dL_law_495 : decode cL_law 495 = .ok (.iconst 1, 1) := by decide +kernel
theorem dL_law_496 : decode cL_law 496 = .ok (.iadd, 1) := by decide +kernel
theorem dL_law_497 : decode cL_law 497 = .ok (.iaload, 1) := by decide +kernel
theorem dL_law_498 : decode cL_law 498 = .ok (.ifCond .eq 7, 3) := by decide +kernel
theorem dL_law_501 : decode cL_law 501 = .ok (.iconst 1, 1) := by decide +kernel
theorem dL_law_502 : decode cL_law 502 = .ok (.goto 4, 3) := by decide +kernel
theorem dL_law_505 : decode cL_law 505 = .ok (.iconst 0, 1) := by decide +kernel
theorem dL_law_506 : decode cL_law 506 = .ok (.aload_n 0, 1) := by decide +kernel
theorem dL_law_507 : decode cL_law 507 = .ok (.iload 4, 2) := by decide +kernel
theorem dL_law_509 : decode cL_law 509 = .ok (.iconst 2, 1) := by decide +kernel
theorem dL_law_510 : decode cL_law 510 = .ok (.iadd, 1) := by decide +kernel
theorem dL_law_511 : decode cL_law 511 = .ok (.iaload, 1) := by decide +kernel
theorem dL_law_512 : decode cL_law 512 = .ok (.invokevirtual 63, 3) := by decide +kernel
theorem dL_law_515 : decode cL_law 515 = .ok (.aload_n 2, 1) := by decide +kernel
theorem dL_law_516 : decode cL_law 516 = .ok (.aload_n 0, 1) := by decide +kernel
theorem dL_law_517 : decode cL_law 517 = .ok (.iload 4, 2) := by decide +kernel
theorem dL_law_519 : decode cL_law 519 = .ok (.iconst 1, 1) := by decide +kernel
theorem dL_law_520 : decode cL_law 520 = .ok (.iadd, 1) := by decide +kernel
theorem dL_law_521 : decode cL_law 521 = .ok (.iaload, 1) := by decide +kernel
theorem dL_law_522 : decode cL_law 522 = .ok (.ifCond .eq 7, 3) := by decide +kernel
theorem dL_law_525 : decode cL_law 525 = .ok (.iconst 1, 1) := by decide +kernel
theorem dL_law_526 : decode cL_law 526 = .ok (.goto 4, 3) := by decide +kernel
theorem dL_law_529 : decode cL_law 529 = .ok (.iconst 0, 1) := by decide +kernel
theorem dL_law_530 : decode cL_law 530 = .ok (.aload_n 0, 1) := by decide +kernel
theorem dL_law_531 : decode cL_law 531 = .ok (.iload 4, 2) := by decide +kernel
theorem dL_law_533 : decode cL_law 533 = .ok (.iconst 2, 1) := by decide +kernel
theorem dL_law_534 : decode cL_law 534 = .ok (.iadd, 1) := by decide +kernel
theorem dL_law_535 : decode cL_law 535 = .ok (.iaload, 1) := by decide +kernel
theorem dL_law_536 : decode cL_law 536 = .ok (.invokevirtual 67, 3) := by decide +kernel
theorem dL_law_539 : decode cL_law 539 = .ok (.lcmp, 1) := by decide +kernel
theorem dL_law_540 : decode cL_law 540 = .ok (.ifCond .eq 634, 3) := by decide +kernel
theorem dL_law_543 : decode cL_law 543 = .ok (.iconst 0, 1) := by decide +kernel
theorem dL_law_544 : decode cL_law 544 = .ok (.ireturn, 1) := by decide +kernel
theorem dL_law_545 : decode cL_law 545 = .ok (.aload_n 1, 1) := by decide +kernel
theorem dL_law_546 : decode cL_law 546 = .ok (.aload_n 0, 1) := by decide +kernel
theorem dL_law_547 : decode cL_law 547 = .ok (.iload 4, 2) := by decide +kernel
theorem dL_law_549 : decode cL_law 549 = .ok (.iconst 1, 1) := by decide +kernel
theorem dL_law_550 : decode cL_law 550 = .ok (.iadd, 1) := by decide +kernel
theorem dL_law_551 : decode cL_law 551 = .ok (.iaload, 1) := by decide +kernel
theorem dL_law_552 : decode cL_law 552 = .ok (.aload_n 0, 1) := by decide +kernel
theorem dL_law_553 : decode cL_law 553 = .ok (.iload 4, 2) := by decide +kernel
theorem dL_law_555 : decode cL_law 555 = .ok (.iconst 2, 1) := by decide +kernel
theorem dL_law_556 : decode cL_law 556 = .ok (.iadd, 1) := by decide +kernel
theorem dL_law_557 : decode cL_law 557 = .ok (.iaload, 1) := by decide +kernel
theorem dL_law_558 : decode cL_law 558 = .ok (.invokevirtual 68, 3) := by decide +kernel
theorem dL_law_561 : decode cL_law 561 = .ok (.aload_n 2, 1) := by decide +kernel
theorem dL_law_562 : decode cL_law 562 = .ok (.aload_n 0, 1) := by decide +kernel
theorem dL_law_563 : decode cL_law 563 = .ok (.iload 4, 2) := by decide +kernel
theorem dL_law_565 : decode cL_law 565 = .ok (.iconst 1, 1) := by decide +kernel
theorem dL_law_566 : decode cL_law 566 = .ok (.iadd, 1) := by decide +kernel
theorem dL_law_567 : decode cL_law 567 = .ok (.iaload, 1) := by decide +kernel
theorem dL_law_568 : decode cL_law 568 = .ok (.aload_n 0, 1) := by decide +kernel
theorem dL_law_569 : decode cL_law 569 = .ok (.iload 4, 2) := by decide +kernel
theorem dL_law_571 : decode cL_law 571 = .ok (.iconst 2, 1) := by decide +kernel
theorem dL_law_572 : decode cL_law 572 = .ok (.iadd, 1) := by decide +kernel
theorem dL_law_573 : decode cL_law 573 = .ok (.iaload, 1) := by decide +kernel
theorem dL_law_574 : decode cL_law 574 = .ok (.invokevirtual 72, 3) := by decide +kernel
theorem dL_law_577 : decode cL_law 577 = .ok (.if_icmp .eq 597, 3) := by decide +kernel
theorem dL_law_580 : decode cL_law 580 = .ok (.iconst 0, 1) := by decide +kernel
theorem dL_law_581 : decode cL_law 581 = .ok (.ireturn, 1) := by decide +kernel
theorem dL_law_582 : decode cL_law 582 = .ok (.aload_n 1, 1) := by decide +kernel
theorem dL_law_583 : decode cL_law 583 = .ok (.aload_n 0, 1) := by decide +kernel
theorem dL_law_584 : decode cL_law 584 = .ok (.iload 4, 2) := by decide +kernel
theorem dL_law_586 : decode cL_law 586 = .ok (.iconst 1, 1) := by decide +kernel
theorem dL_law_587 : decode cL_law 587 = .ok (.iadd, 1) := by decide +kernel
theorem dL_law_588 : decode cL_law 588 = .ok (.iaload, 1) := by decide +kernel
theorem dL_law_589 : decode cL_law 589 = .ok (.aload_n 0, 1) := by decide +kernel
theorem dL_law_590 : decode cL_law 590 = .ok (.iload 4, 2) := by decide +kernel
theorem dL_law_592 : decode cL_law 592 = .ok (.iconst 2, 1) := by decide +kernel
theorem dL_law_593 : decode cL_law 593 = .ok (.iadd, 1) := by decide +kernel
theorem dL_law_594 : decode cL_law 594 = .ok (.iaload, 1) := by decide +kernel
theorem dL_law_595 : decode cL_law 595 = .ok (.invokevirtual 73, 3) := by decide +kernel
theorem dL_law_598 : decode cL_law 598 = .ok (.aload_n 2, 1) := by decide +kernel
theorem dL_law_599 : decode cL_law 599 = .ok (.aload_n 0, 1) := by decide +kernel
theorem dL_law_600 : decode cL_law 600 = .ok (.iload 4, 2) := by decide +kernel
theorem dL_law_602 : decode cL_law 602 = .ok (.iconst 1, 1) := by decide +kernel
theorem dL_law_603 : decode cL_law 603 = .ok (.iadd, 1) := by decide +kernel
theorem dL_law_604 : decode cL_law 604 = .ok (.iaload, 1) := by decide +kernel
theorem dL_law_605 : decode cL_law 605 = .ok (.aload_n 0, 1) := by decide +kernel
theorem dL_law_606 : decode cL_law 606 = .ok (.iload 4, 2) := by decide +kernel
theorem dL_law_608 : decode cL_law 608 = .ok (.iconst 2, 1) := by decide +kernel
theorem dL_law_609 : decode cL_law 609 = .ok (.iadd, 1) := by decide +kernel
theorem dL_law_610 : decode cL_law 610 = .ok (.iaload, 1) := by decide +kernel
theorem dL_law_611 : decode cL_law 611 = .ok (.invokevirtual 76, 3) := by decide +kernel
theorem dL_law_614 : decode cL_law 614 = .ok (.lcmp, 1) := by decide +kernel
theorem dL_law_615 : decode cL_law 615 = .ok (.ifCond .eq 559, 3) := by decide +kernel
theorem dL_law_618 : decode cL_law 618 = .ok (.iconst 0, 1) := by decide +kernel
theorem dL_law_619 : decode cL_law 619 = .ok (.ireturn, 1) := by decide +kernel
theorem dL_law_620 : decode cL_law 620 = .ok (.aload_n 1, 1) := by decide +kernel
theorem dL_law_621 : decode cL_law 621 = .ok (.aload_n 0, 1) := by decide +kernel
theorem dL_law_622 : decode cL_law 622 = .ok (.iload 4, 2) := by decide +kernel
theorem dL_law_624 : decode cL_law 624 = .ok (.iconst 1, 1) := by decide +kernel
theorem dL_law_625 : decode cL_law 625 = .ok (.iadd, 1) := by decide +kernel
theorem dL_law_626 : decode cL_law 626 = .ok (.iaload, 1) := by decide +kernel
theorem dL_law_627 : decode cL_law 627 = .ok (.i2l, 1) := by decide +kernel
theorem dL_law_628 : decode cL_law 628 = .ok (.bipush 32, 2) := by decide +kernel
theorem dL_law_630 : decode cL_law 630 = .ok (.lshl, 1) := by decide +kernel
theorem dL_law_631 : decode cL_law 631 = .ok (.aload_n 0, 1) := by decide +kernel
theorem dL_law_632 : decode cL_law 632 = .ok (.iload 4, 2) := by decide +kernel
theorem dL_law_634 : decode cL_law 634 = .ok (.iconst 2, 1) := by decide +kernel
theorem dL_law_635 : decode cL_law 635 = .ok (.iadd, 1) := by decide +kernel
theorem dL_law_636 : decode cL_law 636 = .ok (.iaload, 1) := by decide +kernel
theorem dL_law_637 : decode cL_law 637 = .ok (.i2l, 1) := by decide +kernel
theorem dL_law_638 : decode cL_law 638 = .ok (.ldc2_w 77, 3) := by decide +kernel
theorem dL_law_641 : decode cL_law 641 = .ok (.land, 1) := by decide +kernel
theorem dL_law_642 : decode cL_law 642 = .ok (.lor, 1) := by decide +kernel
theorem dL_law_643 : decode cL_law 643 = .ok (.aload_n 0, 1) := by decide +kernel
theorem dL_law_644 : decode cL_law 644 = .ok (.iload 4, 2) := by decide +kernel
theorem dL_law_646 : decode cL_law 646 = .ok (.iconst 3, 1) := by decide +kernel
theorem dL_law_647 : decode cL_law 647 = .ok (.iadd, 1) := by decide +kernel
theorem dL_law_648 : decode cL_law 648 = .ok (.iaload, 1) := by decide +kernel
theorem dL_law_649 : decode cL_law 649 = .ok (.aload_n 0, 1) := by decide +kernel
theorem dL_law_650 : decode cL_law 650 = .ok (.iload 4, 2) := by decide +kernel
theorem dL_law_652 : decode cL_law 652 = .ok (.iconst 4, 1) := by decide +kernel
theorem dL_law_653 : decode cL_law 653 = .ok (.iadd, 1) := by decide +kernel
theorem dL_law_654 : decode cL_law 654 = .ok (.iaload, 1) := by decide +kernel
theorem dL_law_655 : decode cL_law 655 = .ok (.ifCond .eq 7, 3) := by decide +kernel
theorem dL_law_658 : decode cL_law 658 = .ok (.iconst 1, 1) := by decide +kernel
theorem dL_law_659 : decode cL_law 659 = .ok (.goto 4, 3) := by decide +kernel
theorem dL_law_662 : decode cL_law 662 = .ok (.iconst 0, 1) := by decide +kernel
theorem dL_law_663 : decode cL_law 663 = .ok (.invokevirtual 79, 3) := by decide +kernel
theorem dL_law_666 : decode cL_law 666 = .ok (.aload_n 2, 1) := by decide +kernel
theorem dL_law_667 : decode cL_law 667 = .ok (.aload_n 0, 1) := by decide +kernel
theorem dL_law_668 : decode cL_law 668 = .ok (.iload 4, 2) := by decide +kernel
theorem dL_law_670 : decode cL_law 670 = .ok (.iconst 1, 1) := by decide +kernel
theorem dL_law_671 : decode cL_law 671 = .ok (.iadd, 1) := by decide +kernel
theorem dL_law_672 : decode cL_law 672 = .ok (.iaload, 1) := by decide +kernel
theorem dL_law_673 : decode cL_law 673 = .ok (.i2l, 1) := by decide +kernel
theorem dL_law_674 : decode cL_law 674 = .ok (.bipush 32, 2) := by decide +kernel
theorem dL_law_676 : decode cL_law 676 = .ok (.lshl, 1) := by decide +kernel
theorem dL_law_677 : decode cL_law 677 = .ok (.aload_n 0, 1) := by decide +kernel
theorem dL_law_678 : decode cL_law 678 = .ok (.iload 4, 2) := by decide +kernel
theorem dL_law_680 : decode cL_law 680 = .ok (.iconst 2, 1) := by decide +kernel
theorem dL_law_681 : decode cL_law 681 = .ok (.iadd, 1) := by decide +kernel
theorem dL_law_682 : decode cL_law 682 = .ok (.iaload, 1) := by decide +kernel
theorem dL_law_683 : decode cL_law 683 = .ok (.i2l, 1) := by decide +kernel
theorem dL_law_684 : decode cL_law 684 = .ok (.ldc2_w 77, 3) := by decide +kernel
theorem dL_law_687 : decode cL_law 687 = .ok (.land, 1) := by decide +kernel
theorem dL_law_688 : decode cL_law 688 = .ok (.lor, 1) := by decide +kernel
theorem dL_law_689 : decode cL_law 689 = .ok (.aload_n 0, 1) := by decide +kernel
theorem dL_law_690 : decode cL_law 690 = .ok (.iload 4, 2) := by decide +kernel
theorem dL_law_692 : decode cL_law 692 = .ok (.iconst 3, 1) := by decide +kernel
theorem dL_law_693 : decode cL_law 693 = .ok (.iadd, 1) := by decide +kernel
theorem dL_law_694 : decode cL_law 694 = .ok (.iaload, 1) := by decide +kernel
theorem dL_law_695 : decode cL_law 695 = .ok (.aload_n 0, 1) := by decide +kernel
theorem dL_law_696 : decode cL_law 696 = .ok (.iload 4, 2) := by decide +kernel
theorem dL_law_698 : decode cL_law 698 = .ok (.iconst 4, 1) := by decide +kernel
theorem dL_law_699 : decode cL_law 699 = .ok (.iadd, 1) := by decide +kernel
theorem dL_law_700 : decode cL_law 700 = .ok (.iaload, 1) := by decide +kernel
theorem dL_law_701 : decode cL_law 701 = .ok (.ifCond .eq 7, 3) := by decide +kernel
theorem dL_law_704 : decode cL_law 704 = .ok (.iconst 1, 1) := by decide +kernel
theorem dL_law_705 : decode cL_law 705 = .ok (.goto 4, 3) := by decide +kernel
theorem dL_law_708 : decode cL_law 708 = .ok (.iconst 0, 1) := by decide +kernel
theorem dL_law_709 : decode cL_law 709 = .ok (.invokevirtual 83, 3) := by decide +kernel
theorem dL_law_712 : decode cL_law 712 = .ok (.if_icmp .eq 462, 3) := by decide +kernel
theorem dL_law_715 : decode cL_law 715 = .ok (.iconst 0, 1) := by decide +kernel
theorem dL_law_716 : decode cL_law 716 = .ok (.ireturn, 1) := by decide +kernel
theorem dL_law_717 : decode cL_law 717 = .ok (.aload_n 1, 1) := by decide +kernel
theorem dL_law_718 : decode cL_law 718 = .ok (.aload_n 0, 1) := by decide +kernel
theorem dL_law_719 : decode cL_law 719 = .ok (.iload 4, 2) := by decide +kernel
theorem dL_law_721 : decode cL_law 721 = .ok (.iconst 1, 1) := by decide +kernel
theorem dL_law_722 : decode cL_law 722 = .ok (.iadd, 1) := by decide +kernel
theorem dL_law_723 : decode cL_law 723 = .ok (.iaload, 1) := by decide +kernel
theorem dL_law_724 : decode cL_law 724 = .ok (.aload_n 0, 1) := by decide +kernel
theorem dL_law_725 : decode cL_law 725 = .ok (.iload 4, 2) := by decide +kernel
theorem dL_law_727 : decode cL_law 727 = .ok (.iconst 2, 1) := by decide +kernel
theorem dL_law_728 : decode cL_law 728 = .ok (.iadd, 1) := by decide +kernel
theorem dL_law_729 : decode cL_law 729 = .ok (.iaload, 1) := by decide +kernel
theorem dL_law_730 : decode cL_law 730 = .ok (.aload_n 3, 1) := by decide +kernel
theorem dL_law_731 : decode cL_law 731 = .ok (.invokestatic 84, 3) := by decide +kernel
theorem dL_law_734 : decode cL_law 734 = .ok (.istore 5, 2) := by decide +kernel
theorem dL_law_736 : decode cL_law 736 = .ok (.aload_n 2, 1) := by decide +kernel
theorem dL_law_737 : decode cL_law 737 = .ok (.aload_n 0, 1) := by decide +kernel
theorem dL_law_738 : decode cL_law 738 = .ok (.iload 4, 2) := by decide +kernel
theorem dL_law_740 : decode cL_law 740 = .ok (.iconst 1, 1) := by decide +kernel
theorem dL_law_741 : decode cL_law 741 = .ok (.iadd, 1) := by decide +kernel
theorem dL_law_742 : decode cL_law 742 = .ok (.iaload, 1) := by decide +kernel
theorem dL_law_743 : decode cL_law 743 = .ok (.aload_n 0, 1) := by decide +kernel
theorem dL_law_744 : decode cL_law 744 = .ok (.iload 4, 2) := by decide +kernel
theorem dL_law_746 : decode cL_law 746 = .ok (.iconst 2, 1) := by decide +kernel
theorem dL_law_747 : decode cL_law 747 = .ok (.iadd, 1) := by decide +kernel
theorem dL_law_748 : decode cL_law 748 = .ok (.iaload, 1) := by decide +kernel
theorem dL_law_749 : decode cL_law 749 = .ok (.invokevirtual 87, 3) := by decide +kernel
theorem dL_law_752 : decode cL_law 752 = .ok (.lstore 6, 2) := by decide +kernel
theorem dL_law_754 : decode cL_law 754 = .ok (.aload_n 2, 1) := by decide +kernel
theorem dL_law_755 : decode cL_law 755 = .ok (.invokevirtual 51, 3) := by decide +kernel
theorem dL_law_758 : decode cL_law 758 = .ok (.iload 5, 2) := by decide +kernel
theorem dL_law_760 : decode cL_law 760 = .ok (.if_icmp .eq 5, 3) := by decide +kernel
theorem dL_law_763 : decode cL_law 763 = .ok (.iconst 0, 1) := by decide +kernel
theorem dL_law_764 : decode cL_law 764 = .ok (.ireturn, 1) := by decide +kernel
theorem dL_law_765 : decode cL_law 765 = .ok (.iload 5, 2) := by decide +kernel
theorem dL_law_767 : decode cL_law 767 = .ok (.ifCond .ne 14, 3) := by decide +kernel
theorem dL_law_770 : decode cL_law 770 = .ok (.aload_n 3, 1) := by decide +kernel
theorem dL_law_771 : decode cL_law 771 = .ok (.iconst 0, 1) := by decide +kernel
theorem dL_law_772 : decode cL_law 772 = .ok (.laload, 1) := by decide +kernel
theorem dL_law_773 : decode cL_law 773 = .ok (.lload 6, 2) := by decide +kernel
theorem dL_law_775 : decode cL_law 775 = .ok (.lcmp, 1) := by decide +kernel
theorem dL_law_776 : decode cL_law 776 = .ok (.ifCond .eq 5, 3) := by decide +kernel
theorem dL_law_779 : decode cL_law 779 = .ok (.iconst 0, 1) := by decide +kernel
theorem dL_law_780 : decode cL_law 780 = .ok (.ireturn, 1) := by decide +kernel
theorem dL_law_781 : decode cL_law 781 = .ok (.goto 393, 3) := by decide +kernel
theorem dL_law_784 : decode cL_law 784 = .ok (.aload_n 1, 1) := by decide +kernel
theorem dL_law_785 : decode cL_law 785 = .ok (.aload_n 0, 1) := by decide +kernel
theorem dL_law_786 : decode cL_law 786 = .ok (.iload 4, 2) := by decide +kernel
theorem dL_law_788 : decode cL_law 788 = .ok (.iconst 1, 1) := by decide +kernel
theorem dL_law_789 : decode cL_law 789 = .ok (.iadd, 1) := by decide +kernel
theorem dL_law_790 : decode cL_law 790 = .ok (.iaload, 1) := by decide +kernel
theorem dL_law_791 : decode cL_law 791 = .ok (.aload_n 0, 1) := by decide +kernel
theorem dL_law_792 : decode cL_law 792 = .ok (.iload 4, 2) := by decide +kernel
theorem dL_law_794 : decode cL_law 794 = .ok (.iconst 2, 1) := by decide +kernel
theorem dL_law_795 : decode cL_law 795 = .ok (.iadd, 1) := by decide +kernel
theorem dL_law_796 : decode cL_law 796 = .ok (.iaload, 1) := by decide +kernel
theorem dL_law_797 : decode cL_law 797 = .ok (.aload_n 0, 1) := by decide +kernel
theorem dL_law_798 : decode cL_law 798 = .ok (.iload 4, 2) := by decide +kernel
theorem dL_law_800 : decode cL_law 800 = .ok (.iconst 3, 1) := by decide +kernel
theorem dL_law_801 : decode cL_law 801 = .ok (.iadd, 1) := by decide +kernel
theorem dL_law_802 : decode cL_law 802 = .ok (.iaload, 1) := by decide +kernel
theorem dL_law_803 : decode cL_law 803 = .ok (.invokevirtual 88, 3) := by decide +kernel
theorem dL_law_806 : decode cL_law 806 = .ok (.aload_n 2, 1) := by decide +kernel
theorem dL_law_807 : decode cL_law 807 = .ok (.aload_n 0, 1) := by decide +kernel
theorem dL_law_808 : decode cL_law 808 = .ok (.iload 4, 2) := by decide +kernel
theorem dL_law_810 : decode cL_law 810 = .ok (.iconst 1, 1) := by decide +kernel
theorem dL_law_811 : decode cL_law 811 = .ok (.iadd, 1) := by decide +kernel
theorem dL_law_812 : decode cL_law 812 = .ok (.iaload, 1) := by decide +kernel
theorem dL_law_813 : decode cL_law 813 = .ok (.aload_n 0, 1) := by decide +kernel
theorem dL_law_814 : decode cL_law 814 = .ok (.iload 4, 2) := by decide +kernel
theorem dL_law_816 : decode cL_law 816 = .ok (.iconst 2, 1) := by decide +kernel
theorem dL_law_817 : decode cL_law 817 = .ok (.iadd, 1) := by decide +kernel
theorem dL_law_818 : decode cL_law 818 = .ok (.iaload, 1) := by decide +kernel
theorem dL_law_819 : decode cL_law 819 = .ok (.aload_n 0, 1) := by decide +kernel
theorem dL_law_820 : decode cL_law 820 = .ok (.iload 4, 2) := by decide +kernel
theorem dL_law_822 : decode cL_law 822 = .ok (.iconst 3, 1) := by decide +kernel
theorem dL_law_823 : decode cL_law 823 = .ok (.iadd, 1) := by decide +kernel
theorem dL_law_824 : decode cL_law 824 = .ok (.iaload, 1) := by decide +kernel
theorem dL_law_825 : decode cL_law 825 = .ok (.invokevirtual 92, 3) := by decide +kernel
theorem dL_law_828 : decode cL_law 828 = .ok (.lcmp, 1) := by decide +kernel
theorem dL_law_829 : decode cL_law 829 = .ok (.ifCond .eq 345, 3) := by decide +kernel
theorem dL_law_832 : decode cL_law 832 = .ok (.iconst 0, 1) := by decide +kernel
theorem dL_law_833 : decode cL_law 833 = .ok (.ireturn, 1) := by decide +kernel
theorem dL_law_834 : decode cL_law 834 = .ok (.aload_n 1, 1) := by decide +kernel
theorem dL_law_835 : decode cL_law 835 = .ok (.aload_n 3, 1) := by decide +kernel
theorem dL_law_836 : decode cL_law 836 = .ok (.invokestatic 93, 3) := by decide +kernel
theorem dL_law_839 : decode cL_law 839 = .ok (.istore 5, 2) := by decide +kernel
theorem dL_law_841 : decode cL_law 841 = .ok (.aload_n 2, 1) := by decide +kernel
theorem dL_law_842 : decode cL_law 842 = .ok (.invokevirtual 96, 3) := by decide +kernel
theorem dL_law_845 : decode cL_law 845 = .ok (.istore 6, 2) := by decide +kernel
theorem dL_law_847 : decode cL_law 847 = .ok (.aload_n 2, 1) := by decide +kernel
theorem dL_law_848 : decode cL_law 848 = .ok (.invokevirtual 51, 3) := by decide +kernel
theorem dL_law_851 : decode cL_law 851 = .ok (.iload 5, 2) := by decide +kernel
theorem dL_law_853 : decode cL_law 853 = .ok (.if_icmp .eq 5, 3) := by decide +kernel
theorem dL_law_856 : decode cL_law 856 = .ok (.iconst 0, 1) := by decide +kernel
theorem dL_law_857 : decode cL_law 857 = .ok (.ireturn, 1) := by decide +kernel
theorem dL_law_858 : decode cL_law 858 = .ok (.iload 5, 2) := by decide +kernel
theorem dL_law_860 : decode cL_law 860 = .ok (.ifCond .ne 15, 3) := by decide +kernel
theorem dL_law_863 : decode cL_law 863 = .ok (.aload_n 3, 1) := by decide +kernel
theorem dL_law_864 : decode cL_law 864 = .ok (.iconst 0, 1) := by decide +kernel
theorem dL_law_865 : decode cL_law 865 = .ok (.laload, 1) := by decide +kernel
theorem dL_law_866 : decode cL_law 866 = .ok (.iload 6, 2) := by decide +kernel
theorem dL_law_868 : decode cL_law 868 = .ok (.i2l, 1) := by decide +kernel
theorem dL_law_869 : decode cL_law 869 = .ok (.lcmp, 1) := by decide +kernel
theorem dL_law_870 : decode cL_law 870 = .ok (.ifCond .eq 5, 3) := by decide +kernel
theorem dL_law_873 : decode cL_law 873 = .ok (.iconst 0, 1) := by decide +kernel
theorem dL_law_874 : decode cL_law 874 = .ok (.ireturn, 1) := by decide +kernel
theorem dL_law_875 : decode cL_law 875 = .ok (.goto 299, 3) := by decide +kernel
theorem dL_law_878 : decode cL_law 878 = .ok (.aload_n 1, 1) := by decide +kernel
theorem dL_law_879 : decode cL_law 879 = .ok (.aload_n 0, 1) := by decide +kernel
theorem dL_law_880 : decode cL_law 880 = .ok (.iload 4, 2) := by decide +kernel
theorem dL_law_882 : decode cL_law 882 = .ok (.iconst 1, 1) := by decide +kernel
theorem dL_law_883 : decode cL_law 883 = .ok (.iadd, 1) := by decide +kernel
theorem dL_law_884 : decode cL_law 884 = .ok (.iaload, 1) := by decide +kernel
theorem dL_law_885 : decode cL_law 885 = .ok (.aload_n 0, 1) := by decide +kernel
theorem dL_law_886 : decode cL_law 886 = .ok (.iload 4, 2) := by decide +kernel
theorem dL_law_888 : decode cL_law 888 = .ok (.iconst 2, 1) := by decide +kernel
theorem dL_law_889 : decode cL_law 889 = .ok (.iadd, 1) := by decide +kernel
theorem dL_law_890 : decode cL_law 890 = .ok (.iaload, 1) := by decide +kernel
theorem dL_law_891 : decode cL_law 891 = .ok (.invokevirtual 97, 3) := by decide +kernel
theorem dL_law_894 : decode cL_law 894 = .ok (.aload_n 2, 1) := by decide +kernel
theorem dL_law_895 : decode cL_law 895 = .ok (.aload_n 0, 1) := by decide +kernel
theorem dL_law_896 : decode cL_law 896 = .ok (.iload 4, 2) := by decide +kernel
theorem dL_law_898 : decode cL_law 898 = .ok (.iconst 1, 1) := by decide +kernel
theorem dL_law_899 : decode cL_law 899 = .ok (.iadd, 1) := by decide +kernel
theorem dL_law_900 : decode cL_law 900 = .ok (.iaload, 1) := by decide +kernel
theorem dL_law_901 : decode cL_law 901 = .ok (.aload_n 0, 1) := by decide +kernel
theorem dL_law_902 : decode cL_law 902 = .ok (.iload 4, 2) := by decide +kernel
theorem dL_law_904 : decode cL_law 904 = .ok (.iconst 2, 1) := by decide +kernel
theorem dL_law_905 : decode cL_law 905 = .ok (.iadd, 1) := by decide +kernel
theorem dL_law_906 : decode cL_law 906 = .ok (.iaload, 1) := by decide +kernel
theorem dL_law_907 : decode cL_law 907 = .ok (.invokevirtual 100, 3) := by decide +kernel
theorem dL_law_910 : decode cL_law 910 = .ok (.if_icmp .eq 264, 3) := by decide +kernel
theorem dL_law_913 : decode cL_law 913 = .ok (.iconst 0, 1) := by decide +kernel
theorem dL_law_914 : decode cL_law 914 = .ok (.ireturn, 1) := by decide +kernel
theorem dL_law_915 : decode cL_law 915 = .ok (.aload_n 1, 1) := by decide +kernel
theorem dL_law_916 : decode cL_law 916 = .ok (.aload_n 0, 1) := by decide +kernel
theorem dL_law_917 : decode cL_law 917 = .ok (.iload 4, 2) := by decide +kernel
theorem dL_law_919 : decode cL_law 919 = .ok (.iconst 1, 1) := by decide +kernel
theorem dL_law_920 : decode cL_law 920 = .ok (.iadd, 1) := by decide +kernel
theorem dL_law_921 : decode cL_law 921 = .ok (.iaload, 1) := by decide +kernel
theorem dL_law_922 : decode cL_law 922 = .ok (.aload_n 0, 1) := by decide +kernel
theorem dL_law_923 : decode cL_law 923 = .ok (.iload 4, 2) := by decide +kernel
theorem dL_law_925 : decode cL_law 925 = .ok (.iconst 2, 1) := by decide +kernel
theorem dL_law_926 : decode cL_law 926 = .ok (.iadd, 1) := by decide +kernel
theorem dL_law_927 : decode cL_law 927 = .ok (.iaload, 1) := by decide +kernel
theorem dL_law_928 : decode cL_law 928 = .ok (.aload_n 0, 1) := by decide +kernel
theorem dL_law_929 : decode cL_law 929 = .ok (.iload 4, 2) := by decide +kernel
theorem dL_law_931 : decode cL_law 931 = .ok (.iconst 3, 1) := by decide +kernel
theorem dL_law_932 : decode cL_law 932 = .ok (.iadd, 1) := by decide +kernel
theorem dL_law_933 : decode cL_law 933 = .ok (.iaload, 1) := by decide +kernel
theorem dL_law_934 : decode cL_law 934 = .ok (.invokevirtual 101, 3) := by decide +kernel
theorem dL_law_937 : decode cL_law 937 = .ok (.aload_n 2, 1) := by decide +kernel
theorem dL_law_938 : decode cL_law 938 = .ok (.aload_n 0, 1) := by decide +kernel
theorem dL_law_939 : decode cL_law 939 = .ok (.iload 4, 2) := by decide +kernel
theorem dL_law_941 : decode cL_law 941 = .ok (.iconst 1, 1) := by decide +kernel
theorem dL_law_942 : decode cL_law 942 = .ok (.iadd, 1) := by decide +kernel
theorem dL_law_943 : decode cL_law 943 = .ok (.iaload, 1) := by decide +kernel
theorem dL_law_944 : decode cL_law 944 = .ok (.aload_n 0, 1) := by decide +kernel
theorem dL_law_945 : decode cL_law 945 = .ok (.iload 4, 2) := by decide +kernel
theorem dL_law_947 : decode cL_law 947 = .ok (.iconst 2, 1) := by decide +kernel
theorem dL_law_948 : decode cL_law 948 = .ok (.iadd, 1) := by decide +kernel
theorem dL_law_949 : decode cL_law 949 = .ok (.iaload, 1) := by decide +kernel
theorem dL_law_950 : decode cL_law 950 = .ok (.aload_n 0, 1) := by decide +kernel
theorem dL_law_951 : decode cL_law 951 = .ok (.iload 4, 2) := by decide +kernel
theorem dL_law_953 : decode cL_law 953 = .ok (.iconst 3, 1) := by decide +kernel
theorem dL_law_954 : decode cL_law 954 = .ok (.iadd, 1) := by decide +kernel
theorem dL_law_955 : decode cL_law 955 = .ok (.iaload, 1) := by decide +kernel
theorem dL_law_956 : decode cL_law 956 = .ok (.invokevirtual 104, 3) := by decide +kernel
theorem dL_law_959 : decode cL_law 959 = .ok (.lcmp, 1) := by decide +kernel
theorem dL_law_960 : decode cL_law 960 = .ok (.ifCond .eq 214, 3) := by decide +kernel
theorem dL_law_963 : decode cL_law 963 = .ok (.iconst 0, 1) := by decide +kernel
theorem dL_law_964 : decode cL_law 964 = .ok (.ireturn, 1) := by decide +kernel
theorem dL_law_965 : decode cL_law 965 = .ok (.aload_n 1, 1) := by decide +kernel
theorem dL_law_966 : decode cL_law 966 = .ok (.invokevirtual 105, 3) := by decide +kernel
theorem dL_law_969 : decode cL_law 969 = .ok (.aload_n 2, 1) := by decide +kernel
theorem dL_law_970 : decode cL_law 970 = .ok (.invokevirtual 108, 3) := by decide +kernel
theorem dL_law_973 : decode cL_law 973 = .ok (.if_icmp .eq 201, 3) := by decide +kernel
theorem dL_law_976 : decode cL_law 976 = .ok (.iconst 0, 1) := by decide +kernel
theorem dL_law_977 : decode cL_law 977 = .ok (.ireturn, 1) := by decide +kernel
theorem dL_law_978 : decode cL_law 978 = .ok (.aload_n 1, 1) := by decide +kernel
theorem dL_law_979 : decode cL_law 979 = .ok (.aload_n 0, 1) := by decide +kernel
theorem dL_law_980 : decode cL_law 980 = .ok (.iload 4, 2) := by decide +kernel
theorem dL_law_982 : decode cL_law 982 = .ok (.iconst 1, 1) := by decide +kernel
theorem dL_law_983 : decode cL_law 983 = .ok (.iadd, 1) := by decide +kernel
theorem dL_law_984 : decode cL_law 984 = .ok (.iaload, 1) := by decide +kernel
theorem dL_law_985 : decode cL_law 985 = .ok (.aload_n 0, 1) := by decide +kernel
theorem dL_law_986 : decode cL_law 986 = .ok (.iload 4, 2) := by decide +kernel
theorem dL_law_988 : decode cL_law 988 = .ok (.iconst 2, 1) := by decide +kernel
theorem dL_law_989 : decode cL_law 989 = .ok (.iadd, 1) := by decide +kernel
theorem dL_law_990 : decode cL_law 990 = .ok (.iaload, 1) := by decide +kernel
theorem dL_law_991 : decode cL_law 991 = .ok (.aload_n 0, 1) := by decide +kernel
theorem dL_law_992 : decode cL_law 992 = .ok (.iload 4, 2) := by decide +kernel
theorem dL_law_994 : decode cL_law 994 = .ok (.iconst 3, 1) := by decide +kernel
theorem dL_law_995 : decode cL_law 995 = .ok (.iadd, 1) := by decide +kernel
theorem dL_law_996 : decode cL_law 996 = .ok (.iaload, 1) := by decide +kernel
theorem dL_law_997 : decode cL_law 997 = .ok (.aload_n 0, 1) := by decide +kernel
theorem dL_law_998 : decode cL_law 998 = .ok (.iload 4, 2) := by decide +kernel
theorem dL_law_1000 : decode cL_law 1000 = .ok (.iconst 4, 1) := by decide +kernel
theorem dL_law_1001 : decode cL_law 1001 = .ok (.iadd, 1) := by decide +kernel
theorem dL_law_1002 : decode cL_law 1002 = .ok (.iaload, 1) := by decide +kernel
theorem dL_law_1003 : decode cL_law 1003 = .ok (.aload_n 3, 1) := by decide +kernel
theorem dL_law_1004 : decode cL_law 1004 = .ok (.invokestatic 109, 3) := by decide +kernel
theorem dL_law_1007 : decode cL_law 1007 = .ok (.istore 5, 2) := by decide +kernel
theorem dL_law_1009 : decode cL_law 1009 = .ok (.aload_n 2, 1) := by decide +kernel
theorem dL_law_1010 : decode cL_law 1010 = .ok (.aload_n 0, 1) := by decide +kernel
theorem dL_law_1011 : decode cL_law 1011 = .ok (.iload 4, 2) := by decide +kernel
theorem dL_law_1013 : decode cL_law 1013 = .ok (.iconst 1, 1) := by decide +kernel
theorem dL_law_1014 : decode cL_law 1014 = .ok (.iadd, 1) := by decide +kernel
theorem dL_law_1015 : decode cL_law 1015 = .ok (.iaload, 1) := by decide +kernel
theorem dL_law_1016 : decode cL_law 1016 = .ok (.aload_n 0, 1) := by decide +kernel
theorem dL_law_1017 : decode cL_law 1017 = .ok (.iload 4, 2) := by decide +kernel
theorem dL_law_1019 : decode cL_law 1019 = .ok (.iconst 2, 1) := by decide +kernel
theorem dL_law_1020 : decode cL_law 1020 = .ok (.iadd, 1) := by decide +kernel
theorem dL_law_1021 : decode cL_law 1021 = .ok (.iaload, 1) := by decide +kernel
theorem dL_law_1022 : decode cL_law 1022 = .ok (.aload_n 0, 1) := by decide +kernel
theorem dL_law_1023 : decode cL_law 1023 = .ok (.iload 4, 2) := by decide +kernel
theorem dL_law_1025 : decode cL_law 1025 = .ok (.iconst 3, 1) := by decide +kernel
theorem dL_law_1026 : decode cL_law 1026 = .ok (.iadd, 1) := by decide +kernel
theorem dL_law_1027 : decode cL_law 1027 = .ok (.iaload, 1) := by decide +kernel
theorem dL_law_1028 : decode cL_law 1028 = .ok (.aload_n 0, 1) := by decide +kernel
theorem dL_law_1029 : decode cL_law 1029 = .ok (.iload 4, 2) := by decide +kernel
theorem dL_law_1031 : decode cL_law 1031 = .ok (.iconst 4, 1) := by decide +kernel
theorem dL_law_1032 : decode cL_law 1032 = .ok (.iadd, 1) := by decide +kernel
theorem dL_law_1033 : decode cL_law 1033 = .ok (.iaload, 1) := by decide +kernel
theorem dL_law_1034 : decode cL_law 1034 = .ok (.invokevirtual 112, 3) := by decide +kernel
theorem dL_law_1037 : decode cL_law 1037 = .ok (.istore 6, 2) := by decide +kernel
theorem dL_law_1039 : decode cL_law 1039 = .ok (.aload_n 2, 1) := by decide +kernel
theorem dL_law_1040 : decode cL_law 1040 = .ok (.invokevirtual 51, 3) := by decide +kernel
theorem dL_law_1043 : decode cL_law 1043 = .ok (.iload 5, 2) := by decide +kernel
theorem dL_law_1045 : decode cL_law 1045 = .ok (.if_icmp .eq 5, 3) := by decide +kernel
theorem dL_law_1048 : decode cL_law 1048 = .ok (.iconst 0, 1) := by decide +kernel
theorem dL_law_1049 : decode cL_law 1049 = .ok (.ireturn, 1) := by decide +kernel
theorem dL_law_1050 : decode cL_law 1050 = .ok (.iload 5, 2) := by decide +kernel
theorem dL_law_1052 : decode cL_law 1052 = .ok (.ifCond .ne 15, 3) := by decide +kernel
theorem dL_law_1055 : decode cL_law 1055 = .ok (.aload_n 3, 1) := by decide +kernel
theorem dL_law_1056 : decode cL_law 1056 = .ok (.iconst 0, 1) := by decide +kernel
theorem dL_law_1057 : decode cL_law 1057 = .ok (.laload, 1) := by decide +kernel
theorem dL_law_1058 : decode cL_law 1058 = .ok (.iload 6, 2) := by decide +kernel
theorem dL_law_1060 : decode cL_law 1060 = .ok (.i2l, 1) := by decide +kernel
theorem dL_law_1061 : decode cL_law 1061 = .ok (.lcmp, 1) := by decide +kernel
theorem dL_law_1062 : decode cL_law 1062 = .ok (.ifCond .eq 5, 3) := by decide +kernel
theorem dL_law_1065 : decode cL_law 1065 = .ok (.iconst 0, 1) := by decide +kernel
theorem dL_law_1066 : decode cL_law 1066 = .ok (.ireturn, 1) := by decide +kernel
theorem dL_law_1067 : decode cL_law 1067 = .ok (.goto 107, 3) := by decide +kernel
theorem dL_law_1070 : decode cL_law 1070 = .ok (.aload_n 1, 1) := by decide +kernel
theorem dL_law_1071 : decode cL_law 1071 = .ok (.aload_n 0, 1) := by decide +kernel
theorem dL_law_1072 : decode cL_law 1072 = .ok (.iload 4, 2) := by decide +kernel
theorem dL_law_1074 : decode cL_law 1074 = .ok (.iconst 1, 1) := by decide +kernel
theorem dL_law_1075 : decode cL_law 1075 = .ok (.iadd, 1) := by decide +kernel
theorem dL_law_1076 : decode cL_law 1076 = .ok (.iaload, 1) := by decide +kernel
theorem dL_law_1077 : decode cL_law 1077 = .ok (.ifCond .eq 7, 3) := by decide +kernel
theorem dL_law_1080 : decode cL_law 1080 = .ok (.iconst 1, 1) := by decide +kernel
theorem dL_law_1081 : decode cL_law 1081 = .ok (.goto 4, 3) := by decide +kernel
theorem dL_law_1084 : decode cL_law 1084 = .ok (.iconst 0, 1) := by decide +kernel
theorem dL_law_1085 : decode cL_law 1085 = .ok (.invokevirtual 113, 3) := by decide +kernel
theorem dL_law_1088 : decode cL_law 1088 = .ok (.aload_n 2, 1) := by decide +kernel
theorem dL_law_1089 : decode cL_law 1089 = .ok (.aload_n 0, 1) := by decide +kernel
theorem dL_law_1090 : decode cL_law 1090 = .ok (.iload 4, 2) := by decide +kernel
theorem dL_law_1092 : decode cL_law 1092 = .ok (.iconst 1, 1) := by decide +kernel
theorem dL_law_1093 : decode cL_law 1093 = .ok (.iadd, 1) := by decide +kernel
theorem dL_law_1094 : decode cL_law 1094 = .ok (.iaload, 1) := by decide +kernel
theorem dL_law_1095 : decode cL_law 1095 = .ok (.ifCond .eq 7, 3) := by decide +kernel
theorem dL_law_1098 : decode cL_law 1098 = .ok (.iconst 1, 1) := by decide +kernel
theorem dL_law_1099 : decode cL_law 1099 = .ok (.goto 4, 3) := by decide +kernel
theorem dL_law_1102 : decode cL_law 1102 = .ok (.iconst 0, 1) := by decide +kernel
theorem dL_law_1103 : decode cL_law 1103 = .ok (.invokevirtual 117, 3) := by decide +kernel
theorem dL_law_1106 : decode cL_law 1106 = .ok (.if_icmp .eq 68, 3) := by decide +kernel
theorem dL_law_1109 : decode cL_law 1109 = .ok (.iconst 0, 1) := by decide +kernel
theorem dL_law_1110 : decode cL_law 1110 = .ok (.ireturn, 1) := by decide +kernel
theorem dL_law_1111 : decode cL_law 1111 = .ok (.aload_n 1, 1) := by decide +kernel
theorem dL_law_1112 : decode cL_law 1112 = .ok (.aload_n 0, 1) := by decide +kernel
theorem dL_law_1113 : decode cL_law 1113 = .ok (.iload 4, 2) := by decide +kernel
theorem dL_law_1115 : decode cL_law 1115 = .ok (.iconst 1, 1) := by decide +kernel
theorem dL_law_1116 : decode cL_law 1116 = .ok (.iadd, 1) := by decide +kernel
theorem dL_law_1117 : decode cL_law 1117 = .ok (.iaload, 1) := by decide +kernel
theorem dL_law_1118 : decode cL_law 1118 = .ok (.invokevirtual 118, 3) := by decide +kernel
theorem dL_law_1121 : decode cL_law 1121 = .ok (.aload_n 2, 1) := by decide +kernel
theorem dL_law_1122 : decode cL_law 1122 = .ok (.aload_n 0, 1) := by decide +kernel
theorem dL_law_1123 : decode cL_law 1123 = .ok (.iload 4, 2) := by decide +kernel
theorem dL_law_1125 : decode cL_law 1125 = .ok (.iconst 1, 1) := by decide +kernel
theorem dL_law_1126 : decode cL_law 1126 = .ok (.iadd, 1) := by decide +kernel
theorem dL_law_1127 : decode cL_law 1127 = .ok (.iaload, 1) := by decide +kernel
theorem dL_law_1128 : decode cL_law 1128 = .ok (.invokevirtual 122, 3) := by decide +kernel
theorem dL_law_1131 : decode cL_law 1131 = .ok (.if_icmp .eq 43, 3) := by decide +kernel
theorem dL_law_1134 : decode cL_law 1134 = .ok (.iconst 0, 1) := by decide +kernel
theorem dL_law_1135 : decode cL_law 1135 = .ok (.ireturn, 1) := by decide +kernel
theorem dL_law_1136 : decode cL_law 1136 = .ok (.aload_n 1, 1) := by decide +kernel
theorem dL_law_1137 : decode cL_law 1137 = .ok (.aload_n 0, 1) := by decide +kernel
theorem dL_law_1138 : decode cL_law 1138 = .ok (.iload 4, 2) := by decide +kernel
theorem dL_law_1140 : decode cL_law 1140 = .ok (.iconst 1, 1) := by decide +kernel
theorem dL_law_1141 : decode cL_law 1141 = .ok (.iadd, 1) := by decide +kernel
theorem dL_law_1142 : decode cL_law 1142 = .ok (.iaload, 1) := by decide +kernel
theorem dL_law_1143 : decode cL_law 1143 = .ok (.invokevirtual 123, 3) := by decide +kernel
theorem dL_law_1146 : decode cL_law 1146 = .ok (.aload_n 2, 1) := by decide +kernel
theorem dL_law_1147 : decode cL_law 1147 = .ok (.aload_n 0, 1) := by decide +kernel
theorem dL_law_1148 : decode cL_law 1148 = .ok (.iload 4, 2) := by decide +kernel
theorem dL_law_1150 : decode cL_law 1150 = .ok (.iconst 1, 1) := by decide +kernel
theorem dL_law_1151 : decode cL_law 1151 = .ok (.iadd, 1) := by decide +kernel
theorem dL_law_1152 : decode cL_law 1152 = .ok (.iaload, 1) := by decide +kernel
theorem dL_law_1153 : decode cL_law 1153 = .ok (.invokevirtual 126, 3) := by decide +kernel
theorem dL_law_1156 : decode cL_law 1156 = .ok (.if_icmp .eq 18, 3) := by decide +kernel
theorem dL_law_1159 : decode cL_law 1159 = .ok (.iconst 0, 1) := by decide +kernel
theorem dL_law_1160 : decode cL_law 1160 = .ok (.ireturn, 1) := by decide +kernel
theorem dL_law_1161 : decode cL_law 1161 = .ok (.aload_n 1, 1) := by decide +kernel
theorem dL_law_1162 : decode cL_law 1162 = .ok (.invokevirtual 127, 3) := by decide +kernel
theorem dL_law_1165 : decode cL_law 1165 = .ok (.aload_n 2, 1) := by decide +kernel
theorem dL_law_1166 : decode cL_law 1166 = .ok (.invokevirtual 130, 3) := by decide +kernel
theorem dL_law_1169 : decode cL_law 1169 = .ok (.if_icmp .eq 5, 3) := by decide +kernel
theorem dL_law_1172 : decode cL_law 1172 = .ok (.iconst 0, 1) := by decide +kernel
theorem dL_law_1173 : decode cL_law 1173 = .ok (.ireturn, 1) := by decide +kernel
theorem dL_law_1174 : decode cL_law 1174 = .ok (.iinc 4 8, 3) := by decide +kernel
theorem dL_law_1177 : decode cL_law 1177 = .ok (.goto (-1154), 3) := by decide +kernel
theorem dL_law_1180 : decode cL_law 1180 = .ok (.iconst 1, 1) := by decide +kernel
theorem dL_law_1181 : decode cL_law 1181 = .ok (.ireturn, 1) := by decide +kernel
abbrev vwCl : List vw_C := [(RX0, TX0, 3), (RX1, TX1, 3), (RX2, TX2, 4), (RX4, TX4, 2), (RX5, TX5, 4), (RX6, TX6, 10), (RX7, TX7, 4), (RX8, TX8, 3), (RX9, TX9, 2), (RX10, TX10, 8), (RX11, TX11, 26)]
end
section
theorem zz_last : True := trivial
end

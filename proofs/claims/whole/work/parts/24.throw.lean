abbrev nmE : List String := ["java/lang/RuntimeException", "java/lang/Exception"]
abbrev ngE (X : String) : List Cond := [.declares (Bundle.initS "java/lang/RuntimeException"), .declares (Bundle.initS "java/lang/Exception"), .declares (Bundle.initS Bundle.tN), .castable X X]
/-- what a throw wants of the tables, beyond the good words -/
def wF (X : String) (is : Nat) (tx : String) (U : State) : Prop := va_Nw (.declares (Bundle.initS "java/lang/RuntimeException")) U ∧ va_Nw (.declares (Bundle.initS "java/lang/Exception")) U ∧ va_Nw (.declares (Bundle.initS Bundle.tN)) U ∧ va_Nw (.castable X X) U ∧ ∃ sa : Nat, vk_R RX10 is tx sa U
theorem wF.warm {X tx : String} {is : Nat} {s U : State} (hW : s.WarmedH U.vm) (h : wF X is tx s) : wF X is tx U := by
  obtain ⟨h1, h2, h3, h4, sa, h5⟩ := h
  exact ⟨va_Nw.warmD hW h1, va_Nw.warmD hW h2, va_Nw.warmD hW h3, va_Nw.warmC hW h4, sa, vk_R.warm hW h5⟩
/-- .. and of the heap: the two statics of Throwable -/
def sF (A : Nat → Prop) (U : State) (H : Heap) : Prop := vx_Zq Bundle.tN "UNASSIGNED_STACK" Bundle.steD A U H ∧ vx_Zq Bundle.tN "SUPPRESSED_SENTINEL" Bundle.listD A U H
theorem sF.at {A B : Nat → Prop} {s U : State} {H : Heap} {locs : List Loc} (h : sF A s s.heap) (hS : va_S A s.heap H locs) (hB : ∀ q, B q → A q) (hW : s.vm.Alike U.vm) : sF B U H :=
  ⟨((h.1.kept hS.2.1).narrow hB).moved hW, ((h.2.kept hS.2.1).narrow hB).moved hW⟩
theorem sF.moved {A : Nat → Prop} {s U : State} {H : Heap} (h : sF A s H) (hW : s.vm.Alike U.vm) : sF A U H := ⟨h.1.moved hW, h.2.moved hW⟩
abbrev xPre (X : String) (is : Nat) (tx : String) (D : va_G) (cl : List vw_C) (tys : List (ClassId × FieldType)) (av : List Value) (ws : va_W) (sz : Nat) : Array Value → State → Prop := va_Pc av (fun U => U.heap.size = sz ∧ wB D cl tys (fun _ => True) ws U ∧ wF X is tx U ∧ sF (va_A ws sz) U U.heap)
theorem xPre_blind {X tx : String} {is : Nat} {D : va_G} {cl : List vw_C} {tys : List (ClassId × FieldType)} {av : List Value} {ws : va_W} {sz : Nat} : FrameBlind (xPre X is tx D cl tys av ws sz) := fun a U g mk q => by
  obtain ⟨q0, q1, ⟨qP, qK, qD⟩, q2, q3⟩ := q
  exact ⟨q0, q1, ⟨qP, va_K.moved (u := U) (U := U.calling g mk a) (Vm.Alike.refl U.vm) qK, qD⟩, wF.warm (s := U) (U := U.calling g mk a) (State.WarmedH.refl U) q2, sF.moved (s := U) (U := U.calling g mk a) q3 (Vm.Alike.refl U.vm)⟩
/-- contracts of methods that may throw X, the world unchanged then, where px -/
def Xi (X : String) (is : Nat) (tx : String) (px : Prop) (l : Launch) (D : va_G) (cl : List vw_C) (tys : List (ClassId × FieldType)) (y : MethodName) (wd : List Cond) (rm : Room) (av : List Value) (ws : va_W) (S : Type) (post : Int32 → S → Prop) (ws' : S → va_W) : Prop :=
  ∀ sz : Nat, vx_Met l y wd rm (xPre X is tx D cl tys av ws sz) (va_Qi post (fun u t => wB D cl tys (va_A ws sz) (ws' u) t) (va_A ws sz)) (vx_X (fun _ : Unit => px) (fun E _ t => E = X ∧ wB D cl tys (va_A ws sz) ws t) (va_A ws sz)) rm.cells rm.slots (va_A ws sz)
def Xl (X : String) (is : Nat) (tx : String) (px : Prop) (l : Launch) (D : va_G) (cl : List vw_C) (tys : List (ClassId × FieldType)) (y : MethodName) (wd : List Cond) (rm : Room) (av : List Value) (ws : va_W) (S : Type) (post : Int64 → S → Prop) (ws' : S → va_W) : Prop :=
  ∀ sz : Nat, vx_Met l y wd rm (xPre X is tx D cl tys av ws sz) (va_Ql post (fun u t => wB D cl tys (va_A ws sz) (ws' u) t) (va_A ws sz)) (vx_X (fun _ : Unit => px) (fun E _ t => E = X ∧ wB D cl tys (va_A ws sz) ws t) (va_A ws sz)) rm.cells rm.slots (va_A ws sz)
/-- .. and of those that catch it -/
def Yi (X : String) (is : Nat) (tx : String) (l : Launch) (D : va_G) (cl : List vw_C) (tys : List (ClassId × FieldType)) (y : MethodName) (wd : List Cond) (rm : Room) (av : List Value) (ws : va_W) (S : Type) (post : Int32 → S → Prop) (ws' : S → va_W) : Prop :=
  ∀ sz : Nat, Met l y wd rm (xPre X is tx D cl tys av ws sz) (va_Qi post (fun u t => wB D cl tys (va_A ws sz) (ws' u) t) (va_A ws sz)) rm.cells rm.slots (va_A ws sz)
theorem ex_i {l : Launch} {X tx : String} {is : Nat} {px : Prop} {D : va_G} {cl : List vw_C} {tys : List (ClassId × FieldType)} {y : MethodName} {wd wd' : List Cond} {rm : Room} {av : List Value} {ws : va_W} {S : Type} {post : Int32 → S → Prop} {ws' : S → va_W} {cc : ByteArray} {maxL ik ic : Nat} {ty : FieldType}
    (hll : l.stackTraces = false) (hy : plainName y.cls = true) (hw : wd = Cond.code y cc maxL (some ty) :: wd') (lv : List (Nat × Value)) (hlen : (lg_sl av).length ≤ maxL) (hlv : lv_args 0 av = lv) (ho : y.cls = RX10) (hfit : Bundle.fit X = true)
    (hk : Cond.classLink RX10 ik X ∈ wd) (hi : Cond.initialized X ∈ wd) (hg : ∀ w ∈ (vx_atS RX10 ic X nmE).filter goodWord, w ∈ wd) (hn : ∀ w ∈ (vx_atS RX10 ic X nmE).filter (fun w => !goodWord w), w ∈ ngE X) (hgood : ∀ w ∈ Cond.classLink RX10 ik X :: Cond.initialized X :: vx_atS RX10 ic X nmE, vx_ot w = true)
    (hfr : 5 < rm.frames) (hlo : 82 ≤ rm.locals) (hce : 1 ≤ rm.cells) (hse : 6 ≤ rm.slots)
    (body : ∀ (p : Program) (e : Env) (s : State) (m : MethodId) (args : Array Value) (below : List Frame) (meth : Method) (c : Code) (Q : State → Prop) (A : Nat → Prop), p.tables.exec = Jvm.exec → c.code = cc → c.maxLocals = maxL → s.vm.findClass y.cls = some m.cls → (∀ w ∈ wd, w.before args s = true) → meth.name = y.name → va_K D cl tys s → va_P D cl ws s.heap → va_D A ws → (∀ q : Nat, s.heap.size ≤ q → A q) → va_S A s.heap s.heap [] →
      (∀ (r : Int32) (u : S) (H : Heap) (locs : List Loc) (cells slots pc : Nat) (ls : Array Slot), cells ≤ rm.cells → slots ≤ rm.slots → narrow ty (.int r) = .int r → decode cc pc = .ok (.ireturn, 1) → post r u → va_P D cl (ws' u) H → va_D A (ws' u) → va_S A s.heap H locs → W p l e rm s m args below meth c H locs cells slots Q (F0 m pc ls [.int r])) →
      (∀ (H : Heap) (locs : List Loc) (pc : Nat) (ls : Array Slot), decode cc pc = .ok (.new ik, 3) → decode cc (pc + 3) = .ok (.dup, 1) → decode cc (pc + 4) = .ok (.ldc is, 2) → decode cc (pc + 6) = .ok (.invokespecial ic, 3) → decode cc (pc + 9) = .ok (.athrow, 1) → ls.size = maxL → px → va_P D cl ws H → va_D A ws → va_S A s.heap H locs → W p l e rm s m args below meth c H locs 0 0 Q (F0 m pc ls [])) →
      ∀ ls : Array Slot, lv_has ls maxL lv → W p l e rm s m args below meth c s.heap [] 0 0 Q (F0 m 0 ls [])) : Xi X is tx px l D cl tys y wd rm av ws S post ws' := by
  intro sz
  refine vx_ofW (cc := cc) (maxL := maxL) (ret := (some ty)) hy hw ?_
  intro p e s m args below meth c s₁ B hml htb hv
  obtain ⟨rfl, hsz, ⟨hP, hK, hD0⟩, ⟨f1, f2, f3, f4, sa, f5⟩, g1, g2⟩ := hv
  have hr := B.returns
  have hlocks := B.notSynchronized
  have hts := atoms_spec (ws := wd) B.pre
  have hown : s.vm.findClass y.cls = some m.cls := findClass_of_methodNamed B.named
  subst hsz
  have hl := lv_entry av (n := maxL) hlen
  rw [lg_entry_eq]
  generalize (lg_sl av ++ List.replicate (maxL - (lg_sl av).length) Slot.unset).toArray = ls at hl ⊢
  rw [hlv] at hl
  refine body p e s m _ below meth c _ (va_A ws s.heap.size) B.exec B.bytes hml hown hts (name_of_methodNamed B.named B.method).1 hK hP (hD0.self (sz := s.heap.size)) (fun q h => Or.inr h) va_S.rf ?_ ?_ ls hl
  · intro r u H locs cells slots pc ls hc hs hn hd hp hP hD hS
    refine W.widen (k := rm.cells) (n := rm.slots) hc hs ?_
    exact vx_ret (W.zret (v := r) B.exec B.bytes hr hn (fun t ht hW => ⟨⟨r, u, rfl, hp, by rw [ht]; exact hP, va_K.moved hW.alike hK, hD⟩, hS.F ht⟩) hS.2.2 hd hlocks)
  · intro H locs pc ls d0 d3 d4 d6 d9 hsz9 hp9 hP hD hS
    rw [ho] at hown
    refine vx_throwS (own := RX10) (cls := X) (text := tx) (names := nmE) (ik := ik) (is := is) (ic := ic) (sa := sa) (A := va_A ws s.heap.size) (rest := []) B.exec B.bytes hll hown hfit (by decide +kernel) (hts _ hk) (hts _ hi) f5 (vx_hat (B := ngE X) (fun w h => hts w (hg w h)) hn (vx_c (va_Nw.use rfl f1) (vx_c (va_Nw.use rfl f2) (vx_c (va_Nw.use rfl f3) (vx_c (va_Nw.use rfl f4) vx_n))))) hgood g1 g2 hS (hsz9.trans hml.symm) d0 d3 d4 d6 d9 (fun x hx => (htb x hx).elim) hfr hlo (by show 0 + 1 ≤ rm.cells; omega) (by show 0 + 6 ≤ rm.slots; omega) hlocks (fun t hvm hz hq => ?_) (fun z hz => hS.2.2 z hz) (by omega) (by omega)
    have hP2 : va_P D cl ws t.heap := hP.kept (fun k q hk => hq q.1 (vx_lt hP hk))
    exact ⟨(), hp9, ⟨rfl, hP2, va_K.moved hvm hK, hD⟩, Nat.le_trans hS.1 hz, fun q h1 h2 => by rw [hq q (Nat.lt_of_lt_of_le h1 hS.1)]; exact hS.2.1 q h1 h2⟩
theorem ex_l {l : Launch} {X tx : String} {is : Nat} {px : Prop} {D : va_G} {cl : List vw_C} {tys : List (ClassId × FieldType)} {y : MethodName} {wd wd' : List Cond} {rm : Room} {av : List Value} {ws : va_W} {S : Type} {post : Int64 → S → Prop} {ws' : S → va_W} {cc : ByteArray} {maxL ik ic : Nat} 
    (hll : l.stackTraces = false) (hy : plainName y.cls = true) (hw : wd = Cond.code y cc maxL (some .long) :: wd') (lv : List (Nat × Value)) (hlen : (lg_sl av).length ≤ maxL) (hlv : lv_args 0 av = lv) (ho : y.cls = RX10) (hfit : Bundle.fit X = true)
    (hk : Cond.classLink RX10 ik X ∈ wd) (hi : Cond.initialized X ∈ wd) (hg : ∀ w ∈ (vx_atS RX10 ic X nmE).filter goodWord, w ∈ wd) (hn : ∀ w ∈ (vx_atS RX10 ic X nmE).filter (fun w => !goodWord w), w ∈ ngE X) (hgood : ∀ w ∈ Cond.classLink RX10 ik X :: Cond.initialized X :: vx_atS RX10 ic X nmE, vx_ot w = true)
    (hfr : 5 < rm.frames) (hlo : 82 ≤ rm.locals) (hce : 1 ≤ rm.cells) (hse : 6 ≤ rm.slots)
    (body : ∀ (p : Program) (e : Env) (s : State) (m : MethodId) (args : Array Value) (below : List Frame) (meth : Method) (c : Code) (Q : State → Prop) (A : Nat → Prop), p.tables.exec = Jvm.exec → c.code = cc → c.maxLocals = maxL → s.vm.findClass y.cls = some m.cls → (∀ w ∈ wd, w.before args s = true) → meth.name = y.name → va_K D cl tys s → va_P D cl ws s.heap → va_D A ws → (∀ q : Nat, s.heap.size ≤ q → A q) → va_S A s.heap s.heap [] →
      (∀ (r : Int64) (u : S) (H : Heap) (locs : List Loc) (cells slots pc : Nat) (ls : Array Slot), cells ≤ rm.cells → slots ≤ rm.slots → decode cc pc = .ok (.lreturn, 1) → post r u → va_P D cl (ws' u) H → va_D A (ws' u) → va_S A s.heap H locs → W p l e rm s m args below meth c H locs cells slots Q (F0 m pc ls [.long r])) →
      (∀ (H : Heap) (locs : List Loc) (pc : Nat) (ls : Array Slot), decode cc pc = .ok (.new ik, 3) → decode cc (pc + 3) = .ok (.dup, 1) → decode cc (pc + 4) = .ok (.ldc is, 2) → decode cc (pc + 6) = .ok (.invokespecial ic, 3) → decode cc (pc + 9) = .ok (.athrow, 1) → ls.size = maxL → px → va_P D cl ws H → va_D A ws → va_S A s.heap H locs → W p l e rm s m args below meth c H locs 0 0 Q (F0 m pc ls [])) →
      ∀ ls : Array Slot, lv_has ls maxL lv → W p l e rm s m args below meth c s.heap [] 0 0 Q (F0 m 0 ls [])) : Xl X is tx px l D cl tys y wd rm av ws S post ws' := by
  intro sz
  refine vx_ofW (cc := cc) (maxL := maxL) (ret := (some .long)) hy hw ?_
  intro p e s m args below meth c s₁ B hml htb hv
  obtain ⟨rfl, hsz, ⟨hP, hK, hD0⟩, ⟨f1, f2, f3, f4, sa, f5⟩, g1, g2⟩ := hv
  have hr := B.returns
  have hlocks := B.notSynchronized
  have hts := atoms_spec (ws := wd) B.pre
  have hown : s.vm.findClass y.cls = some m.cls := findClass_of_methodNamed B.named
  subst hsz
  have hl := lv_entry av (n := maxL) hlen
  rw [lg_entry_eq]
  generalize (lg_sl av ++ List.replicate (maxL - (lg_sl av).length) Slot.unset).toArray = ls at hl ⊢
  rw [hlv] at hl
  refine body p e s m _ below meth c _ (va_A ws s.heap.size) B.exec B.bytes hml hown hts (name_of_methodNamed B.named B.method).1 hK hP (hD0.self (sz := s.heap.size)) (fun q h => Or.inr h) va_S.rf ?_ ?_ ls hl
  · intro r u H locs cells slots pc ls hc hs hd hp hP hD hS
    refine W.widen (k := rm.cells) (n := rm.slots) hc hs ?_
    exact vx_ret (W.lret (v := r) B.exec B.bytes hr (fun t ht hW => ⟨⟨r, u, rfl, hp, by rw [ht]; exact hP, va_K.moved hW.alike hK, hD⟩, hS.F ht⟩) hS.2.2 hd hlocks)
  · intro H locs pc ls d0 d3 d4 d6 d9 hsz9 hp9 hP hD hS
    rw [ho] at hown
    refine vx_throwS (own := RX10) (cls := X) (text := tx) (names := nmE) (ik := ik) (is := is) (ic := ic) (sa := sa) (A := va_A ws s.heap.size) (rest := []) B.exec B.bytes hll hown hfit (by decide +kernel) (hts _ hk) (hts _ hi) f5 (vx_hat (B := ngE X) (fun w h => hts w (hg w h)) hn (vx_c (va_Nw.use rfl f1) (vx_c (va_Nw.use rfl f2) (vx_c (va_Nw.use rfl f3) (vx_c (va_Nw.use rfl f4) vx_n))))) hgood g1 g2 hS (hsz9.trans hml.symm) d0 d3 d4 d6 d9 (fun x hx => (htb x hx).elim) hfr hlo (by show 0 + 1 ≤ rm.cells; omega) (by show 0 + 6 ≤ rm.slots; omega) hlocks (fun t hvm hz hq => ?_) (fun z hz => hS.2.2 z hz) (by omega) (by omega)
    have hP2 : va_P D cl ws t.heap := hP.kept (fun k q hk => hq q.1 (vx_lt hP hk))
    exact ⟨(), hp9, ⟨rfl, hP2, va_K.moved hvm hK, hD⟩, Nat.le_trans hS.1 hz, fun q h1 h2 => by rw [hq q (Nat.lt_of_lt_of_le h1 hS.1)]; exact hS.2.1 q h1 h2⟩
theorem cx_iV {p : Program} {l : Launch} {e : Env} {R : Room} {s : State} {m : MethodId} {args : Array Value} {below : List Frame} {meth : Method} {c : Code} {H : Heap} {locs : List Loc} {cells slots : Nat} {Q : State → Prop} {cc : ByteArray} {pc nL index n maxL : Nat} {ls : Array Slot} {D : va_G} {cl : List vw_C} {A : Nat → Prop} {tys : List (ClassId × FieldType)} {ws wc : va_W} {y : MethodName} {bytes : ByteArray} {ret : Option FieldType} {wd Ts : List Cond} {rm : Room} {own C : String} {b : Nat} {S : Type} {ws' : S → va_W} {st : List Value} {X tx : String} {is : Nat} {px : Prop} {post : Int32 → S → Prop}
    (As rest : List Value) (wr : va_W) (c1 s1 : Nat) (F : CallFix p m c cc nL s args Ts own) (hM : Xi X is tx px l D cl tys y wd rm (.ref b :: As) wc S post ws') (cw : CallW R s args own C index y bytes maxL ret wd rm rm.cells rm.slots n) (hK : va_K D cl tys s) (hP : va_P D cl ws H) (hD : va_D A ws) (hS : va_S A s.heap H locs) (hA : ∀ q : Nat, s.heap.size ≤ q → A q) (hwF : wF X is tx s) (hsF : sF A s s.heap)
    (isC isR : List Nat) (hC : isC.map (fun i => ws[i]?) = wc.map some) (hcn : va_nd isC = true) (hR : isR.map (fun i => ws[i]?) = wr.map some) (hn : va_nd isR = true) (hdis : ∀ i ∈ isR, i ∉ isC) (q0 : Nat) {ci N : Nat} {T : u_T} {fs : List Value} (hc0 : cl[ci]? = some (C, T, N)) (he0 : wc[q0]? = some (b, .inr (ci, fs)))
    (hl : As.length = n) (hsz : ls.size = nL) (hst : st = As.reverse ++ .ref b :: rest) (hW : (rest.map fun v => v.category).sum ≤ 8) (hd : decode cc pc = .ok (.invokevirtual index, 3)) (hf : cells + rm.cells ≤ R.cells ∧ slots + rm.slots ≤ R.slots) (hc1 : cells + rm.cells ≤ c1) (hs1 : slots + rm.slots ≤ s1)
    (kx : ∀ (ce : Cell) (q9 : Addr) (H1 : Heap) (locs1 : List Loc), px → va_P D cl (wr ++ wc) H1 → va_D A (wr ++ wc) → va_S A s.heap H1 locs1 → H1[q9]? = some ce → ce.vm = .none → s.vm.findClass X = some ce.cls → vx_W p l e R s m args below meth c H1 locs1 c1 s1 Q (F0 m pc ls rest) q9)
    (kk : ∀ (r : Int32) (u : S) (H1 : Heap) (locs1 : List Loc), post r u → va_P D cl (wr ++ ws' u) H1 → va_D A (wr ++ ws' u) → va_S A s.heap H1 locs1 → W p l e R s m args below meth c H1 locs1 c1 s1 Q (F0 m (pc + 3) ls (.int r :: rest))) : W p l e R s m args below meth c H locs cells slots Q (F0 m pc ls st) := by
  subst hst
  have hPc : va_P D cl wc H := hP.sub isC (by have h9 := congrArg (List.filterMap id) hC; simpa [List.filterMap_map] using h9)
  have hDc : va_D A wc := hD.sub isC hcn hC
  have hFc := va_free (wc := wc) hD hS hA isC hC
  refine vx_calli (vx_runV (As := As) (rest := rest) F (hM H.size) cw ⟨xPre_blind, va_recv hK hPc (ci := ci) (q0 := q0) hc0 he0, fun U hU hW => ⟨rfl, by rw [hU], ⟨by rw [hU]; exact hPc, va_K.moved hW.alike hK, hDc.weaken (fun _ _ _ _ => trivial)⟩, wF.warm hW hwF, by rw [hU]; exact sF.at hsF hS hFc hW.alike⟩⟩ rfl hl hsz rfl (lv_room hW) hd hf) hS (fun q _ h => hFc q h) hFc (fun q _ h => hFc q h) (fun E ce q9 u t H1 locs1 ht hvm hp hB hz1 hk1 hS h7 h8 h9 => ?_) (fun r u t H1 locs1 ht hvm hw hB hz1 hk1 hS => ?_)
  · obtain ⟨rfl, hP1, hK1, hD1⟩ := hB
    rw [ht] at hP1
    obtain ⟨hP, hD⟩ := va_join (wr := wr) hP hD isC isR hC hR hn hdis hk1 hFc hP1 hD1
    exact vx_widen (k := c1) (n := s1) hc1 hs1 (kx ce q9 H1 locs1 hp hP hD hS h7 h8 h9)
  · obtain ⟨hP1, hK1, hD1⟩ := hB
    rw [ht] at hP1
    obtain ⟨hP, hD⟩ := va_join (wr := wr) hP hD isC isR hC hR hn hdis hk1 hFc hP1 hD1
    exact W.widen (k := c1) (n := s1) hc1 hs1 (kk r u H1 locs1 hw hP hD hS)
theorem cx_lV {p : Program} {l : Launch} {e : Env} {R : Room} {s : State} {m : MethodId} {args : Array Value} {below : List Frame} {meth : Method} {c : Code} {H : Heap} {locs : List Loc} {cells slots : Nat} {Q : State → Prop} {cc : ByteArray} {pc nL index n maxL : Nat} {ls : Array Slot} {D : va_G} {cl : List vw_C} {A : Nat → Prop} {tys : List (ClassId × FieldType)} {ws wc : va_W} {y : MethodName} {bytes : ByteArray} {ret : Option FieldType} {wd Ts : List Cond} {rm : Room} {own C : String} {b : Nat} {S : Type} {ws' : S → va_W} {st : List Value} {X tx : String} {is : Nat} {px : Prop} {post : Int64 → S → Prop}
    (As rest : List Value) (wr : va_W) (c1 s1 : Nat) (F : CallFix p m c cc nL s args Ts own) (hM : Xl X is tx px l D cl tys y wd rm (.ref b :: As) wc S post ws') (cw : CallW R s args own C index y bytes maxL ret wd rm rm.cells rm.slots n) (hK : va_K D cl tys s) (hP : va_P D cl ws H) (hD : va_D A ws) (hS : va_S A s.heap H locs) (hA : ∀ q : Nat, s.heap.size ≤ q → A q) (hwF : wF X is tx s) (hsF : sF A s s.heap)
    (isC isR : List Nat) (hC : isC.map (fun i => ws[i]?) = wc.map some) (hcn : va_nd isC = true) (hR : isR.map (fun i => ws[i]?) = wr.map some) (hn : va_nd isR = true) (hdis : ∀ i ∈ isR, i ∉ isC) (q0 : Nat) {ci N : Nat} {T : u_T} {fs : List Value} (hc0 : cl[ci]? = some (C, T, N)) (he0 : wc[q0]? = some (b, .inr (ci, fs)))
    (hl : As.length = n) (hsz : ls.size = nL) (hst : st = As.reverse ++ .ref b :: rest) (hW : (rest.map fun v => v.category).sum ≤ 8) (hd : decode cc pc = .ok (.invokevirtual index, 3)) (hf : cells + rm.cells ≤ R.cells ∧ slots + rm.slots ≤ R.slots) (hc1 : cells + rm.cells ≤ c1) (hs1 : slots + rm.slots ≤ s1)
    (kx : ∀ (ce : Cell) (q9 : Addr) (H1 : Heap) (locs1 : List Loc), px → va_P D cl (wr ++ wc) H1 → va_D A (wr ++ wc) → va_S A s.heap H1 locs1 → H1[q9]? = some ce → ce.vm = .none → s.vm.findClass X = some ce.cls → vx_W p l e R s m args below meth c H1 locs1 c1 s1 Q (F0 m pc ls rest) q9)
    (kk : ∀ (r : Int64) (u : S) (H1 : Heap) (locs1 : List Loc), post r u → va_P D cl (wr ++ ws' u) H1 → va_D A (wr ++ ws' u) → va_S A s.heap H1 locs1 → W p l e R s m args below meth c H1 locs1 c1 s1 Q (F0 m (pc + 3) ls (.long r :: rest))) : W p l e R s m args below meth c H locs cells slots Q (F0 m pc ls st) := by
  subst hst
  have hPc : va_P D cl wc H := hP.sub isC (by have h9 := congrArg (List.filterMap id) hC; simpa [List.filterMap_map] using h9)
  have hDc : va_D A wc := hD.sub isC hcn hC
  have hFc := va_free (wc := wc) hD hS hA isC hC
  refine vx_calll (vx_runV (As := As) (rest := rest) F (hM H.size) cw ⟨xPre_blind, va_recv hK hPc (ci := ci) (q0 := q0) hc0 he0, fun U hU hW => ⟨rfl, by rw [hU], ⟨by rw [hU]; exact hPc, va_K.moved hW.alike hK, hDc.weaken (fun _ _ _ _ => trivial)⟩, wF.warm hW hwF, by rw [hU]; exact sF.at hsF hS hFc hW.alike⟩⟩ rfl hl hsz rfl (lv_room hW) hd hf) hS (fun q _ h => hFc q h) hFc (fun q _ h => hFc q h) (fun E ce q9 u t H1 locs1 ht hvm hp hB hz1 hk1 hS h7 h8 h9 => ?_) (fun r u t H1 locs1 ht hvm hw hB hz1 hk1 hS => ?_)
  · obtain ⟨rfl, hP1, hK1, hD1⟩ := hB
    rw [ht] at hP1
    obtain ⟨hP, hD⟩ := va_join (wr := wr) hP hD isC isR hC hR hn hdis hk1 hFc hP1 hD1
    exact vx_widen (k := c1) (n := s1) hc1 hs1 (kx ce q9 H1 locs1 hp hP hD hS h7 h8 h9)
  · obtain ⟨hP1, hK1, hD1⟩ := hB
    rw [ht] at hP1
    obtain ⟨hP, hD⟩ := va_join (wr := wr) hP hD isC isR hC hR hn hdis hk1 hFc hP1 hD1
    exact W.widen (k := c1) (n := s1) hc1 hs1 (kk r u H1 locs1 hw hP hD hS)
theorem met_ofWH {l : Launch} {y : MethodName} {ws ws' : List Cond} {rm : Room} {Pc : Array Value → State → Prop} {Qc : Array Value → State → Outcome → State → Prop} {mc ms : Nat} {free : Addr → Prop} {cc : ByteArray} {maxL : Nat} {ret : Option FieldType} {hh : List (Nat × Nat × Nat × Nat)}
    (hy : plainName y.cls = true) (hw : ws = Cond.codeWith y cc maxL ret hh :: ws')
    (body : ∀ p e s m args below meth c s₁, BodyLoose p l y (headSpec ws rm) cc maxL ret e s m args below meth c s₁ → c.maxLocals = maxL → Pc args s →
      W p l e (headSpec ws rm).room s m args below meth c s.heap [] 0 0 (MQ below Qc args s mc ms free) (entryFrame m args maxL)) : Met l y ws rm Pc Qc mc ms free := by
  refine MetFree.of_bodyS (code := cc) (maxLocals := maxL) (ret := ret) hy ?_ ?_
  · intro args s m h hn
    obtain ⟨m9, meth, c, hn9, h1, h2, h3, h4, -, h5, h6, -⟩ := Cond.codeWith_spec (atoms_spec (ws := ws) h _ (by rw [hw]; exact List.mem_cons_self))
    cases hn.symm.trans hn9
    exact ⟨meth, c, h1, h2, h3, h4, h5, h6⟩
  · intro p e s m args below meth c s₁ B hml hP _
    have hh0 : s₁.heap = s.heap := by rw [B.state]; rfl
    obtain ⟨t, a1, o, b1, b2, b3, b4⟩ := body p e s m args below meth c s₁ B hml hP s₁ hh0 (Stand.of_body B)
    exact ⟨t, o, a1, b1, b2, b3, b4⟩
theorem ey_i {l : Launch} {X tx : String} {is : Nat} {D : va_G} {cl : List vw_C} {tys : List (ClassId × FieldType)} {y : MethodName} {wd wd' : List Cond} {rm : Room} {av : List Value} {ws : va_W} {S : Type} {post : Int32 → S → Prop} {ws' : S → va_W} {cc : ByteArray} {maxL : Nat} {ty : FieldType} {hh : List (Nat × Nat × Nat × Nat)}
    (hy : plainName y.cls = true) (hw : wd = Cond.codeWith y cc maxL (some ty) hh :: wd') (lv : List (Nat × Value)) (hlen : (lg_sl av).length ≤ maxL) (hlv : lv_args 0 av = lv)
    (body : ∀ (p : Program) (e : Env) (s : State) (m : MethodId) (args : Array Value) (below : List Frame) (meth : Method) (c : Code) (Q : State → Prop) (A : Nat → Prop), p.tables.exec = Jvm.exec → c.code = cc → c.maxLocals = maxL → s.vm.findClass y.cls = some m.cls → (∀ w ∈ wd, w.before args s = true) → meth.name = y.name → va_K D cl tys s → va_P D cl ws s.heap → va_D A ws → (∀ q : Nat, s.heap.size ≤ q → A q) → va_S A s.heap s.heap [] → wF X is tx s → sF A s s.heap → c.exceptionTable.toList = tableOf hh →
      (∀ (r : Int32) (u : S) (H : Heap) (locs : List Loc) (cells slots pc : Nat) (ls : Array Slot), cells ≤ rm.cells → slots ≤ rm.slots → narrow ty (.int r) = .int r → decode cc pc = .ok (.ireturn, 1) → post r u → va_P D cl (ws' u) H → va_D A (ws' u) → va_S A s.heap H locs → W p l e rm s m args below meth c H locs cells slots Q (F0 m pc ls [.int r])) →
      ∀ ls : Array Slot, lv_has ls maxL lv → W p l e rm s m args below meth c s.heap [] 0 0 Q (F0 m 0 ls [])) : Yi X is tx l D cl tys y wd rm av ws S post ws' := by
  intro sz
  refine met_ofWH (cc := cc) (maxL := maxL) (ret := (some ty)) hy hw ?_
  intro p e s m args below meth c s₁ B hml hv
  obtain ⟨rfl, hsz, ⟨hP, hK, hD0⟩, hwF, hsF⟩ := hv
  have hr := B.returns
  have hlocks := B.notSynchronized
  have hts := atoms_spec (ws := wd) B.pre
  have hown : s.vm.findClass y.cls = some m.cls := findClass_of_methodNamed B.named
  have htab : c.exceptionTable.toList = tableOf hh := vx_table (x := y) B (hts (Cond.codeWith y cc maxL (some ty) hh) (by rw [hw]; exact List.mem_cons_self))
  subst hsz
  have hl := lv_entry av (n := maxL) hlen
  rw [lg_entry_eq]
  generalize (lg_sl av ++ List.replicate (maxL - (lg_sl av).length) Slot.unset).toArray = ls at hl ⊢
  rw [hlv] at hl
  refine body p e s m _ below meth c _ (va_A ws s.heap.size) B.exec B.bytes hml hown hts (name_of_methodNamed B.named B.method).1 hK hP (hD0.self (sz := s.heap.size)) (fun q h => Or.inr h) va_S.rf hwF hsF htab ?_ ls hl
  intro r u H locs cells slots pc ls hc hs hn hd hp hP hD hS
  refine W.widen (k := rm.cells) (n := rm.slots) hc hs ?_
  exact W.zret (v := r) B.exec B.bytes hr hn (fun t ht hW => ⟨⟨r, u, rfl, hp, by rw [ht]; exact hP, va_K.moved hW.alike hK, hD⟩, hS.F ht⟩) hS.2.2 hd hlocks
theorem cy_iS {p : Program} {l : Launch} {e : Env} {R : Room} {s : State} {m : MethodId} {args : Array Value} {below : List Frame} {meth : Method} {c : Code} {H : Heap} {locs : List Loc} {cells slots : Nat} {Q : State → Prop} {cc : ByteArray} {pc nL index n maxL : Nat} {ls : Array Slot} {D : va_G} {cl : List vw_C} {A : Nat → Prop} {tys : List (ClassId × FieldType)} {ws wc : va_W} {y : MethodName} {bytes : ByteArray} {ret : Option FieldType} {wd Ts : List Cond} {rm : Room} {own C : String} {b : Nat} {S : Type} {ws' : S → va_W} {st : List Value} {X tx : String} {is : Nat} {px : Prop} {post : Int32 → S → Prop} {hh : List (Nat × Nat × Nat × Nat)}
    (As rest : List Value) (wr : va_W) (c1 s1 : Nat) (F : CallFix p m c cc nL s args Ts own) (hM : Yi X is tx l D cl tys y wd rm As wc S post ws') (cw : vx_CSW R s args own index y bytes maxL ret hh wd rm rm.cells rm.slots n) (hK : va_K D cl tys s) (hP : va_P D cl ws H) (hD : va_D A ws) (hS : va_S A s.heap H locs) (hA : ∀ q : Nat, s.heap.size ≤ q → A q) (hwF : wF X is tx s) (hsF : sF A s s.heap)
    (isC isR : List Nat) (hC : isC.map (fun i => ws[i]?) = wc.map some) (hcn : va_nd isC = true) (hR : isR.map (fun i => ws[i]?) = wr.map some) (hn : va_nd isR = true) (hdis : ∀ i ∈ isR, i ∉ isC)
    (hl : As.length = n) (hsz : ls.size = nL) (hst : st = As.reverse ++ rest) (hW : (rest.map fun v => v.category).sum ≤ 8) (hd : decode cc pc = .ok (.invokestatic index, 3)) (hf : cells + rm.cells ≤ R.cells ∧ slots + rm.slots ≤ R.slots) (hc1 : cells + rm.cells ≤ c1) (hs1 : slots + rm.slots ≤ s1)
    (kk : ∀ (r : Int32) (u : S) (H1 : Heap) (locs1 : List Loc), post r u → va_P D cl (wr ++ ws' u) H1 → va_D A (wr ++ ws' u) → va_S A s.heap H1 locs1 → W p l e R s m args below meth c H1 locs1 c1 s1 Q (F0 m (pc + 3) ls (.int r :: rest))) : W p l e R s m args below meth c H locs cells slots Q (F0 m pc ls st) := by
  subst hst
  have hPc : va_P D cl wc H := hP.sub isC (by have h9 := congrArg (List.filterMap id) hC; simpa [List.filterMap_map] using h9)
  have hDc : va_D A wc := hD.sub isC hcn hC
  have hFc := va_free (wc := wc) hD hS hA isC hC
  refine va_calli (vx_runSW (As := As) (rest := rest) F (hM H.size) cw ⟨xPre_blind, fun U hU hW => ⟨rfl, by rw [hU], ⟨by rw [hU]; exact hPc, va_K.moved hW.alike hK, hDc.weaken (fun _ _ _ _ => trivial)⟩, wF.warm hW hwF, by rw [hU]; exact sF.at hsF hS hFc hW.alike⟩⟩ rfl hl hsz rfl (lv_room hW) hd hf) hS (fun q _ h => hFc q h) hFc (fun r u t H1 locs1 ht hvm hw hB hz1 hk1 hS => ?_)
  obtain ⟨hP1, hK1, hD1⟩ := hB
  rw [ht] at hP1
  obtain ⟨hP, hD⟩ := va_join (wr := wr) hP hD isC isR hC hR hn hdis hk1 hFc hP1 hD1
  exact W.widen (k := c1) (n := s1) hc1 hs1 (kk r u H1 locs1 hw hP hD hS)

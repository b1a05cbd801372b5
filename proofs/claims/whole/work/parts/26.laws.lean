theorem iR_of (x : Int32) : iR x.toInt := by
  have h1 := Int32.le_toInt x
  have h2 := Int32.toInt_lt x
  exact ⟨by omega, by omega⟩
theorem lR_of (x : Int64) : lR x.toInt := by
  have h1 := Int64.le_toInt x
  have h2 := Int64.toInt_lt x
  exact ⟨by omega, by omega⟩
/-- a script's int as a truth -/
def bz (z : Int) : Nat := if z = 0 then 0 else 1
theorem bz_le (z : Int) : bz z ≤ 1 := by unfold bz; split <;> omega
theorem bz_0 {z : Int} (h : z = 0) : iZ ((0 : Nat) : Int) = iZ ((bz z : Nat) : Int) := by unfold bz; rw [if_pos h]
theorem bz_1 {z : Int} (h : ¬ z = 0) : iZ ((1 : Nat) : Int) = iZ ((bz z : Nat) : Int) := by unfold bz; rw [if_neg h]
def sdZ (z1 z2 : Int) : Int64 := (lZ z1 <<< ((iZ ((32 : Nat) : Int)).toInt64 &&& 63)) ||| (lZ z2 &&& lZ ((4294967295 : Nat) : Int))
theorem eq2 {p : Prop} {α : Type} {a b r1 r2 : α} (h1 : (p → r1 = a) ∧ (¬ p → r1 = b)) (h2 : (p → r2 = a) ∧ (¬ p → r2 = b)) : r2 = r1 := by
  by_cases h : p
  · rw [h1.1 h, h2.1 h]
  · rw [h1.2 h, h2.2 h]
theorem eq3 {p q : Prop} {α : Type} {a b c r1 r2 : α} (h1 : (p → q → r1 = a) ∧ (p → ¬ q → r1 = b) ∧ (¬ p → r1 = c)) (h2 : (p → q → r2 = a) ∧ (p → ¬ q → r2 = b) ∧ (¬ p → r2 = c)) : r2 = r1 := by
  by_cases h : p
  · by_cases k : q
    · rw [h1.1 h k, h2.1 h k]
    · rw [h1.2.1 h k, h2.2.1 h k]
  · rw [h1.2.2 h, h2.2.2 h]
theorem eq2u {p : Prop} {α β : Type} {a b r1 r2 : α} {x y u1 u2 : β} (h1 : (p → r1 = a ∧ u1 = x) ∧ (¬ p → r1 = b ∧ u1 = y)) (h2 : (p → r2 = a ∧ u2 = x) ∧ (¬ p → r2 = b ∧ u2 = y)) : r2 = r1 ∧ u2 = u1 := by
  by_cases h : p
  · rw [(h1.1 h).1, (h2.1 h).1, (h1.1 h).2, (h2.1 h).2]; exact ⟨rfl, rfl⟩
  · rw [(h1.2 h).1, (h2.2 h).1, (h1.2 h).2, (h2.2 h).2]; exact ⟨rfl, rfl⟩
theorem eq3u {p q : Prop} {α β : Type} {a b c r1 r2 : α} {x y z u1 u2 : β} (h1 : (p → q → r1 = a ∧ u1 = x) ∧ (p → ¬ q → r1 = b ∧ u1 = y) ∧ (¬ p → r1 = c ∧ u1 = z)) (h2 : (p → q → r2 = a ∧ u2 = x) ∧ (p → ¬ q → r2 = b ∧ u2 = y) ∧ (¬ p → r2 = c ∧ u2 = z)) : r2 = r1 ∧ u2 = u1 := by
  by_cases h : p
  · by_cases k : q
    · rw [(h1.1 h k).1, (h2.1 h k).1, (h1.1 h k).2, (h2.1 h k).2]; exact ⟨rfl, rfl⟩
    · rw [(h1.2.1 h k).1, (h2.2.1 h k).1, (h1.2.1 h k).2, (h2.2.1 h k).2]; exact ⟨rfl, rfl⟩
  · rw [(h1.2.2 h).1, (h2.2.2 h).1, (h1.2.2 h).2, (h2.2.2 h).2]; exact ⟨rfl, rfl⟩
theorem sB_eq {zn zk zs za zb : Int} {r1 r2 : Int32} (h1 : sBound zn zk zs za zb r1) (h2 : sBound zn zk zs za zb r2) (hp : ¬ (vBound zn zk zs ∧ ¬ vTrust za zb)) : r2 = r1 := by
  by_cases h : vBound zn zk zs
  · have k : vTrust za zb := Classical.byContradiction (fun k => hp ⟨h, k⟩)
    rw [h1.1 h k, h2.1 h k]
  · rw [h1.2 h, h2.2 h]
theorem row_inv {n n1 : Nat} {G X Y G1 X1 Y1 : Nat → Nat} {zg zx zy : Int} {r : Int32} (hr : rok n G X Y) (h : (vRow zg zx zy → n < 30 → r = iZ ((n + 1 : Nat) : Int) ∧ (n1, G1, X1, Y1) = (n + 1, nup G n zg.toNat, nup X n zx.toNat, nup Y n zy.toNat)) ∧ (vRow zg zx zy → ¬ n < 30 → r = iZ (-2) ∧ (n1, G1, X1, Y1) = (n, G, X, Y)) ∧ (¬ vRow zg zx zy → r = iZ (-1) ∧ (n1, G1, X1, Y1) = (n, G, X, Y))) : rok n1 G1 X1 Y1 := by
  by_cases c : vRow zg zx zy
  · by_cases k : n < 30
    · have e := (h.1 c k).2
      simp only [Prod.mk.injEq] at e
      obtain ⟨e1, e2, e3, e4⟩ := e
      rw [e1, e2, e3, e4]
      obtain ⟨⟨c1, c2⟩, ⟨c3, c4⟩, c5, c6⟩ := c
      exact rok_add hr k (by omega) (by omega) (by omega)
    · have e := (h.2.1 c k).2
      simp only [Prod.mk.injEq] at e
      obtain ⟨e1, e2, e3, e4⟩ := e
      rw [e1, e2, e3, e4]; exact hr
  · have e := (h.2.2 c).2
    simp only [Prod.mk.injEq] at e
    obtain ⟨e1, e2, e3, e4⟩ := e
    rw [e1, e2, e3, e4]; exact hr
theorem drop_inv {n n1 : Nat} {G X Y : Nat → Nat} {r : Int32} (hr : rok n G X Y) (h : (n = 0 → r = iZ (-3) ∧ n1 = n) ∧ (¬ n = 0 → r = iZ ((n - 1 : Nat) : Int) ∧ n1 = n - 1)) : rok n1 G X Y := by
  by_cases c : n = 0
  · rw [(h.1 c).2]; exact hr
  · rw [(h.2 c).2]; exact rok_le hr (by omega)
theorem comp_inv {k k1 : Nat} {U V U1 V1 : Nat → Nat} {zu zd : Int} {r : Int32} (hc : cok k U V) (h : (vComp zu zd → k < 10 → r = iZ ((k : Nat) : Int) ∧ (k1, U1, V1) = (k + 1, nup U k zu.toNat, nup V k zd.toNat)) ∧ (vComp zu zd → ¬ k < 10 → r = iZ (-2) ∧ (k1, U1, V1) = (k, U, V)) ∧ (¬ vComp zu zd → r = iZ (-1) ∧ (k1, U1, V1) = (k, U, V))) : cok k1 U1 V1 := by
  by_cases c : vComp zu zd
  · by_cases g : k < 10
    · have e := (h.1 c g).2
      simp only [Prod.mk.injEq] at e
      obtain ⟨e1, e2, e3⟩ := e
      rw [e1, e2, e3]
      obtain ⟨⟨c1, c2⟩, c3, c4⟩ := c
      exact cok_add hc g (by omega) (by omega) (by omega)
    · have e := (h.2.1 c g).2
      simp only [Prod.mk.injEq] at e
      obtain ⟨e1, e2, e3⟩ := e
      rw [e1, e2, e3]; exact hc
  · have e := (h.2.2 c).2
    simp only [Prod.mk.injEq] at e
    obtain ⟨e1, e2, e3⟩ := e
    rw [e1, e2, e3]; exact hc
abbrev sHit (on up dn ta tb tr hi rj x : Nat) (r : Int32) (a : Nat × Nat × Nat) : Prop := (¬ on = 1 → r = iZ (-3) ∧ a = (tr, hi, rj)) ∧ (on = 1 → ¬ tr < 60 → r = iZ (-2) ∧ a = (tr, hi, rj)) ∧ (on = 1 → tr < 60 → a.1 = tr + 1 ∧ a.2.1 = hi + x ∧ ((rj = 0 ∧ rich up dn ta tb (tr + 1) (hi + x)) → a.2.2 = tr + 1) ∧ (¬ (rj = 0 ∧ rich up dn ta tb (tr + 1) (hi + x)) → a.2.2 = rj) ∧ (0 < a.2.2 → r = iZ ((1 : Nat) : Int)) ∧ (¬ 0 < a.2.2 → r = iZ ((0 : Nat) : Int)))
theorem hit_eq {on up dn ta tb tr hi rj x : Nat} {r1 r2 : Int32} {a1 a2 a3 b1 b2 b3 : Nat} (h1 : sHit on up dn ta tb tr hi rj x r1 (a1, a2, a3)) (h2 : sHit on up dn ta tb tr hi rj x r2 (b1, b2, b3)) : r2 = r1 ∧ a1 = b1 ∧ a2 = b2 ∧ a3 = b3 := by
  by_cases c : on = 1
  · by_cases k : tr < 60
    · obtain ⟨x1, x2, x3, x4, x5, x6⟩ := h1.2.2 c k
      obtain ⟨y1, y2, y3, y4, y5, y6⟩ := h2.2.2 c k
      have e3 : a3 = b3 := by
        by_cases g : rj = 0 ∧ rich up dn ta tb (tr + 1) (hi + x)
        · exact (x3 g).trans (y3 g).symm
        · exact (x4 g).trans (y4 g).symm
      refine ⟨?_, x1.trans y1.symm, x2.trans y2.symm, e3⟩
      by_cases g : 0 < a3
      · rw [x5 g, y5 (by show 0 < b3; omega)]
      · rw [x6 g, y6 (by show ¬ 0 < b3; omega)]
    · have e1 := h1.2.1 c k
      have e2 := h2.2.1 c k
      have e3 : (a1, a2, a3) = (b1, b2, b3) := e1.2.trans e2.2.symm
      simp only [Prod.mk.injEq] at e3
      exact ⟨e2.1.trans e1.1.symm, e3⟩
  · have e1 := h1.1 c
    have e2 := h2.1 c
    have e3 : (a1, a2, a3) = (b1, b2, b3) := e1.2.trans e2.2.symm
    simp only [Prod.mk.injEq] at e3
    exact ⟨e2.1.trans e1.1.symm, e3⟩
theorem hit_inv {on up dn ta tb tr hi rj x : Nat} {r : Int32} {a1 a2 a3 : Nat} (hx : x ≤ 1) (hI : on = 1 → trI up dn ta tb tr hi rj) (h : sHit on up dn ta tb tr hi rj x r (a1, a2, a3)) : on = 1 → trI up dn ta tb a1 a2 a3 := by
  intro c
  obtain ⟨i1, i2, i3, i4, i5, i6, i7⟩ := hI c
  by_cases k : tr < 60
  · obtain ⟨x1, x2, x3, x4, x5, x6⟩ := h.2.2 c k
    have x1 : a1 = tr + 1 := x1
    have x2 : a2 = hi + x := x2
    refine ⟨i1, i2, i3, i4, by omega, by omega, ?_⟩
    by_cases g : rj = 0 ∧ rich up dn ta tb (tr + 1) (hi + x)
    · have e : a3 = tr + 1 := x3 g
      omega
    · have e : a3 = rj := x4 g
      omega
  · have e := (h.2.1 c k).2
    simp only [Prod.mk.injEq] at e
    obtain ⟨e1, e2, e3⟩ := e
    rw [e1, e2, e3]; exact ⟨i1, i2, i3, i4, i5, i6, i7⟩
abbrev sTest (on tr hi rj : Nat) (P : Prop) (zw : Int) (r : Int32) : Prop := (¬ on = 1 → r = iZ (-3)) ∧ (on = 1 → zw = 0 → r = iZ ((tr : Nat) : Int)) ∧ (on = 1 → zw = 1 → r = iZ ((hi : Nat) : Int)) ∧ (on = 1 → zw = 2 → r = iZ ((rj : Nat) : Int)) ∧ (on = 1 → zw = 3 → P → r = iZ ((1 : Nat) : Int)) ∧ (on = 1 → zw = 3 → ¬ P → r = iZ ((0 : Nat) : Int)) ∧ (on = 1 → ¬ (0 ≤ zw ∧ zw ≤ 3) → r = iZ (-1))
theorem test_eq {on tr hi rj : Nat} {P : Prop} {zw : Int} {r1 r2 : Int32} (h1 : sTest on tr hi rj P zw r1) (h2 : sTest on tr hi rj P zw r2) : r2 = r1 := by
  obtain ⟨x1, x2, x3, x4, x5, x6, x7⟩ := h1
  obtain ⟨y1, y2, y3, y4, y5, y6, y7⟩ := h2
  by_cases c : on = 1
  · rcases (show zw = 0 ∨ zw = 1 ∨ zw = 2 ∨ zw = 3 ∨ ¬ (0 ≤ zw ∧ zw ≤ 3) by omega) with g | g | g | g | g
    · rw [x2 c g, y2 c g]
    · rw [x3 c g, y3 c g]
    · rw [x4 c g, y4 c g]
    · by_cases k : P
      · rw [x5 c g k, y5 c g k]
      · rw [x6 c g k, y6 c g k]
    · rw [x7 c g, y7 c g]
  · rw [x1 c, y1 c]
abbrev sCount (a b c d : Nat) (zw : Int) (r : Int32) : Prop := (zw = 0 → r = iZ ((a : Nat) : Int)) ∧ (zw = 1 → r = iZ ((b : Nat) : Int)) ∧ (zw = 2 → r = iZ ((c : Nat) : Int)) ∧ (zw = 3 → r = iZ ((d : Nat) : Int)) ∧ (¬ (0 ≤ zw ∧ zw ≤ 3) → r = iZ (-1))
theorem count_eq {a b c d : Nat} {zw : Int} {r1 r2 : Int32} (h1 : sCount a b c d zw r1) (h2 : sCount a b c d zw r2) : r2 = r1 := by
  obtain ⟨x1, x2, x3, x4, x5⟩ := h1
  obtain ⟨y1, y2, y3, y4, y5⟩ := h2
  rcases (show zw = 0 ∨ zw = 1 ∨ zw = 2 ∨ zw = 3 ∨ ¬ (0 ≤ zw ∧ zw ≤ 3) by omega) with g | g | g | g | g
  · rw [x1 g, y1 g]
  · rw [x2 g, y2 g]
  · rw [x3 g, y3 g]
  · rw [x4 g, y4 g]
  · rw [x5 g, y5 g]
theorem perc_eq {t : Nat} {A0 : Nat → Int} {B0 : Nat → Nat} {zu zd zs : Int} {r1 r2 : Int64} (h1 : sPerc t A0 B0 zu zd zs r1) (h2 : sPerc t A0 B0 zu zd zs r2) : r2 = r1 := eq3 h1 h2
theorem mok_b {t : Nat} {PU : Nat → Int} {QL : Nat → Nat} {A : Nat → Int} {B : Nat → Nat} (h : mok t PU QL A B) : ∀ j, j < t → mbd (A j) (B j) := fun j hj => (h j hj).2.2
theorem mok_congr {t : Nat} {PU : Nat → Int} {QL : Nat → Nat} {A A2 : Nat → Int} {B B2 : Nat → Nat} (h : mok t PU QL A B) (h2 : ∀ j, j < t → A2 j = A j ∧ B2 j = B j) : mok t PU QL A2 B2 := fun j hj => by rw [(h2 j hj).1, (h2 j hj).2]; exact h j hj
theorem draw_eq {n t t1 t2 : Nat} {zm : Int} {len : Nat} {r1 r2 : Int32} {PU P1 AA A2 MA : Nat → Int} {QL Q1 BB B2 MB : Nat → Nat} (ht : t ≤ 60) (hm : mok t PU QL AA BB)
    (h1 : ((1 ≤ zm ∧ zm ≤ 60) → ¬ n = 0 → r1 = iZ ((len : Nat) : Int) ∧ t1 = zm.toNat ∧ mok zm.toNat P1 Q1 MA MB) ∧ ((1 ≤ zm ∧ zm ≤ 60) → n = 0 → r1 = iZ (-3) ∧ (t1, P1, Q1) = (t, PU, QL)) ∧ (¬ (1 ≤ zm ∧ zm ≤ 60) → r1 = iZ (-1) ∧ (t1, P1, Q1) = (t, PU, QL)))
    (h2 : ((1 ≤ zm ∧ zm ≤ 60) → ¬ n = 0 → r2 = iZ ((len : Nat) : Int) ∧ t2 = zm.toNat ∧ ∀ j, j < zm.toNat → A2 j = MA j ∧ B2 j = MB j) ∧ ((1 ≤ zm ∧ zm ≤ 60) → n = 0 → r2 = iZ (-3) ∧ (t2, A2, B2) = (t, AA, BB)) ∧ (¬ (1 ≤ zm ∧ zm ≤ 60) → r2 = iZ (-1) ∧ (t2, A2, B2) = (t, AA, BB))) : r2 = r1 ∧ t1 = t2 ∧ t1 ≤ 60 ∧ mok t1 P1 Q1 A2 B2 := by
  have same : ∀ {x : Int32}, r1 = x ∧ (t1, P1, Q1) = (t, PU, QL) → r2 = x ∧ (t2, A2, B2) = (t, AA, BB) → r2 = r1 ∧ t1 = t2 ∧ t1 ≤ 60 ∧ mok t1 P1 Q1 A2 B2 := by
    intro x k1 k2
    have e1 := k1.2
    have e2 := k2.2
    simp only [Prod.mk.injEq] at e1 e2
    obtain ⟨a1, a2, a3⟩ := e1
    obtain ⟨b1, b2, b3⟩ := e2
    rw [a1, a2, a3, b1, b2, b3]
    exact ⟨k2.1.trans k1.1.symm, rfl, ht, hm⟩
  by_cases c : 1 ≤ zm ∧ zm ≤ 60
  · by_cases k : n = 0
    · exact same (h1.2.1 c k) (h2.2.1 c k)
    · obtain ⟨a1, a2, a3⟩ := h1.1 c k
      obtain ⟨b1, b2, b3⟩ := h2.1 c k
      refine ⟨b1.trans a1.symm, a2.trans b2.symm, by omega, ?_⟩
      rw [a2]
      exact mok_congr a3 b3
  · exact same (h1.2.2 c) (h2.2.2 c)
theorem begin_inv {zu zd za zb : Int} (h : vBegin zu zd) (h2 : vTrust za zb) : (1 : Nat) = 1 → trI zu.toNat zd.toNat za.toNat zb.toNat 0 0 0 := by
  intro _
  obtain ⟨⟨a1, a2⟩, a3, a4⟩ := h
  obtain ⟨⟨b1, b2⟩, b3, b4⟩ := h2
  exact ⟨by omega, by omega, by omega, by omega, by omega, by omega, by omega⟩
theorem zs_ld {p : Program} {l : Launch} {e : Env} {R : Room} {s : State} {m : MethodId} {args : Array Value} {below : List Frame} {meth : Method} {c : Code} {H : Heap} {locs : List Loc} {cells slots : Nat} {Q : State → Prop} {cc : ByteArray} {pc : Nat} {ls : Array Slot} {rest : List Value} {A : Nat → Prop} {H0 : Heap} {b L : Nat} {xs : Nat → Int32} (hx : p.tables.exec = Jvm.exec) (hb : c.code = cc) (hX : va_X b L xs s H0) (hbl : b < H0.size) (hbA : ¬ A b) (hS : va_S A H0 H locs) {j : Nat} (hj : j < L) (hL : L ≤ 4096) {z : Int} (hv : xs j = iZ z) (hd : decode cc pc = .ok (.iaload, 1))
    (kk : W p l e R s m args below meth c H locs cells slots Q (F0 m (pc + 1) ls (.int (iZ z) :: rest))) : W p l e R s m args below meth c H locs cells slots Q (F0 m pc ls (.int (iZ ((j : Nat) : Int)) :: .ref b :: rest)) := by
  refine va_sld hx hb hX hbl hbA hS (iZ_in hj (by omega)) hd ?_
  rw [iZ_cN (show j < 2147483648 by omega), hv]
  exact kk
/-- what stands between the calls -/
abbrev LK (p : Program) (l : Launch) (e : Env) (s : State) (m : MethodId) (below : List Frame) (meth : Method) (c : Code) (Q : State → Prop) (A : Nat → Prop) (D : va_G) (cI cJ : ClassId) (b h0 mz oz i nc ns : Nat) : Prop := ∀ (H : Heap) (locs : List Loc) (ls : Array Slot) (oH oR oU oT oM oC oL oA hs hp hm la lb lc ga xa ya da sa wa pa qa hq ua va wA wB lA lB sA sB gO xO yO dO zO wO mO aO bO uO vO : Nat) (u1 u2 u3 n ku sg ri fa t kc on up dn ta tb tr hi rj u4 u5 th vn : Nat) (g1 g2 g3 G X Y SF w QL U V g4 g5 e1 e2 TF w2 v2 BB : Nat → Nat) (DF PU EF AA : Nat → Int) (m0 m1 p0 q0 : Int) (o9 : Nat → Int64), va_P D vwCl [(h0, .inr (9, [.ref oH, .ref oR, .ref oU, .ref oT, .ref oM, .ref oC, .ref oL, .ref oA])), (oH, .inr (1, [.ref hs, .ref hp, .ref hm])), (hs, .inr (8, [.ref la, .int (iZ ((u1 : Nat) : Int))])), (la, .inl (cJ, 14, .inr (.inl (LJ g1)))), (hp, .inr (8, [.ref lb, .int (iZ ((u2 : Nat) : Int))])), (lb, .inl (cJ, 14, .inr (.inl (LJ g2)))), (hm, .inr (8, [.ref lc, .int (iZ ((u3 : Nat) : Int))])), (lc, .inl (cJ, 14, .inr (.inl (LJ g3)))), (oR, .inr (4, [.ref ga, .ref xa, .ref ya, .int (iZ ((n : Nat) : Int))])), (ga, .inl (cI, 30, .inl (LI G))), (xa, .inl (cI, 30, .inl (LI X))), (ya, .inl (cI, 30, .inl (LI Y))), (oU, .inr (7, [.ref da, .ref sa, .int (iZ ((ku : Nat) : Int))])), (da, .inl (cI, 30, .inl (ZI DF))), (sa, .inl (cI, 30, .inl (LI SF))), (oT, .inr (6, [.ref wa, .int (iZ ((sg : Nat) : Int)), .int (iZ ((ri : Nat) : Int)), .int (iZ ((fa : Nat) : Int))])), (wa, .inl (cJ, 1501, .inr (.inl (LJ w)))), (oM, .inr (2, [.ref pa, .ref qa, .ref hq, .int (iZ ((t : Nat) : Int))])), (pa, .inl (cJ, 60, .inr (.inl (ZJ PU)))), (qa, .inl (cJ, 60, .inr (.inl (LJ QL)))), (hq, .inr (3, [.long (lZ (m0)), .long (lZ (m1))])), (oC, .inr (0, [.ref ua, .ref va, .int (iZ ((kc : Nat) : Int))])), (ua, .inl (cI, 10, .inl (LI U))), (va, .inl (cI, 10, .inl (LI V))), (oL, .inr (5, [.ref wA, .ref wB, .int (iZ ((on : Nat) : Int)), .int (iZ ((up : Nat) : Int)), .int (iZ ((dn : Nat) : Int)), .int (iZ ((ta : Nat) : Int)), .int (iZ ((tb : Nat) : Int)), .int (iZ ((tr : Nat) : Int)), .int (iZ ((hi : Nat) : Int)), .int (iZ ((rj : Nat) : Int))])), (wA, .inr (8, [.ref lA, .int (iZ ((u4 : Nat) : Int))])), (lA, .inl (cJ, 14, .inr (.inl (LJ g4)))), (wB, .inr (8, [.ref lB, .int (iZ ((u5 : Nat) : Int))])), (lB, .inl (cJ, 14, .inr (.inl (LJ g5)))), (oA, .inr (3, [.long (lZ (p0)), .long (lZ (q0))])), (mz, .inr (10, [.int (iZ ((th : Nat) : Int)), .ref sA, .ref sB, .int (iZ ((n : Nat) : Int)), .ref gO, .ref xO, .ref yO, .int (iZ ((vn : Nat) : Int)), .ref dO, .ref zO, .ref wO, .ref mO, .int (iZ ((t : Nat) : Int)), .ref aO, .ref bO, .int (iZ ((kc : Nat) : Int)), .ref uO, .ref vO, .int (iZ ((on : Nat) : Int)), .int (iZ ((up : Nat) : Int)), .int (iZ ((dn : Nat) : Int)), .int (iZ ((ta : Nat) : Int)), .int (iZ ((tb : Nat) : Int)), .int (iZ ((tr : Nat) : Int)), .int (iZ ((hi : Nat) : Int)), .int (iZ ((rj : Nat) : Int))])), (sA, .inl (cI, 32, .inl (LI e1))), (sB, .inl (cI, 32, .inl (LI e2))), (gO, .inl (cI, 30, .inl (LI G))), (xO, .inl (cI, 30, .inl (LI X))), (yO, .inl (cI, 30, .inl (LI Y))), (dO, .inl (cI, 30, .inl (ZI EF))), (zO, .inl (cI, 30, .inl (LI TF))), (wO, .inl (cJ, 6001, .inr (.inl (LJ w2)))), (mO, .inl (cJ, 6001, .inr (.inl (LJ v2)))), (aO, .inl (cI, 60, .inl (ZI AA))), (bO, .inl (cI, 60, .inl (LI BB))), (uO, .inl (cI, 10, .inl (LI U))), (vO, .inl (cI, 10, .inl (LI V))), (oz, .inl (cJ, 1, .inr (.inl o9)))] H → va_D A [(h0, .inr (9, [.ref oH, .ref oR, .ref oU, .ref oT, .ref oM, .ref oC, .ref oL, .ref oA])), (oH, .inr (1, [.ref hs, .ref hp, .ref hm])), (hs, .inr (8, [.ref la, .int (iZ ((u1 : Nat) : Int))])), (la, .inl (cJ, 14, .inr (.inl (LJ g1)))), (hp, .inr (8, [.ref lb, .int (iZ ((u2 : Nat) : Int))])), (lb, .inl (cJ, 14, .inr (.inl (LJ g2)))), (hm, .inr (8, [.ref lc, .int (iZ ((u3 : Nat) : Int))])), (lc, .inl (cJ, 14, .inr (.inl (LJ g3)))), (oR, .inr (4, [.ref ga, .ref xa, .ref ya, .int (iZ ((n : Nat) : Int))])), (ga, .inl (cI, 30, .inl (LI G))), (xa, .inl (cI, 30, .inl (LI X))), (ya, .inl (cI, 30, .inl (LI Y))), (oU, .inr (7, [.ref da, .ref sa, .int (iZ ((ku : Nat) : Int))])), (da, .inl (cI, 30, .inl (ZI DF))), (sa, .inl (cI, 30, .inl (LI SF))), (oT, .inr (6, [.ref wa, .int (iZ ((sg : Nat) : Int)), .int (iZ ((ri : Nat) : Int)), .int (iZ ((fa : Nat) : Int))])), (wa, .inl (cJ, 1501, .inr (.inl (LJ w)))), (oM, .inr (2, [.ref pa, .ref qa, .ref hq, .int (iZ ((t : Nat) : Int))])), (pa, .inl (cJ, 60, .inr (.inl (ZJ PU)))), (qa, .inl (cJ, 60, .inr (.inl (LJ QL)))), (hq, .inr (3, [.long (lZ (m0)), .long (lZ (m1))])), (oC, .inr (0, [.ref ua, .ref va, .int (iZ ((kc : Nat) : Int))])), (ua, .inl (cI, 10, .inl (LI U))), (va, .inl (cI, 10, .inl (LI V))), (oL, .inr (5, [.ref wA, .ref wB, .int (iZ ((on : Nat) : Int)), .int (iZ ((up : Nat) : Int)), .int (iZ ((dn : Nat) : Int)), .int (iZ ((ta : Nat) : Int)), .int (iZ ((tb : Nat) : Int)), .int (iZ ((tr : Nat) : Int)), .int (iZ ((hi : Nat) : Int)), .int (iZ ((rj : Nat) : Int))])), (wA, .inr (8, [.ref lA, .int (iZ ((u4 : Nat) : Int))])), (lA, .inl (cJ, 14, .inr (.inl (LJ g4)))), (wB, .inr (8, [.ref lB, .int (iZ ((u5 : Nat) : Int))])), (lB, .inl (cJ, 14, .inr (.inl (LJ g5)))), (oA, .inr (3, [.long (lZ (p0)), .long (lZ (q0))])), (mz, .inr (10, [.int (iZ ((th : Nat) : Int)), .ref sA, .ref sB, .int (iZ ((n : Nat) : Int)), .ref gO, .ref xO, .ref yO, .int (iZ ((vn : Nat) : Int)), .ref dO, .ref zO, .ref wO, .ref mO, .int (iZ ((t : Nat) : Int)), .ref aO, .ref bO, .int (iZ ((kc : Nat) : Int)), .ref uO, .ref vO, .int (iZ ((on : Nat) : Int)), .int (iZ ((up : Nat) : Int)), .int (iZ ((dn : Nat) : Int)), .int (iZ ((ta : Nat) : Int)), .int (iZ ((tb : Nat) : Int)), .int (iZ ((tr : Nat) : Int)), .int (iZ ((hi : Nat) : Int)), .int (iZ ((rj : Nat) : Int))])), (sA, .inl (cI, 32, .inl (LI e1))), (sB, .inl (cI, 32, .inl (LI e2))), (gO, .inl (cI, 30, .inl (LI G))), (xO, .inl (cI, 30, .inl (LI X))), (yO, .inl (cI, 30, .inl (LI Y))), (dO, .inl (cI, 30, .inl (ZI EF))), (zO, .inl (cI, 30, .inl (LI TF))), (wO, .inl (cJ, 6001, .inr (.inl (LJ w2)))), (mO, .inl (cJ, 6001, .inr (.inl (LJ v2)))), (aO, .inl (cI, 60, .inl (ZI AA))), (bO, .inl (cI, 60, .inl (LI BB))), (uO, .inl (cI, 10, .inl (LI U))), (vO, .inl (cI, 10, .inl (LI V))), (oz, .inl (cJ, 1, .inr (.inl o9)))] → (rok n G X Y) → (t ≤ 60) → (mok t PU QL AA BB) → (cok kc U V) → (on ≤ 1) → (on = 1 → trI up dn ta tb tr hi rj) → va_S A s.heap H locs → lv_has ls 8 [(0, .ref b), (1, .ref h0), (2, .ref mz), (3, .ref oz), (4, .int (iZ ((i : Nat) : Int)))] → W p l e room_1 s m #[Value.ref b] below meth c H locs nc ns Q (F0 m 1174 ls [])


/-- compares as they may be -/
def cok (k : Nat) (U V : Nat → Nat) : Prop := k ≤ 10 ∧ ∀ i, i < k → 1 ≤ V i ∧ V i ≤ 100000 ∧ U i ≤ V i
/-- i stands ahead of j -/
def ahd (U V : Nat → Nat) (i j : Nat) : Bool := decide (U i * V j < U j * V i ∨ (U i * V j = U j * V i ∧ i < j))
/-- the place of j, from 1 on -/
def plc (k : Nat) (U V : Nat → Nat) (j : Nat) : Nat := 1 + cnt (fun i => ahd U V i j) k
theorem plc_le (k : Nat) (U V : Nat → Nat) (j : Nat) : plc k U V j ≤ k + 1 := by have := cnt_le (fun i => ahd U V i j) k; unfold plc; omega
theorem plc_1 (k : Nat) (U V : Nat → Nat) (j : Nat) : 1 ≤ plc k U V j := by unfold plc; omega
theorem cok_add {k : Nat} {U V : Nat → Nat} (h : cok k U V) (hk : k < 10) {u v : Nat} (h1 : 1 ≤ v) (h2 : v ≤ 100000) (h3 : u ≤ v) : cok (k + 1) (nup U k u) (nup V k v) := by
  refine ⟨by omega, fun i hi => ?_⟩
  by_cases e : i = k
  · subst e; rw [nup_s, nup_s]; exact ⟨h1, h2, h3⟩
  · rw [nup_n e, nup_n e]; exact h.2 i (by omega)
/-- the greatest of those up to a place; the least of those from a place on: behind i compares -/
def rgr (k : Nat) (U V : Nat → Nat) (q : Nat) : Nat → Nat × Nat
  | 0 => (0, 1)
  | i + 1 => if plc k U V i ≤ q ∧ (rgr k U V q i).1 * V i < (k + 1 - plc k U V i) * U i * (rgr k U V q i).2 then ((k + 1 - plc k U V i) * U i, V i) else rgr k U V q i
def rls (k : Nat) (U V : Nat → Nat) (q : Nat) : Nat → Nat × Nat
  | 0 => (k, 1)
  | i + 1 => if q ≤ plc k U V i ∧ k * U i * (rls k U V q i).2 < (rls k U V q i).1 * (plc k U V i * V i) then (k * U i, plc k U V i * V i) else rls k U V q i
def rpr (k : Nat) (U V : Nat → Nat) (way j : Nat) : Nat × Nat := if way = 0 then (k * U j, V j) else if way = 1 then rgr k U V (plc k U V j) k else rls k U V (plc k U V j) k
def rpb (p : Nat × Nat) : Prop := p.1 ≤ 1100000 ∧ 1 ≤ p.2 ∧ p.2 ≤ 1100000
theorem gr_b {k : Nat} {U V : Nat → Nat} (h : cok k U V) {i : Nat} (hi : i < k) : (k + 1 - plc k U V i) * U i ≤ 1100000 ∧ k * U i ≤ 1100000 ∧ plc k U V i * V i ≤ 1100000 ∧ 1 ≤ plc k U V i * V i := by
  have h1 := h.2 i hi
  have h2 := h.1
  have h3 := plc_le k U V i
  have h4 := plc_1 k U V i
  have a1 : (k + 1 - plc k U V i) * U i ≤ 11 * 100000 := Nat.mul_le_mul (by omega) (by omega)
  have a2 : k * U i ≤ 11 * 100000 := Nat.mul_le_mul (by omega) (by omega)
  have a3 : plc k U V i * V i ≤ 11 * 100000 := Nat.mul_le_mul (by omega) (by omega)
  have a4 : 1 * 1 ≤ plc k U V i * V i := Nat.mul_le_mul (by omega) (by omega)
  omega
theorem rgr_b {k : Nat} {U V : Nat → Nat} (h : cok k U V) (q : Nat) : ∀ i, i ≤ k → rpb (rgr k U V q i)
  | 0, _ => by unfold rpb rgr; decide
  | i + 1, hi => by
    have h1 := gr_b h (show i < k by omega)
    have h2 := h.2 i (by omega)
    rw [rgr]
    split
    · exact ⟨h1.1, h2.1, by show V i ≤ _; omega⟩
    · exact rgr_b h q i (by omega)
theorem rls_b {k : Nat} {U V : Nat → Nat} (h : cok k U V) (q : Nat) : ∀ i, i ≤ k → rpb (rls k U V q i)
  | 0, _ => by unfold rpb rls; have := h.1; exact ⟨by show k ≤ _; omega, Nat.le_refl 1, (show 1 ≤ 1100000 by decide)⟩
  | i + 1, hi => by
    have h1 := gr_b h (show i < k by omega)
    rw [rls]
    split
    · exact ⟨h1.2.1, h1.2.2.2, h1.2.2.1⟩
    · exact rls_b h q i (by omega)
theorem red_lt {u a b : Int} {d : Nat} (hd : 0 < d) : redU u d * b < a * ((redL u d : Nat) : Int) ↔ u * b < a * (d : Int) := by
  have hg : (0 : Int) < ((u.natAbs.gcd d : Nat) : Int) := by have := red_pos (u := u) hd; omega
  have e1 : u * b = redU u d * b * ((u.natAbs.gcd d : Nat) : Int) := by conv => lhs; rw [redU_mul (u := u) (d := d)]
                                                                        rw [Int.mul_right_comm]
  have e2 : a * (d : Int) = a * ((redL u d : Nat) : Int) * ((u.natAbs.gcd d : Nat) : Int) := by
    have := redL_mul (u := u) (d := d)
    rw [Int.mul_assoc, ← Int.natCast_mul, ← this]
  rw [e1, e2]
  exact ⟨fun h => Int.mul_lt_mul_of_pos_right h hg, fun h => Int.lt_of_mul_lt_mul_right h (Int.le_of_lt hg)⟩
theorem red_gt {u a b : Int} {d : Nat} (hd : 0 < d) : a * ((redL u d : Nat) : Int) < redU u d * b ↔ a * (d : Int) < u * b := by
  have hg : (0 : Int) < ((u.natAbs.gcd d : Nat) : Int) := by have := red_pos (u := u) hd; omega
  have e1 : u * b = redU u d * b * ((u.natAbs.gcd d : Nat) : Int) := by conv => lhs; rw [redU_mul (u := u) (d := d)]
                                                                        rw [Int.mul_right_comm]
  have e2 : a * (d : Int) = a * ((redL u d : Nat) : Int) * ((u.natAbs.gcd d : Nat) : Int) := by
    have := redL_mul (u := u) (d := d)
    rw [Int.mul_assoc, ← Int.natCast_mul, ← this]
  rw [e1, e2]
  exact ⟨fun h => Int.mul_lt_mul_of_pos_right h hg, fun h => Int.lt_of_mul_lt_mul_right h (Int.le_of_lt hg)⟩
theorem redU_b {u : Int} {d B : Nat} (hd : 0 < d) (h1 : -(B : Int) ≤ u) (h2 : u ≤ B) : -(B : Int) ≤ redU u d ∧ redU u d ≤ B := by
  have hg : (0 : Int) < ((u.natAbs.gcd d : Nat) : Int) := by have := red_pos (u := u) hd; omega
  have e := redU_mul (u := u) (d := d)
  generalize ((u.natAbs.gcd d : Nat) : Int) = g at *
  generalize redU u d = r at *
  constructor
  · rcases Int.lt_or_le r 0 with hn | hn
    · have : r * g ≤ r * 1 := Int.mul_le_mul_of_nonpos_left (Int.le_of_lt hn) (by omega)
      omega
    · omega
  · rcases Int.lt_or_le r 0 with hn | hn
    · omega
    · have : r * 1 ≤ r * g := Int.mul_le_mul_of_nonneg_left (by omega) hn
      omega
theorem lR_mul {a b : Int} {B : Nat} (hB : B ≤ 2000000000) (h1 : -(B : Int) ≤ a) (h2 : a ≤ B) (h3 : -(B : Int) ≤ b) (h4 : b ≤ B) : lR (a * b) := by
  have h : (a * b).natAbs ≤ B * B := by rw [Int.natAbs_mul]; exact Nat.mul_le_mul (by omega) (by omega)
  have h5 : B * B ≤ 2000000000 * 2000000000 := Nat.mul_le_mul hB hB
  exact ⟨by omega, by omega⟩
def rmX0_init : Room := { frames := 1, cells := 2, slots := 20, locals := 12 }
set_option maxHeartbeats 4000000 in
set_option maxRecDepth 100000 in
theorem c_X0_init (l : Launch) (D : va_G) (cI cJ : ClassId) (h0 : Nat) : Cv l D vwCl (tyT cI cJ) yX0_init wsX0_init rmX0_init [.ref h0] [(h0, .inr (0, [.null, .null, .int (iZ ((0 : Nat) : Int))]))] (Nat × Nat) (fun _ => True) (fun q => [(h0, .inr (0, [.ref q.1, .ref q.2, .int (iZ ((0 : Nat) : Int))])), (q.1, .inl (cI, 10, .inl (LI (fun _ => 0)))), (q.2, .inl (cI, 10, .inl (LI (fun _ => 0))))]) := by
  refine en_v (cc := cX0_init) (maxL := 1) (by decide) rfl [(0, .ref h0)] (Nat.le_of_ble_eq_true rfl) rfl ?_
  intro p e s m args below meth c Q A hx hb hml hown hts hnm hK hP hD hA hS hret ls hl
  have hh_0 := hts (.methodLink RX0 1 objectInit) (by decide +kernel)
  have hh_1 := hts (.instanceMethod objectInit) (by decide +kernel)
  have hh_2 := hts (.code objectInit ⟨#[0xb1]⟩ 1 none) (by decide +kernel)
  have hh_3 := hts (.arrayClass .int) (by decide +kernel)
  have hh_4 := hts (.fieldLink RX0 9 "BoundDraws$Compares" "ups" "[I") (by decide +kernel)
  have hh_5 := (show ∀ w ∈ wsX00, w ∈ wsX0_init by decide +kernel)
  have hh_6 := hts (.fieldLink RX0 13 "BoundDraws$Compares" "downs" "[I") (by decide +kernel)
  have hh_7 := hts (.fieldLink RX0 16 "BoundDraws$Compares" "used" "I") (by decide +kernel)
  refine lv_aload_n hx hb dX0_init_0 rfl (lv_at hl 0 rfl) ?_
  refine W.objInit hx hb hown hh_0 hh_1 hh_2 rfl (by rw [hml]; exact hl.1) rfl dX0_init_1 (Nat.le_of_ble_eq_true rfl) (Nat.le_of_ble_eq_true rfl) ?_
  refine W.eq (g2 := F0 m 4 ls []) rfl ?_
  refine lv_aload_n hx hb dX0_init_4 rfl (lv_at hl 0 rfl) ?_
  refine zc_bipush (z := ((10 : Nat) : Int)) hx hb dX0_init_5 (by decide) ?_
  refine zn_newI (N := 10) hx hb hh_3 hK hP hD hS hA (Nat.le_of_ble_eq_true rfl) (Nat.le_of_ble_eq_true rfl) dX0_init_7 (fun q1 H hP hD hS => ?_)
  have hP : va_P D vwCl [(h0, .inr (0, [.null, .null, .int (iZ ((0 : Nat) : Int))])), (q1, .inl (cI, 10, .inl (LI (fun _ => 0))))] H := hP
  have hD : va_D A [(h0, .inr (0, [.null, .null, .int (iZ ((0 : Nat) : Int))])), (q1, .inl (cI, 10, .inl (LI (fun _ => 0))))] := hD
  refine W.widen (k := 1) (n := 10) (Nat.le_of_ble_eq_true rfl) (Nat.le_of_ble_eq_true rfl) ?_
  refine va_putF (D := D) (ci := 0) (v := .ref q1) (ty := .array .int) (C := RX0) (T := TX0) (N := 3) hx hb hts hh_5 tyX0 tyX0_ok nmX0 hown hK hP hD hS 0 rfl rfl 0 (by decide) hh_4 (fun _ h9 => h9) rfl hnm rfl (by decide +kernel) rfl rfl (Nat.le_of_ble_eq_true rfl) dX0_init_9 (fun H locs hP hD hS => ?_)
  have hP : va_P D vwCl [(h0, .inr (0, [.ref q1, .null, .int (iZ ((0 : Nat) : Int))])), (q1, .inl (cI, 10, .inl (LI (fun _ => 0))))] H := hP
  have hD : va_D A [(h0, .inr (0, [.ref q1, .null, .int (iZ ((0 : Nat) : Int))])), (q1, .inl (cI, 10, .inl (LI (fun _ => 0))))] := hD
  refine lv_aload_n hx hb dX0_init_12 rfl (lv_at hl 0 rfl) ?_
  refine zc_bipush (z := ((10 : Nat) : Int)) hx hb dX0_init_13 (by decide) ?_
  refine zn_newI (N := 10) hx hb hh_3 hK hP hD hS hA (Nat.le_of_ble_eq_true rfl) (Nat.le_of_ble_eq_true rfl) dX0_init_15 (fun q2 H hP hD hS => ?_)
  have hP : va_P D vwCl [(h0, .inr (0, [.ref q1, .null, .int (iZ ((0 : Nat) : Int))])), (q1, .inl (cI, 10, .inl (LI (fun _ => 0)))), (q2, .inl (cI, 10, .inl (LI (fun _ => 0))))] H := hP
  have hD : va_D A [(h0, .inr (0, [.ref q1, .null, .int (iZ ((0 : Nat) : Int))])), (q1, .inl (cI, 10, .inl (LI (fun _ => 0)))), (q2, .inl (cI, 10, .inl (LI (fun _ => 0))))] := hD
  refine W.widen (k := 2) (n := 20) (Nat.le_of_ble_eq_true rfl) (Nat.le_of_ble_eq_true rfl) ?_
  refine va_putF (D := D) (ci := 0) (v := .ref q2) (ty := .array .int) (C := RX0) (T := TX0) (N := 3) hx hb hts hh_5 tyX0 tyX0_ok nmX0 hown hK hP hD hS 0 rfl rfl 1 (by decide) hh_6 (fun _ h9 => h9) rfl hnm rfl (by decide +kernel) rfl rfl (Nat.le_of_ble_eq_true rfl) dX0_init_17 (fun H locs hP hD hS => ?_)
  have hP : va_P D vwCl [(h0, .inr (0, [.ref q1, .ref q2, .int (iZ ((0 : Nat) : Int))])), (q1, .inl (cI, 10, .inl (LI (fun _ => 0)))), (q2, .inl (cI, 10, .inl (LI (fun _ => 0))))] H := hP
  have hD : va_D A [(h0, .inr (0, [.ref q1, .ref q2, .int (iZ ((0 : Nat) : Int))])), (q1, .inl (cI, 10, .inl (LI (fun _ => 0)))), (q2, .inl (cI, 10, .inl (LI (fun _ => 0))))] := hD
  refine lv_aload_n hx hb dX0_init_20 rfl (lv_at hl 0 rfl) ?_
  refine zc_iconst (z := ((0 : Nat) : Int)) hx hb dX0_init_21 (by decide) ?_
  refine va_put (D := D) (ci := 0) (v := .int (iZ ((0 : Nat) : Int))) (ty := .int) (C := RX0) (T := TX0) (N := 3) hx hb hts hh_5 tyX0 tyX0_ok nmX0 hown hK hP hD hS 0 rfl rfl 2 (by decide) hh_7 (fun _ h9 => h9) rfl (by decide +kernel) rfl rfl (Nat.le_of_ble_eq_true rfl) dX0_init_22 (fun H locs hP hD hS => ?_)
  have hP : va_P D vwCl [(h0, .inr (0, [.ref q1, .ref q2, .int (iZ ((0 : Nat) : Int))])), (q1, .inl (cI, 10, .inl (LI (fun _ => 0)))), (q2, .inl (cI, 10, .inl (LI (fun _ => 0))))] H := hP
  have hD : va_D A [(h0, .inr (0, [.ref q1, .ref q2, .int (iZ ((0 : Nat) : Int))])), (q1, .inl (cI, 10, .inl (LI (fun _ => 0)))), (q2, .inl (cI, 10, .inl (LI (fun _ => 0))))] := hD
  exact hret (q1, q2) _ _ _ _ _ _ (Nat.le_of_ble_eq_true rfl) (Nat.le_of_ble_eq_true rfl) dX0_init_25 (trivial) hP hD hS
def rmX0_size : Room := { frames := 0, cells := 0, slots := 0, locals := 0 }
set_option maxHeartbeats 4000000 in
set_option maxRecDepth 100000 in
theorem c_X0_size (l : Launch) (D : va_G) (cI cJ : ClassId) (h0 ua va : Nat) (k : Nat) (U V : Nat → Nat) : Ci l D vwCl (tyT cI cJ) yX0_size wsX0_size rmX0_size [.ref h0] [(h0, .inr (0, [.ref ua, .ref va, .int (iZ ((k : Nat) : Int))])), (ua, .inl (cI, 10, .inl (LI U))), (va, .inl (cI, 10, .inl (LI V)))] (Unit) (fun r _ => r = iZ ((k : Nat) : Int)) (fun _ => [(h0, .inr (0, [.ref ua, .ref va, .int (iZ ((k : Nat) : Int))])), (ua, .inl (cI, 10, .inl (LI U))), (va, .inl (cI, 10, .inl (LI V)))]) := by
  refine en_i (cc := cX0_size) (maxL := 1) (by decide) rfl [(0, .ref h0)] (Nat.le_of_ble_eq_true rfl) rfl ?_
  intro p e s m args below meth c Q A hx hb hml hown hts hnm hK hP hD hA hS hret ls hl
  have hh_0 := hts (.fieldLink RX0 16 "BoundDraws$Compares" "used" "I") (by decide +kernel)
  have hh_1 := (show ∀ w ∈ wsX00, w ∈ wsX0_size by decide +kernel)
  refine lv_aload_n hx hb dX0_size_0 rfl (lv_at hl 0 rfl) ?_
  refine va_get (D := D) (ci := 0) (v := .int (iZ ((k : Nat) : Int))) (C := RX0) (T := TX0) (N := 3) hx hb hts hh_1 hown hK hP 0 rfl rfl 2 (by decide) hh_0 (fun _ h9 => h9) rfl dX0_size_1 ?_
  exact hret _ (()) _ _ _ _ _ _ (Nat.le_of_ble_eq_true rfl) (Nat.le_of_ble_eq_true rfl) rfl dX0_size_4 (rfl) hP hD hS
def rmX0_isFull : Room := { frames := 0, cells := 0, slots := 0, locals := 0 }
set_option maxHeartbeats 4000000 in
set_option maxRecDepth 100000 in
theorem c_X0_isFull (l : Launch) (D : va_G) (cI cJ : ClassId) (h0 ua va : Nat) (k : Nat) (U V : Nat → Nat) (hc : cok k U V) : Ci l D vwCl (tyT cI cJ) yX0_isFull wsX0_isFull rmX0_isFull [.ref h0] [(h0, .inr (0, [.ref ua, .ref va, .int (iZ ((k : Nat) : Int))])), (ua, .inl (cI, 10, .inl (LI U))), (va, .inl (cI, 10, .inl (LI V)))] (Unit) (fun r _ => bres r (10 ≤ k)) (fun _ => [(h0, .inr (0, [.ref ua, .ref va, .int (iZ ((k : Nat) : Int))])), (ua, .inl (cI, 10, .inl (LI U))), (va, .inl (cI, 10, .inl (LI V)))]) := by
  have hk0 := hc.1
  refine en_i (cc := cX0_isFull) (maxL := 1) (by decide) rfl [(0, .ref h0)] (Nat.le_of_ble_eq_true rfl) rfl ?_
  intro p e s m args below meth c Q A hx hb hml hown hts hnm hK hP hD hA hS hret ls hl
  have hh_0 := hts (.fieldLink RX0 16 "BoundDraws$Compares" "used" "I") (by decide +kernel)
  have hh_1 := (show ∀ w ∈ wsX00, w ∈ wsX0_isFull by decide +kernel)
  refine lv_aload_n hx hb dX0_isFull_0 rfl (lv_at hl 0 rfl) ?_
  refine va_get (D := D) (ci := 0) (v := .int (iZ ((k : Nat) : Int))) (C := RX0) (T := TX0) (N := 3) hx hb hts hh_1 hown hK hP 0 rfl rfl 2 (by decide) hh_0 (fun _ h9 => h9) rfl dX0_isFull_1 ?_
  refine zc_bipush (z := ((10 : Nat) : Int)) hx hb dX0_isFull_4 (by decide) ?_
  refine zb_icmp_lt (x := ((k : Nat) : Int)) (y := ((10 : Nat) : Int)) (tgt := 13) hx hb dX0_isFull_6 (by decide) ⟨by omega, by omega⟩ ⟨by decide, by decide⟩ (fun c_6 => ?_) (fun c_6 => ?_)
  · refine zc_iconst (z := ((0 : Nat) : Int)) hx hb dX0_isFull_13 (by decide) ?_
    exact hret _ (()) _ _ _ _ _ _ (Nat.le_of_ble_eq_true rfl) (Nat.le_of_ble_eq_true rfl) rfl dX0_isFull_14 (bres_f (by omega)) hP hD hS
  · refine zc_iconst (z := ((1 : Nat) : Int)) hx hb dX0_isFull_9 (by decide) ?_
    refine lv_goto (tgt := 14) hx hb dX0_isFull_10 (by decide) ?_
    exact hret _ (()) _ _ _ _ _ _ (Nat.le_of_ble_eq_true rfl) (Nat.le_of_ble_eq_true rfl) rfl dX0_isFull_14 (bres_t (by omega)) hP hD hS
def rmX0_add : Room := { frames := 1, cells := 0, slots := 0, locals := 20 }
set_option maxHeartbeats 4000000 in
set_option maxRecDepth 100000 in
theorem c_X0_add (l : Launch) (D : va_G) (cI cJ : ClassId) (h0 ua va : Nat) (k : Nat) (U V : Nat → Nat) (hc : cok k U V) (hk : k < 10) (u9 v9 : Nat) : Cv l D vwCl (tyT cI cJ) yX0_add wsX0_add rmX0_add [.ref h0, .int (iZ ((u9 : Nat) : Int)), .int (iZ ((v9 : Nat) : Int))] [(h0, .inr (0, [.ref ua, .ref va, .int (iZ ((k : Nat) : Int))])), (ua, .inl (cI, 10, .inl (LI U))), (va, .inl (cI, 10, .inl (LI V)))] (Unit) (fun _ => True) (fun _ => [(h0, .inr (0, [.ref ua, .ref va, .int (iZ ((k + 1 : Nat) : Int))])), (ua, .inl (cI, 10, .inl (LI (nup U k u9)))), (va, .inl (cI, 10, .inl (LI (nup V k v9))))]) := by
  refine en_v (cc := cX0_add) (maxL := 3) (by decide) rfl [(0, .ref h0), (1, .int (iZ ((u9 : Nat) : Int))), (2, .int (iZ ((v9 : Nat) : Int)))] (Nat.le_of_ble_eq_true rfl) rfl ?_
  intro p e s m args below meth c Q A hx hb hml hown hts hnm hK hP hD hA hS hret ls hl
  have hh_0 := hts (.fieldLink RX0 9 "BoundDraws$Compares" "ups" "[I") (by decide +kernel)
  have hh_1 := (show ∀ w ∈ wsX00, w ∈ wsX0_add by decide +kernel)
  have hh_2 := hts (.fieldLink RX0 16 "BoundDraws$Compares" "used" "I") (by decide +kernel)
  have hh_3 := hts (.fieldLink RX0 13 "BoundDraws$Compares" "downs" "[I") (by decide +kernel)
  refine lv_aload_n hx hb dX0_add_0 rfl (lv_at hl 0 rfl) ?_
  refine ca_iV [] [] [] 0 0 ⟨hx, hb, hml, hown, hts⟩ (c_X0_isFull l D cI cJ h0 ua va k U V hc) (cwV 0 hts gX0_add_X0_isFull rfl rfl rfl (by decide +kernel) ⟨(Nat.le_of_ble_eq_true rfl), (Nat.le_of_ble_eq_true rfl)⟩) hK hP hD hS hA [0, 1, 2] [] rfl rfl rfl rfl (by decide) 0 rfl rfl rfl hl.1 rfl (Nat.le_of_ble_eq_true rfl) dX0_add_1 ⟨(Nat.le_of_ble_eq_true rfl), (Nat.le_of_ble_eq_true rfl)⟩ (Nat.le_of_ble_eq_true rfl) (Nat.le_of_ble_eq_true rfl) (fun r_1 _u H locs hw hP hD hS => ?_)
  try dsimp only at hw
  obtain ⟨b1, hb1, hb2, hb3⟩ := hw
  have hP : va_P D vwCl [(h0, .inr (0, [.ref ua, .ref va, .int (iZ ((k : Nat) : Int))])), (ua, .inl (cI, 10, .inl (LI U))), (va, .inl (cI, 10, .inl (LI V)))] H := hP
  have hD : va_D A [(h0, .inr (0, [.ref ua, .ref va, .int (iZ ((k : Nat) : Int))])), (ua, .inl (cI, 10, .inl (LI U))), (va, .inl (cI, 10, .inl (LI V)))] := hD
  refine tp_i (y := (iZ (b1))) (hb1) ?_
  refine zb_if_eq (x := (b1)) (tgt := 8) hx hb dX0_add_4 (by decide) ⟨by omega, by omega⟩ (fun c_4 => ?_) (fun c_4 => ?_)
  · refine lv_aload_n hx hb dX0_add_8 rfl (lv_at hl 0 rfl) ?_
    refine va_get (D := D) (ci := 0) (v := .ref ua) (C := RX0) (T := TX0) (N := 3) hx hb hts hh_1 hown hK hP 0 rfl rfl 0 (by decide) hh_0 (fun _ h9 => h9) rfl dX0_add_9 ?_
    refine lv_aload_n hx hb dX0_add_12 rfl (lv_at hl 0 rfl) ?_
    refine va_get (D := D) (ci := 0) (v := .int (iZ ((k : Nat) : Int))) (C := RX0) (T := TX0) (N := 3) hx hb hts hh_1 hown hK hP 0 rfl rfl 2 (by decide) hh_2 (fun _ h9 => h9) rfl dX0_add_13 ?_
    refine lv_iload_n hx hb dX0_add_16 rfl (lv_at hl 1 rfl) ?_
    refine za_iast hx hb hK hP hD hS 1 0 rfl rfl (k) (by decide) rfl (by omega) dX0_add_17 (fun H locs hP hD hS => ?_)
    have hP : va_P D vwCl [(h0, .inr (0, [.ref ua, .ref va, .int (iZ ((k : Nat) : Int))])), (ua, .inl (cI, 10, .inl (upd (LI U) (k) ((iZ ((u9 : Nat) : Int)))))), (va, .inl (cI, 10, .inl (LI V)))] H := hP
    have hD : va_D A [(h0, .inr (0, [.ref ua, .ref va, .int (iZ ((k : Nat) : Int))])), (ua, .inl (cI, 10, .inl (upd (LI U) (k) ((iZ ((u9 : Nat) : Int)))))), (va, .inl (cI, 10, .inl (LI V)))] := hD
    rw [LI_up] at hP hD
    have hP : va_P D vwCl [(h0, .inr (0, [.ref ua, .ref va, .int (iZ ((k : Nat) : Int))])), (ua, .inl (cI, 10, .inl (LI (nup U (k) (u9))))), (va, .inl (cI, 10, .inl (LI V)))] H := hP
    have hD : va_D A [(h0, .inr (0, [.ref ua, .ref va, .int (iZ ((k : Nat) : Int))])), (ua, .inl (cI, 10, .inl (LI (nup U (k) (u9))))), (va, .inl (cI, 10, .inl (LI V)))] := hD
    refine lv_aload_n hx hb dX0_add_18 rfl (lv_at hl 0 rfl) ?_
    refine va_get (D := D) (ci := 0) (v := .ref va) (C := RX0) (T := TX0) (N := 3) hx hb hts hh_1 hown hK hP 0 rfl rfl 1 (by decide) hh_3 (fun _ h9 => h9) rfl dX0_add_19 ?_
    refine lv_aload_n hx hb dX0_add_22 rfl (lv_at hl 0 rfl) ?_
    refine va_get (D := D) (ci := 0) (v := .int (iZ ((k : Nat) : Int))) (C := RX0) (T := TX0) (N := 3) hx hb hts hh_1 hown hK hP 0 rfl rfl 2 (by decide) hh_2 (fun _ h9 => h9) rfl dX0_add_23 ?_
    refine lv_iload_n hx hb dX0_add_26 rfl (lv_at hl 2 rfl) ?_
    refine za_iast hx hb hK hP hD hS 2 0 rfl rfl (k) (by decide) rfl (by omega) dX0_add_27 (fun H locs hP hD hS => ?_)
    have hP : va_P D vwCl [(h0, .inr (0, [.ref ua, .ref va, .int (iZ ((k : Nat) : Int))])), (ua, .inl (cI, 10, .inl (LI (nup U (k) (u9))))), (va, .inl (cI, 10, .inl (upd (LI V) (k) ((iZ ((v9 : Nat) : Int))))))] H := hP
    have hD : va_D A [(h0, .inr (0, [.ref ua, .ref va, .int (iZ ((k : Nat) : Int))])), (ua, .inl (cI, 10, .inl (LI (nup U (k) (u9))))), (va, .inl (cI, 10, .inl (upd (LI V) (k) ((iZ ((v9 : Nat) : Int))))))] := hD
    rw [LI_up] at hP hD
    have hP : va_P D vwCl [(h0, .inr (0, [.ref ua, .ref va, .int (iZ ((k : Nat) : Int))])), (ua, .inl (cI, 10, .inl (LI (nup U (k) (u9))))), (va, .inl (cI, 10, .inl (LI (nup V (k) (v9)))))] H := hP
    have hD : va_D A [(h0, .inr (0, [.ref ua, .ref va, .int (iZ ((k : Nat) : Int))])), (ua, .inl (cI, 10, .inl (LI (nup U (k) (u9))))), (va, .inl (cI, 10, .inl (LI (nup V (k) (v9)))))] := hD
    refine lv_aload_n hx hb dX0_add_28 rfl (lv_at hl 0 rfl) ?_
    refine lv_dup hx hb dX0_add_29 rfl ?_
    refine va_get (D := D) (ci := 0) (v := .int (iZ ((k : Nat) : Int))) (C := RX0) (T := TX0) (N := 3) hx hb hts hh_1 hown hK hP 0 rfl rfl 2 (by decide) hh_2 (fun _ h9 => h9) rfl dX0_add_30 ?_
    refine zc_iconst (z := ((1 : Nat) : Int)) hx hb dX0_add_33 (by decide) ?_
    refine zi_add (z := ((k + 1 : Nat) : Int)) hx hb dX0_add_34 (by omega) ?_
    refine va_put (D := D) (ci := 0) (v := .int (iZ ((k + 1 : Nat) : Int))) (ty := .int) (C := RX0) (T := TX0) (N := 3) hx hb hts hh_1 tyX0 tyX0_ok nmX0 hown hK hP hD hS 0 rfl rfl 2 (by decide) hh_2 (fun _ h9 => h9) rfl (by decide +kernel) rfl rfl (Nat.le_of_ble_eq_true rfl) dX0_add_35 (fun H locs hP hD hS => ?_)
    have hP : va_P D vwCl [(h0, .inr (0, [.ref ua, .ref va, .int (iZ ((k + 1 : Nat) : Int))])), (ua, .inl (cI, 10, .inl (LI (nup U (k) (u9))))), (va, .inl (cI, 10, .inl (LI (nup V (k) (v9)))))] H := hP
    have hD : va_D A [(h0, .inr (0, [.ref ua, .ref va, .int (iZ ((k + 1 : Nat) : Int))])), (ua, .inl (cI, 10, .inl (LI (nup U (k) (u9))))), (va, .inl (cI, 10, .inl (LI (nup V (k) (v9)))))] := hD
    exact hret (()) _ _ _ _ _ _ (Nat.le_of_ble_eq_true rfl) (Nat.le_of_ble_eq_true rfl) dX0_add_38 (trivial) hP hD hS
  · exfalso; omega
def rmX0_empty : Room := { frames := 0, cells := 0, slots := 0, locals := 0 }
set_option maxHeartbeats 4000000 in
set_option maxRecDepth 100000 in
theorem c_X0_empty (l : Launch) (D : va_G) (cI cJ : ClassId) (h0 ua va : Nat) (k : Nat) (U V : Nat → Nat) : Cv l D vwCl (tyT cI cJ) yX0_empty wsX0_empty rmX0_empty [.ref h0] [(h0, .inr (0, [.ref ua, .ref va, .int (iZ ((k : Nat) : Int))])), (ua, .inl (cI, 10, .inl (LI U))), (va, .inl (cI, 10, .inl (LI V)))] (Unit) (fun _ => True) (fun _ => [(h0, .inr (0, [.ref ua, .ref va, .int (iZ ((0 : Nat) : Int))])), (ua, .inl (cI, 10, .inl (LI U))), (va, .inl (cI, 10, .inl (LI V)))]) := by
  refine en_v (cc := cX0_empty) (maxL := 1) (by decide) rfl [(0, .ref h0)] (Nat.le_of_ble_eq_true rfl) rfl ?_
  intro p e s m args below meth c Q A hx hb hml hown hts hnm hK hP hD hA hS hret ls hl
  have hh_0 := hts (.fieldLink RX0 16 "BoundDraws$Compares" "used" "I") (by decide +kernel)
  have hh_1 := (show ∀ w ∈ wsX00, w ∈ wsX0_empty by decide +kernel)
  refine lv_aload_n hx hb dX0_empty_0 rfl (lv_at hl 0 rfl) ?_
  refine zc_iconst (z := ((0 : Nat) : Int)) hx hb dX0_empty_1 (by decide) ?_
  refine va_put (D := D) (ci := 0) (v := .int (iZ ((0 : Nat) : Int))) (ty := .int) (C := RX0) (T := TX0) (N := 3) hx hb hts hh_1 tyX0 tyX0_ok nmX0 hown hK hP hD hS 0 rfl rfl 2 (by decide) hh_0 (fun _ h9 => h9) rfl (by decide +kernel) rfl rfl (Nat.le_of_ble_eq_true rfl) dX0_empty_2 (fun H locs hP hD hS => ?_)
  have hP : va_P D vwCl [(h0, .inr (0, [.ref ua, .ref va, .int (iZ ((0 : Nat) : Int))])), (ua, .inl (cI, 10, .inl (LI U))), (va, .inl (cI, 10, .inl (LI V)))] H := hP
  have hD : va_D A [(h0, .inr (0, [.ref ua, .ref va, .int (iZ ((0 : Nat) : Int))])), (ua, .inl (cI, 10, .inl (LI U))), (va, .inl (cI, 10, .inl (LI V)))] := hD
  exact hret (()) _ _ _ _ _ _ (Nat.le_of_ble_eq_true rfl) (Nat.le_of_ble_eq_true rfl) dX0_empty_5 (trivial) hP hD hS
def rmX0_standsAhead : Room := { frames := 0, cells := 0, slots := 0, locals := 0 }
set_option maxHeartbeats 4000000 in
set_option maxRecDepth 100000 in
theorem c_X0_standsAhead (l : Launch) (D : va_G) (cI cJ : ClassId) (h0 ua va : Nat) (k : Nat) (U V : Nat → Nat) (hc : cok k U V) (i j : Nat) (hi : i < k) (hj : j < k) : Ci l D vwCl (tyT cI cJ) yX0_standsAhead wsX0_standsAhead rmX0_standsAhead [.ref h0, .int (iZ ((i : Nat) : Int)), .int (iZ ((j : Nat) : Int))] [(h0, .inr (0, [.ref ua, .ref va, .int (iZ ((k : Nat) : Int))])), (ua, .inl (cI, 10, .inl (LI U))), (va, .inl (cI, 10, .inl (LI V)))] (Unit) (fun r _ => bres r (ahd U V i j = true)) (fun _ => [(h0, .inr (0, [.ref ua, .ref va, .int (iZ ((k : Nat) : Int))])), (ua, .inl (cI, 10, .inl (LI U))), (va, .inl (cI, 10, .inl (LI V)))]) := by
  have hk0 := hc.1
  have hbi := hc.2 i hi
  have hbj := hc.2 j hj
  have hm1 : U i * V j ≤ 100000 * 100000 := Nat.mul_le_mul (by omega) (by omega)
  have hm2 : U j * V i ≤ 100000 * 100000 := Nat.mul_le_mul (by omega) (by omega)
  refine en_i (cc := cX0_standsAhead) (maxL := 7) (by decide) rfl [(0, .ref h0), (1, .int (iZ ((i : Nat) : Int))), (2, .int (iZ ((j : Nat) : Int)))] (Nat.le_of_ble_eq_true rfl) rfl ?_
  intro p e s m args below meth c Q A hx hb hml hown hts hnm hK hP hD hA hS hret ls hl
  have hh_0 := hts (.fieldLink RX0 16 "BoundDraws$Compares" "used" "I") (by decide +kernel)
  have hh_1 := (show ∀ w ∈ wsX00, w ∈ wsX0_standsAhead by decide +kernel)
  have hh_2 := hts (.fieldLink RX0 9 "BoundDraws$Compares" "ups" "[I") (by decide +kernel)
  have hh_3 := hts (.fieldLink RX0 13 "BoundDraws$Compares" "downs" "[I") (by decide +kernel)
  refine lv_iload_n hx hb dX0_standsAhead_0 rfl (lv_at hl 1 rfl) ?_
  refine zb_if_lt (x := ((i : Nat) : Int)) (tgt := 24) hx hb dX0_standsAhead_1 (by decide) ⟨by omega, by omega⟩ (fun c_1 => ?_) (fun c_1 => ?_)
  · exfalso; omega
  · refine lv_iload_n hx hb dX0_standsAhead_4 rfl (lv_at hl 1 rfl) ?_
    refine lv_aload_n hx hb dX0_standsAhead_5 rfl (lv_at hl 0 rfl) ?_
    refine va_get (D := D) (ci := 0) (v := .int (iZ ((k : Nat) : Int))) (C := RX0) (T := TX0) (N := 3) hx hb hts hh_1 hown hK hP 0 rfl rfl 2 (by decide) hh_0 (fun _ h9 => h9) rfl dX0_standsAhead_6 ?_
    refine zb_icmp_ge (x := ((i : Nat) : Int)) (y := ((k : Nat) : Int)) (tgt := 24) hx hb dX0_standsAhead_9 (by decide) ⟨by omega, by omega⟩ ⟨by omega, by omega⟩ (fun c_9 => ?_) (fun c_9 => ?_)
    · exfalso; omega
    · refine lv_iload_n hx hb dX0_standsAhead_12 rfl (lv_at hl 2 rfl) ?_
      refine zb_if_lt (x := ((j : Nat) : Int)) (tgt := 24) hx hb dX0_standsAhead_13 (by decide) ⟨by omega, by omega⟩ (fun c_13 => ?_) (fun c_13 => ?_)
      · exfalso; omega
      · refine lv_iload_n hx hb dX0_standsAhead_16 rfl (lv_at hl 2 rfl) ?_
        refine lv_aload_n hx hb dX0_standsAhead_17 rfl (lv_at hl 0 rfl) ?_
        refine va_get (D := D) (ci := 0) (v := .int (iZ ((k : Nat) : Int))) (C := RX0) (T := TX0) (N := 3) hx hb hts hh_1 hown hK hP 0 rfl rfl 2 (by decide) hh_0 (fun _ h9 => h9) rfl dX0_standsAhead_18 ?_
        refine zb_icmp_lt (x := ((j : Nat) : Int)) (y := ((k : Nat) : Int)) (tgt := 26) hx hb dX0_standsAhead_21 (by decide) ⟨by omega, by omega⟩ ⟨by omega, by omega⟩ (fun c_21 => ?_) (fun c_21 => ?_)
        · refine lv_aload_n hx hb dX0_standsAhead_26 rfl (lv_at hl 0 rfl) ?_
          refine va_get (D := D) (ci := 0) (v := .ref ua) (C := RX0) (T := TX0) (N := 3) hx hb hts hh_1 hown hK hP 0 rfl rfl 0 (by decide) hh_2 (fun _ h9 => h9) rfl dX0_standsAhead_27 ?_
          refine lv_iload_n hx hb dX0_standsAhead_30 rfl (lv_at hl 1 rfl) ?_
          refine za_iald hx hb hK hP 1 0 rfl rfl (i) (v := ((U i : Nat) : Int)) (by decide) rfl (by omega) (rfl) dX0_standsAhead_31 ?_
          refine z_i2l (z := ((U i : Nat) : Int)) hx hb dX0_standsAhead_32 ⟨by omega, by omega⟩ rfl ?_
          refine lv_aload_n hx hb dX0_standsAhead_33 rfl (lv_at hl 0 rfl) ?_
          refine va_get (D := D) (ci := 0) (v := .ref va) (C := RX0) (T := TX0) (N := 3) hx hb hts hh_1 hown hK hP 0 rfl rfl 1 (by decide) hh_3 (fun _ h9 => h9) rfl dX0_standsAhead_34 ?_
          refine lv_iload_n hx hb dX0_standsAhead_37 rfl (lv_at hl 2 rfl) ?_
          refine za_iald hx hb hK hP 2 0 rfl rfl (j) (v := ((V j : Nat) : Int)) (by decide) rfl (by omega) (rfl) dX0_standsAhead_38 ?_
          refine z_i2l (z := ((V j : Nat) : Int)) hx hb dX0_standsAhead_39 ⟨by omega, by omega⟩ rfl ?_
          refine zl_mul (z := (((U i) * (V j) : Nat) : Int)) hx hb dX0_standsAhead_40 (Int.natCast_mul _ _).symm ?_
          refine lv_lstore_n (lv' := [(3, .long (lZ (((U i) * (V j) : Nat) : Int))), (0, .ref h0), (1, .int (iZ ((i : Nat) : Int))), (2, .int (iZ ((j : Nat) : Int)))]) hx hb dX0_standsAhead_41 rfl hl (by decide) rfl (fun ls hl => ?_)
          refine lv_aload_n hx hb dX0_standsAhead_42 rfl (lv_at hl 1 rfl) ?_
          refine va_get (D := D) (ci := 0) (v := .ref ua) (C := RX0) (T := TX0) (N := 3) hx hb hts hh_1 hown hK hP 0 rfl rfl 0 (by decide) hh_2 (fun _ h9 => h9) rfl dX0_standsAhead_43 ?_
          refine lv_iload_n hx hb dX0_standsAhead_46 rfl (lv_at hl 3 rfl) ?_
          refine za_iald hx hb hK hP 1 0 rfl rfl (j) (v := ((U j : Nat) : Int)) (by decide) rfl (by omega) (rfl) dX0_standsAhead_47 ?_
          refine z_i2l (z := ((U j : Nat) : Int)) hx hb dX0_standsAhead_48 ⟨by omega, by omega⟩ rfl ?_
          refine lv_aload_n hx hb dX0_standsAhead_49 rfl (lv_at hl 1 rfl) ?_
          refine va_get (D := D) (ci := 0) (v := .ref va) (C := RX0) (T := TX0) (N := 3) hx hb hts hh_1 hown hK hP 0 rfl rfl 1 (by decide) hh_3 (fun _ h9 => h9) rfl dX0_standsAhead_50 ?_
          refine lv_iload_n hx hb dX0_standsAhead_53 rfl (lv_at hl 2 rfl) ?_
          refine za_iald hx hb hK hP 2 0 rfl rfl (i) (v := ((V i : Nat) : Int)) (by decide) rfl (by omega) (rfl) dX0_standsAhead_54 ?_
          refine z_i2l (z := ((V i : Nat) : Int)) hx hb dX0_standsAhead_55 ⟨by omega, by omega⟩ rfl ?_
          refine zl_mul (z := (((U j) * (V i) : Nat) : Int)) hx hb dX0_standsAhead_56 (Int.natCast_mul _ _).symm ?_
          refine lv_lstore (lv' := [(5, .long (lZ (((U j) * (V i) : Nat) : Int))), (3, .long (lZ (((U i) * (V j) : Nat) : Int))), (0, .ref h0), (1, .int (iZ ((i : Nat) : Int))), (2, .int (iZ ((j : Nat) : Int)))]) hx hb dX0_standsAhead_57 hl (by decide) rfl (fun ls hl => ?_)
          refine lv_lload_n hx hb dX0_standsAhead_59 rfl (lv_at hl 1 rfl) ?_
          refine lv_lload hx hb dX0_standsAhead_60 (lv_at hl 0 rfl) ?_
          refine zb_l_lt (x := (((U i) * (V j) : Nat) : Int)) (y := (((U j) * (V i) : Nat) : Int)) (tgt := 78) hx hb dX0_standsAhead_62 dX0_standsAhead_63 (by decide) ⟨by omega, by omega⟩ ⟨by omega, by omega⟩ (fun c_62 => ?_) (fun c_62 => ?_)
          · refine zc_iconst (z := ((1 : Nat) : Int)) hx hb dX0_standsAhead_78 (by decide) ?_
            refine lv_goto (tgt := 83) hx hb dX0_standsAhead_79 (by decide) ?_
            exact hret _ (()) _ _ _ _ _ _ (Nat.le_of_ble_eq_true rfl) (Nat.le_of_ble_eq_true rfl) rfl dX0_standsAhead_83 (bres_t (by unfold ahd; rw [decide_eq_true_eq]; omega)) hP hD hS
          · refine lv_lload_n hx hb dX0_standsAhead_66 rfl (lv_at hl 1 rfl) ?_
            refine lv_lload hx hb dX0_standsAhead_67 (lv_at hl 0 rfl) ?_
            refine zb_l_ne (x := (((U i) * (V j) : Nat) : Int)) (y := (((U j) * (V i) : Nat) : Int)) (tgt := 82) hx hb dX0_standsAhead_69 dX0_standsAhead_70 (by decide) ⟨by omega, by omega⟩ ⟨by omega, by omega⟩ (fun c_69 => ?_) (fun c_69 => ?_)
            · refine zc_iconst (z := ((0 : Nat) : Int)) hx hb dX0_standsAhead_82 (by decide) ?_
              exact hret _ (()) _ _ _ _ _ _ (Nat.le_of_ble_eq_true rfl) (Nat.le_of_ble_eq_true rfl) rfl dX0_standsAhead_83 (bres_f (by unfold ahd; rw [decide_eq_true_eq]; omega)) hP hD hS
            · refine lv_iload_n hx hb dX0_standsAhead_73 rfl (lv_at hl 3 rfl) ?_
              refine lv_iload_n hx hb dX0_standsAhead_74 rfl (lv_at hl 4 rfl) ?_
              refine zb_icmp_ge (x := ((i : Nat) : Int)) (y := ((j : Nat) : Int)) (tgt := 82) hx hb dX0_standsAhead_75 (by decide) ⟨by omega, by omega⟩ ⟨by omega, by omega⟩ (fun c_75 => ?_) (fun c_75 => ?_)
              · refine zc_iconst (z := ((0 : Nat) : Int)) hx hb dX0_standsAhead_82 (by decide) ?_
                exact hret _ (()) _ _ _ _ _ _ (Nat.le_of_ble_eq_true rfl) (Nat.le_of_ble_eq_true rfl) rfl dX0_standsAhead_83 (bres_f (by unfold ahd; rw [decide_eq_true_eq]; omega)) hP hD hS
              · refine zc_iconst (z := ((1 : Nat) : Int)) hx hb dX0_standsAhead_78 (by decide) ?_
                refine lv_goto (tgt := 83) hx hb dX0_standsAhead_79 (by decide) ?_
                exact hret _ (()) _ _ _ _ _ _ (Nat.le_of_ble_eq_true rfl) (Nat.le_of_ble_eq_true rfl) rfl dX0_standsAhead_83 (bres_t (by unfold ahd; rw [decide_eq_true_eq]; omega)) hP hD hS
        · exfalso; omega
def rmX0_placeOf : Room := { frames := 1, cells := 0, slots := 0, locals := 26 }
set_option maxHeartbeats 4000000 in
set_option maxRecDepth 100000 in
theorem c_X0_placeOf (l : Launch) (D : va_G) (cI cJ : ClassId) (h0 ua va : Nat) (k : Nat) (U V : Nat → Nat) (hc : cok k U V) (j : Nat) (hj : j < k) : Ci l D vwCl (tyT cI cJ) yX0_placeOf wsX0_placeOf rmX0_placeOf [.ref h0, .int (iZ ((j : Nat) : Int))] [(h0, .inr (0, [.ref ua, .ref va, .int (iZ ((k : Nat) : Int))])), (ua, .inl (cI, 10, .inl (LI U))), (va, .inl (cI, 10, .inl (LI V)))] (Unit) (fun r _ => r = iZ ((plc k U V j : Nat) : Int)) (fun _ => [(h0, .inr (0, [.ref ua, .ref va, .int (iZ ((k : Nat) : Int))])), (ua, .inl (cI, 10, .inl (LI U))), (va, .inl (cI, 10, .inl (LI V)))]) := by
  have hk0 := hc.1
  refine en_i (cc := cX0_placeOf) (maxL := 4) (by decide) rfl [(0, .ref h0), (1, .int (iZ ((j : Nat) : Int)))] (Nat.le_of_ble_eq_true rfl) rfl ?_
  intro p e s m args below meth c Q A hx hb hml hown hts hnm hK hP hD hA hS hret ls hl
  have hh_0 := hts (.fieldLink RX0 16 "BoundDraws$Compares" "used" "I") (by decide +kernel)
  have hh_1 := (show ∀ w ∈ wsX00, w ∈ wsX0_placeOf by decide +kernel)
  refine zc_iconst (z := ((1 : Nat) : Int)) hx hb dX0_placeOf_0 (by decide) ?_
  refine tp_i (y := (iZ ((1 + cnt (fun x => ahd U V x j) 0 : Nat) : Int))) (rfl) ?_
  refine lv_istore_n (lv' := [(2, .int (iZ ((1 + cnt (fun x => ahd U V x j) 0 : Nat) : Int))), (0, .ref h0), (1, .int (iZ ((j : Nat) : Int)))]) hx hb dX0_placeOf_1 rfl hl (by decide) rfl (fun ls hl => ?_)
  refine zc_iconst (z := ((0 : Nat) : Int)) hx hb dX0_placeOf_2 (by decide) ?_
  refine lv_istore_n (lv' := [(3, .int (iZ ((0 : Nat) : Int))), (2, .int (iZ ((1 + cnt (fun x => ahd U V x j) 0 : Nat) : Int))), (0, .ref h0), (1, .int (iZ ((j : Nat) : Int)))]) hx hb dX0_placeOf_3 rfl hl (by decide) rfl (fun ls hl => ?_)
  have pt_4 : ∀ f : Nat, ∀ (i : Nat), (hi : i ≤ k) → (hf : k < i + f) → (H : Heap) → (locs : List Loc) → va_P D vwCl [(h0, .inr (0, [.ref ua, .ref va, .int (iZ ((k : Nat) : Int))])), (ua, .inl (cI, 10, .inl (LI U))), (va, .inl (cI, 10, .inl (LI V)))] H → va_D A [(h0, .inr (0, [.ref ua, .ref va, .int (iZ ((k : Nat) : Int))])), (ua, .inl (cI, 10, .inl (LI U))), (va, .inl (cI, 10, .inl (LI V)))] → va_S A s.heap H locs → (ls : Array Slot) → lv_has ls 4 [(3, .int (iZ ((i : Nat) : Int))), (2, .int (iZ ((1 + cnt (fun x => ahd U V x j) i : Nat) : Int))), (0, .ref h0), (1, .int (iZ ((j : Nat) : Int)))] → W p l e rmX0_placeOf s m args below meth c H locs 0 0 Q (F0 m 4 ls []) := by
    intro f
    induction f with
    | zero =>
      intro i hi hf H locs hP hD hS ls hl
      exfalso; omega
    | succ f ih =>
      intro i hi hf H locs hP hD hS ls hl
      refine lv_iload_n hx hb dX0_placeOf_4 rfl (lv_at hl 0 rfl) ?_
      refine lv_aload_n hx hb dX0_placeOf_5 rfl (lv_at hl 2 rfl) ?_
      refine va_get (D := D) (ci := 0) (v := .int (iZ ((k : Nat) : Int))) (C := RX0) (T := TX0) (N := 3) hx hb hts hh_1 hown hK hP 0 rfl rfl 2 (by decide) hh_0 (fun _ h9 => h9) rfl dX0_placeOf_6 ?_
      refine zb_icmp_ge (x := ((i : Nat) : Int)) (y := ((k : Nat) : Int)) (tgt := 30) hx hb dX0_placeOf_9 (by decide) ⟨by omega, by omega⟩ ⟨by omega, by omega⟩ (fun c_9 => ?_) (fun c_9 => ?_)
      · refine lv_iload_n hx hb dX0_placeOf_30 rfl (lv_at hl 1 rfl) ?_
        exact hret _ (()) _ _ _ _ _ _ (Nat.le_of_ble_eq_true rfl) (Nat.le_of_ble_eq_true rfl) rfl dX0_placeOf_31 (by have e9 : i = k := (by omega); rw [e9]; rfl) hP hD hS
      · have pt_24 : (H : Heap) → (locs : List Loc) → va_P D vwCl [(h0, .inr (0, [.ref ua, .ref va, .int (iZ ((k : Nat) : Int))])), (ua, .inl (cI, 10, .inl (LI U))), (va, .inl (cI, 10, .inl (LI V)))] H → va_D A [(h0, .inr (0, [.ref ua, .ref va, .int (iZ ((k : Nat) : Int))])), (ua, .inl (cI, 10, .inl (LI U))), (va, .inl (cI, 10, .inl (LI V)))] → va_S A s.heap H locs → (ls : Array Slot) → lv_has ls 4 [(3, .int (iZ ((i : Nat) : Int))), (2, .int (iZ ((1 + cnt (fun x => ahd U V x j) (i + 1) : Nat) : Int))), (0, .ref h0), (1, .int (iZ ((j : Nat) : Int)))] → W p l e rmX0_placeOf s m args below meth c H locs 0 0 Q (F0 m 24 ls []) := by
          intro   H locs hP hD hS ls hl
          refine lv_iinc (v := iZ ((i + 1 : Nat) : Int)) (lv' := [(3, .int (iZ ((i + 1 : Nat) : Int))), (2, .int (iZ ((1 + cnt (fun x => ahd U V x j) (i + 1) : Nat) : Int))), (0, .ref h0), (1, .int (iZ ((j : Nat) : Int)))]) hx hb dX0_placeOf_24 hl (k := 0) rfl (zi_inc (by omega)) (by decide) rfl (fun ls hl => ?_)
          refine lv_goto (tgt := 4) hx hb dX0_placeOf_27 (by decide) ?_
          exact ih (i + 1) (by omega) (by omega) _ _ hP hD hS ls (lv_sub hl [0, 1, 2, 3] rfl)
        refine lv_aload_n hx hb dX0_placeOf_12 rfl (lv_at hl 2 rfl) ?_
        refine lv_iload_n hx hb dX0_placeOf_13 rfl (lv_at hl 0 rfl) ?_
        refine lv_iload_n hx hb dX0_placeOf_14 rfl (lv_at hl 3 rfl) ?_
        refine ca_iV [.int (iZ ((i : Nat) : Int)), .int (iZ ((j : Nat) : Int))] [] [] 0 0 ⟨hx, hb, hml, hown, hts⟩ (c_X0_standsAhead l D cI cJ h0 ua va k U V hc i j (by omega) hj) (cwV 2 hts gX0_placeOf_X0_standsAhead rfl rfl rfl (by decide +kernel) ⟨(Nat.le_of_ble_eq_true rfl), (Nat.le_of_ble_eq_true rfl)⟩) hK hP hD hS hA [0, 1, 2] [] rfl rfl rfl rfl (by decide) 0 rfl rfl rfl hl.1 rfl (Nat.le_of_ble_eq_true rfl) dX0_placeOf_15 ⟨(Nat.le_of_ble_eq_true rfl), (Nat.le_of_ble_eq_true rfl)⟩ (Nat.le_of_ble_eq_true rfl) (Nat.le_of_ble_eq_true rfl) (fun r_15 u9 H locs hw hP hD hS => ?_)
        obtain u9 := u9
        try dsimp only at hw
        obtain ⟨b1, hb1, hb2, hb3⟩ := hw
        have hP : va_P D vwCl [(h0, .inr (0, [.ref ua, .ref va, .int (iZ ((k : Nat) : Int))])), (ua, .inl (cI, 10, .inl (LI U))), (va, .inl (cI, 10, .inl (LI V)))] H := hP
        have hD : va_D A [(h0, .inr (0, [.ref ua, .ref va, .int (iZ ((k : Nat) : Int))])), (ua, .inl (cI, 10, .inl (LI U))), (va, .inl (cI, 10, .inl (LI V)))] := hD
        refine tp_i (y := (iZ (b1))) (hb1) ?_
        refine zb_if_eq (x := (b1)) (tgt := 24) hx hb dX0_placeOf_18 (by decide) ⟨by omega, by omega⟩ (fun c_18 => ?_) (fun c_18 => ?_)
        · have e9 : cnt (fun x => ahd U V x j) (i + 1) = cnt (fun x => ahd U V x j) i := cnt_f (by show ahd U V i j = false; rw [← Bool.not_eq_true]; exact fun h9 => by have := hb3.mpr h9; omega)
          rw [← e9] at hl
          exact pt_24   _ _ hP hD hS ls (lv_sub hl [0, 1, 2, 3] rfl)
        · refine lv_iinc (v := iZ ((1 + cnt (fun x => ahd U V x j) (i + 1) : Nat) : Int)) (lv' := [(2, .int (iZ ((1 + cnt (fun x => ahd U V x j) (i + 1) : Nat) : Int))), (3, .int (iZ ((i : Nat) : Int))), (0, .ref h0), (1, .int (iZ ((j : Nat) : Int)))]) hx hb dX0_placeOf_21 hl (k := 1) rfl (zi_inc (by have e9 : cnt (fun x => ahd U V x j) (i + 1) = cnt (fun x => ahd U V x j) i + 1 := cnt_t (hb3.mp (by omega)); omega)) (by decide) rfl (fun ls hl => ?_)
          exact pt_24   _ _ hP hD hS ls (lv_sub hl [1, 0, 2, 3] rfl)
  exact pt_4 (k + 1) 0 (by omega) (by omega) _ _ hP hD hS ls (lv_sub hl [0, 1, 2, 3] rfl)
def rmX0_raiseByGreatest : Room := { frames := 2, cells := 0, slots := 0, locals := 56 }
set_option maxHeartbeats 4000000 in
set_option maxRecDepth 100000 in
theorem c_X0_raiseByGreatest (l : Launch) (D : va_G) (cI cJ : ClassId) (h0 ua va : Nat) (k : Nat) (U V : Nat → Nat) (hc : cok k U V) (hq : Nat) (p0 q0 : Int) (q : Nat) (hq0 : q ≤ 11) : Cv l D vwCl (tyT cI cJ) yX0_raiseByGreatest wsX0_raiseByGreatest rmX0_raiseByGreatest [.ref h0, .int (iZ ((q : Nat) : Int)), .ref hq] [(h0, .inr (0, [.ref ua, .ref va, .int (iZ ((k : Nat) : Int))])), (ua, .inl (cI, 10, .inl (LI U))), (va, .inl (cI, 10, .inl (LI V))), (hq, .inr (3, [.long (lZ (p0)), .long (lZ (q0))]))] (Nat × Nat) (fun r => rgr k U V q k = r) (fun r => [(h0, .inr (0, [.ref ua, .ref va, .int (iZ ((k : Nat) : Int))])), (ua, .inl (cI, 10, .inl (LI U))), (va, .inl (cI, 10, .inl (LI V))), (hq, .inr (3, [.long (lZ (redU ((r.1 : Nat) : Int) r.2)), .long (lZ ((redL ((r.1 : Nat) : Int) r.2 : Nat) : Int))]))]) := by
  have hk0 := hc.1
  refine en_v (cc := cX0_raiseByGreatest) (maxL := 7) (by decide) rfl [(0, .ref h0), (1, .int (iZ ((q : Nat) : Int))), (2, .ref hq)] (Nat.le_of_ble_eq_true rfl) rfl ?_
  intro p e s m args below meth c Q A hx hb hml hown hts hnm hK hP hD hA hS hret ls hl
  have hh_0 := hts (.fieldLink RX0 16 "BoundDraws$Compares" "used" "I") (by decide +kernel)
  have hh_1 := (show ∀ w ∈ wsX00, w ∈ wsX0_raiseByGreatest by decide +kernel)
  have hh_2 := hts (.fieldLink RX0 9 "BoundDraws$Compares" "ups" "[I") (by decide +kernel)
  have hh_3 := hts (.fieldLink RX0 13 "BoundDraws$Compares" "downs" "[I") (by decide +kernel)
  refine lv_aload_n hx hb dX0_raiseByGreatest_0 rfl (lv_at hl 2 rfl) ?_
  refine zc_lconst (z := ((0 : Nat) : Int)) hx hb dX0_raiseByGreatest_1 (by decide) ?_
  refine zc_lconst (z := ((1 : Nat) : Int)) hx hb dX0_raiseByGreatest_2 (by decide) ?_
  refine ca_vV [.long (lZ ((0 : Nat) : Int)), .long (lZ ((1 : Nat) : Int))] [] [(h0, .inr (0, [.ref ua, .ref va, .int (iZ ((k : Nat) : Int))])), (ua, .inl (cI, 10, .inl (LI U))), (va, .inl (cI, 10, .inl (LI V)))] 0 0 ⟨hx, hb, hml, hown, hts⟩ (c_X4_become l D cI cJ hq p0 q0 ((0 : Nat) : Int) 1 (by decide) (by decide) (by decide) (by decide)) (cwV 2 hts gX0_raiseByGreatest_X4_become rfl rfl rfl (by decide +kernel) ⟨(Nat.le_of_ble_eq_true rfl), (Nat.le_of_ble_eq_true rfl)⟩) hK hP hD hS hA [3] [0, 1, 2] rfl rfl rfl rfl (by decide) 0 rfl rfl rfl hl.1 rfl (Nat.le_of_ble_eq_true rfl) dX0_raiseByGreatest_3 ⟨(Nat.le_of_ble_eq_true rfl), (Nat.le_of_ble_eq_true rfl)⟩ (Nat.le_of_ble_eq_true rfl) (Nat.le_of_ble_eq_true rfl) (fun u9 H locs hw hP hD hS => ?_)
  obtain u9 := u9
  try dsimp only at hw
  have hP : va_P D vwCl [(h0, .inr (0, [.ref ua, .ref va, .int (iZ ((k : Nat) : Int))])), (ua, .inl (cI, 10, .inl (LI U))), (va, .inl (cI, 10, .inl (LI V))), (hq, .inr (3, [.long (lZ (redU ((0 : Nat) : Int) 1)), .long (lZ ((redL ((0 : Nat) : Int) 1 : Nat) : Int))]))] H := hP
  have hD : va_D A [(h0, .inr (0, [.ref ua, .ref va, .int (iZ ((k : Nat) : Int))])), (ua, .inl (cI, 10, .inl (LI U))), (va, .inl (cI, 10, .inl (LI V))), (hq, .inr (3, [.long (lZ (redU ((0 : Nat) : Int) 1)), .long (lZ ((redL ((0 : Nat) : Int) 1 : Nat) : Int))]))] := hD
  refine zc_iconst (z := ((0 : Nat) : Int)) hx hb dX0_raiseByGreatest_6 (by decide) ?_
  refine lv_istore_n (lv' := [(3, .int (iZ ((0 : Nat) : Int))), (0, .ref h0), (1, .int (iZ ((q : Nat) : Int))), (2, .ref hq)]) hx hb dX0_raiseByGreatest_7 rfl hl (by decide) rfl (fun ls hl => ?_)
  have pt_8 : ∀ f : Nat, ∀ (i x y : Nat), (hi : i ≤ k) → (hxy : rgr k U V q i = (x, y)) → (hf : k < i + f) → (H : Heap) → (locs : List Loc) → va_P D vwCl [(h0, .inr (0, [.ref ua, .ref va, .int (iZ ((k : Nat) : Int))])), (ua, .inl (cI, 10, .inl (LI U))), (va, .inl (cI, 10, .inl (LI V))), (hq, .inr (3, [.long (lZ (redU ((x : Nat) : Int) y)), .long (lZ ((redL ((x : Nat) : Int) y : Nat) : Int))]))] H → va_D A [(h0, .inr (0, [.ref ua, .ref va, .int (iZ ((k : Nat) : Int))])), (ua, .inl (cI, 10, .inl (LI U))), (va, .inl (cI, 10, .inl (LI V))), (hq, .inr (3, [.long (lZ (redU ((x : Nat) : Int) y)), .long (lZ ((redL ((x : Nat) : Int) y : Nat) : Int))]))] → va_S A s.heap H locs → (ls : Array Slot) → lv_has ls 7 [(3, .int (iZ ((i : Nat) : Int))), (0, .ref h0), (1, .int (iZ ((q : Nat) : Int))), (2, .ref hq)] → W p l e rmX0_raiseByGreatest s m args below meth c H locs 0 0 Q (F0 m 8 ls []) := by
    intro f
    induction f with
    | zero =>
      intro i x y hi hxy hf H locs hP hD hS ls hl
      exfalso; omega
    | succ f ih =>
      intro i x y hi hxy hf H locs hP hD hS ls hl
      refine lv_iload_n hx hb dX0_raiseByGreatest_8 rfl (lv_at hl 0 rfl) ?_
      refine lv_aload_n hx hb dX0_raiseByGreatest_9 rfl (lv_at hl 1 rfl) ?_
      refine va_get (D := D) (ci := 0) (v := .int (iZ ((k : Nat) : Int))) (C := RX0) (T := TX0) (N := 3) hx hb hts hh_1 hown hK hP 0 rfl rfl 2 (by decide) hh_0 (fun _ h9 => h9) rfl dX0_raiseByGreatest_10 ?_
      refine zb_icmp_ge (x := ((i : Nat) : Int)) (y := ((k : Nat) : Int)) (tgt := 84) hx hb dX0_raiseByGreatest_13 (by decide) ⟨by omega, by omega⟩ ⟨by omega, by omega⟩ (fun c_13 => ?_) (fun c_13 => ?_)
      · exact hret (x, y) _ _ _ _ _ _ (Nat.le_of_ble_eq_true rfl) (Nat.le_of_ble_eq_true rfl) dX0_raiseByGreatest_84 (by have e9 : i = k := (by omega); rw [e9] at hxy; exact hxy) hP hD hS
      · have pt_78 : ∀ (x y : Nat), (hxy : rgr k U V q (i + 1) = (x, y)) → (H : Heap) → (locs : List Loc) → va_P D vwCl [(h0, .inr (0, [.ref ua, .ref va, .int (iZ ((k : Nat) : Int))])), (ua, .inl (cI, 10, .inl (LI U))), (va, .inl (cI, 10, .inl (LI V))), (hq, .inr (3, [.long (lZ (redU ((x : Nat) : Int) y)), .long (lZ ((redL ((x : Nat) : Int) y : Nat) : Int))]))] H → va_D A [(h0, .inr (0, [.ref ua, .ref va, .int (iZ ((k : Nat) : Int))])), (ua, .inl (cI, 10, .inl (LI U))), (va, .inl (cI, 10, .inl (LI V))), (hq, .inr (3, [.long (lZ (redU ((x : Nat) : Int) y)), .long (lZ ((redL ((x : Nat) : Int) y : Nat) : Int))]))] → va_S A s.heap H locs → (ls : Array Slot) → lv_has ls 7 [(3, .int (iZ ((i : Nat) : Int))), (0, .ref h0), (1, .int (iZ ((q : Nat) : Int))), (2, .ref hq)] → W p l e rmX0_raiseByGreatest s m args below meth c H locs 0 0 Q (F0 m 78 ls []) := by
          intro x y hxy H locs hP hD hS ls hl
          refine lv_iinc (v := iZ ((i + 1 : Nat) : Int)) (lv' := [(3, .int (iZ ((i + 1 : Nat) : Int))), (0, .ref h0), (1, .int (iZ ((q : Nat) : Int))), (2, .ref hq)]) hx hb dX0_raiseByGreatest_78 hl (k := 0) rfl (zi_inc (by omega)) (by decide) rfl (fun ls hl => ?_)
          refine lv_goto (tgt := 8) hx hb dX0_raiseByGreatest_81 (by decide) ?_
          exact ih (i + 1) x y (by omega) hxy (by omega) _ _ hP hD hS ls (lv_sub hl [0, 1, 2, 3] rfl)
        have hbd := rgr_b hc q i (by omega)
        rw [hxy] at hbd
        obtain ⟨b1, b2, b3⟩ := hbd
        have b1 : x ≤ 1100000 := b1
        have b2 : 1 ≤ y := b2
        have b3 : y ≤ 1100000 := b3
        have hgb := gr_b hc (show i < k by omega)
        have hci := hc.2 i (by omega)
        have hpl := plc_le k U V i
        have hp1 := plc_1 k U V i
        have hru := redU_b (u := ((x : Nat) : Int)) (d := y) (B := 1100000) (by omega) (by omega) (by omega)
        have hrl := redL_le (u := ((x : Nat) : Int)) (d := y)
        refine lv_aload_n hx hb dX0_raiseByGreatest_16 rfl (lv_at hl 1 rfl) ?_
        refine lv_iload_n hx hb dX0_raiseByGreatest_17 rfl (lv_at hl 0 rfl) ?_
        refine ca_iV [.int (iZ ((i : Nat) : Int))] [] [(hq, .inr (3, [.long (lZ (redU ((x : Nat) : Int) y)), .long (lZ ((redL ((x : Nat) : Int) y : Nat) : Int))]))] 0 0 ⟨hx, hb, hml, hown, hts⟩ (c_X0_placeOf l D cI cJ h0 ua va k U V hc i (by omega)) (cwV 1 hts gX0_raiseByGreatest_X0_placeOf rfl rfl rfl (by decide +kernel) ⟨(Nat.le_of_ble_eq_true rfl), (Nat.le_of_ble_eq_true rfl)⟩) hK hP hD hS hA [0, 1, 2] [3] rfl rfl rfl rfl (by decide) 0 rfl rfl rfl hl.1 rfl (Nat.le_of_ble_eq_true rfl) dX0_raiseByGreatest_18 ⟨(Nat.le_of_ble_eq_true rfl), (Nat.le_of_ble_eq_true rfl)⟩ (Nat.le_of_ble_eq_true rfl) (Nat.le_of_ble_eq_true rfl) (fun r_18 u9 H locs hw hP hD hS => ?_)
        obtain u9 := u9
        try dsimp only at hw
        have hP : va_P D vwCl [(hq, .inr (3, [.long (lZ (redU ((x : Nat) : Int) y)), .long (lZ ((redL ((x : Nat) : Int) y : Nat) : Int))])), (h0, .inr (0, [.ref ua, .ref va, .int (iZ ((k : Nat) : Int))])), (ua, .inl (cI, 10, .inl (LI U))), (va, .inl (cI, 10, .inl (LI V)))] H := hP
        have hD : va_D A [(hq, .inr (3, [.long (lZ (redU ((x : Nat) : Int) y)), .long (lZ ((redL ((x : Nat) : Int) y : Nat) : Int))])), (h0, .inr (0, [.ref ua, .ref va, .int (iZ ((k : Nat) : Int))])), (ua, .inl (cI, 10, .inl (LI U))), (va, .inl (cI, 10, .inl (LI V)))] := hD
        refine tp_i (y := (iZ ((plc k U V i : Nat) : Int))) (hw) ?_
        refine lv_istore (lv' := [(4, .int (iZ ((plc k U V i : Nat) : Int))), (3, .int (iZ ((i : Nat) : Int))), (0, .ref h0), (1, .int (iZ ((q : Nat) : Int))), (2, .ref hq)]) hx hb dX0_raiseByGreatest_21 hl (by decide) rfl (fun ls hl => ?_)
        refine lv_aload_n hx hb dX0_raiseByGreatest_23 rfl (lv_at hl 2 rfl) ?_
        refine va_get (D := D) (ci := 0) (v := .int (iZ ((k : Nat) : Int))) (C := RX0) (T := TX0) (N := 3) hx hb hts hh_1 hown hK hP 1 rfl rfl 2 (by decide) hh_0 (fun _ h9 => h9) rfl dX0_raiseByGreatest_24 ?_
        refine zc_iconst (z := ((1 : Nat) : Int)) hx hb dX0_raiseByGreatest_27 (by decide) ?_
        refine zi_add (z := ((k + 1 : Nat) : Int)) hx hb dX0_raiseByGreatest_28 (by omega) ?_
        refine lv_iload hx hb dX0_raiseByGreatest_29 (lv_at hl 0 rfl) ?_
        refine zi_sub (z := ((k + 1 - plc k U V i : Nat) : Int)) hx hb dX0_raiseByGreatest_31 (by omega) ?_
        refine z_i2l (z := ((k + 1 - plc k U V i : Nat) : Int)) hx hb dX0_raiseByGreatest_32 ⟨by omega, by omega⟩ rfl ?_
        refine lv_aload_n hx hb dX0_raiseByGreatest_33 rfl (lv_at hl 2 rfl) ?_
        refine va_get (D := D) (ci := 0) (v := .ref ua) (C := RX0) (T := TX0) (N := 3) hx hb hts hh_1 hown hK hP 1 rfl rfl 0 (by decide) hh_2 (fun _ h9 => h9) rfl dX0_raiseByGreatest_34 ?_
        refine lv_iload_n hx hb dX0_raiseByGreatest_37 rfl (lv_at hl 1 rfl) ?_
        refine za_iald hx hb hK hP 2 0 rfl rfl (i) (v := ((U i : Nat) : Int)) (by decide) rfl (by omega) (rfl) dX0_raiseByGreatest_38 ?_
        refine z_i2l (z := ((U i : Nat) : Int)) hx hb dX0_raiseByGreatest_39 ⟨by omega, by omega⟩ rfl ?_
        refine zl_mul (z := (((k + 1 - plc k U V i) * (U i) : Nat) : Int)) hx hb dX0_raiseByGreatest_40 (Int.natCast_mul _ _).symm ?_
        refine lv_lstore (lv' := [(5, .long (lZ (((k + 1 - plc k U V i) * (U i) : Nat) : Int))), (4, .int (iZ ((plc k U V i : Nat) : Int))), (3, .int (iZ ((i : Nat) : Int))), (0, .ref h0), (1, .int (iZ ((q : Nat) : Int))), (2, .ref hq)]) hx hb dX0_raiseByGreatest_41 hl (by decide) rfl (fun ls hl => ?_)
        refine lv_iload hx hb dX0_raiseByGreatest_43 (lv_at hl 1 rfl) ?_
        refine lv_iload_n hx hb dX0_raiseByGreatest_45 rfl (lv_at hl 4 rfl) ?_
        refine zb_icmp_gt (x := ((plc k U V i : Nat) : Int)) (y := ((q : Nat) : Int)) (tgt := 78) hx hb dX0_raiseByGreatest_46 (by decide) ⟨by omega, by omega⟩ ⟨by omega, by omega⟩ (fun c_46 => ?_) (fun c_46 => ?_)
        · exact pt_78 x y (by rw [rgr, if_neg (by omega), hxy]) _ _ (hP.sub [1, 2, 3, 0] rfl) (hD.sub [1, 2, 3, 0] rfl rfl) hS ls (lv_sub hl [2, 3, 4, 5] rfl)
        · refine lv_aload_n hx hb dX0_raiseByGreatest_49 rfl (lv_at hl 5 rfl) ?_
          refine lv_lload hx hb dX0_raiseByGreatest_50 (lv_at hl 0 rfl) ?_
          refine lv_aload_n hx hb dX0_raiseByGreatest_52 rfl (lv_at hl 3 rfl) ?_
          refine va_get (D := D) (ci := 0) (v := .ref va) (C := RX0) (T := TX0) (N := 3) hx hb hts hh_1 hown hK hP 1 rfl rfl 1 (by decide) hh_3 (fun _ h9 => h9) rfl dX0_raiseByGreatest_53 ?_
          refine lv_iload_n hx hb dX0_raiseByGreatest_56 rfl (lv_at hl 2 rfl) ?_
          refine za_iald hx hb hK hP 3 0 rfl rfl (i) (v := ((V i : Nat) : Int)) (by decide) rfl (by omega) (rfl) dX0_raiseByGreatest_57 ?_
          refine z_i2l (z := ((V i : Nat) : Int)) hx hb dX0_raiseByGreatest_58 ⟨by omega, by omega⟩ rfl ?_
          refine ca_iV [.long (lZ (((k + 1 - plc k U V i) * (U i) : Nat) : Int)), .long (lZ ((V i : Nat) : Int))] [] [(h0, .inr (0, [.ref ua, .ref va, .int (iZ ((k : Nat) : Int))])), (ua, .inl (cI, 10, .inl (LI U))), (va, .inl (cI, 10, .inl (LI V)))] 0 0 ⟨hx, hb, hml, hown, hts⟩ (c_X4_isBelow l D cI cJ hq (redU ((x : Nat) : Int) y) ((redL ((x : Nat) : Int) y : Nat) : Int) (((k + 1 - plc k U V i) * U i : Nat) : Int) ((V i : Nat) : Int) (lR_mul (B := 1100000) (by decide) hru.1 hru.2 (by omega) (by omega)) (lR_mul (B := 1100000) (by decide) (by omega) (by omega) (by omega) (by omega))) (cwV 2 hts gX0_raiseByGreatest_X4_isBelow rfl rfl rfl (by decide +kernel) ⟨(Nat.le_of_ble_eq_true rfl), (Nat.le_of_ble_eq_true rfl)⟩) hK hP hD hS hA [0] [1, 2, 3] rfl rfl rfl rfl (by decide) 0 rfl rfl rfl hl.1 rfl (Nat.le_of_ble_eq_true rfl) dX0_raiseByGreatest_59 ⟨(Nat.le_of_ble_eq_true rfl), (Nat.le_of_ble_eq_true rfl)⟩ (Nat.le_of_ble_eq_true rfl) (Nat.le_of_ble_eq_true rfl) (fun r_59 u9 H locs hw hP hD hS => ?_)
          obtain u9 := u9
          try dsimp only at hw
          obtain ⟨b7, hb1, hb2, hb3⟩ := hw
          have hP : va_P D vwCl [(h0, .inr (0, [.ref ua, .ref va, .int (iZ ((k : Nat) : Int))])), (ua, .inl (cI, 10, .inl (LI U))), (va, .inl (cI, 10, .inl (LI V))), (hq, .inr (3, [.long (lZ (redU ((x : Nat) : Int) y)), .long (lZ ((redL ((x : Nat) : Int) y : Nat) : Int))]))] H := hP
          have hD : va_D A [(h0, .inr (0, [.ref ua, .ref va, .int (iZ ((k : Nat) : Int))])), (ua, .inl (cI, 10, .inl (LI U))), (va, .inl (cI, 10, .inl (LI V))), (hq, .inr (3, [.long (lZ (redU ((x : Nat) : Int) y)), .long (lZ ((redL ((x : Nat) : Int) y : Nat) : Int))]))] := hD
          have hbz : b7 = 1 ↔ x * V i < (k + 1 - plc k U V i) * U i * y := by rw [hb3, red_lt (by omega), ← Int.natCast_mul, ← Int.natCast_mul]; omega
          refine tp_i (y := (iZ (b7))) (hb1) ?_
          refine zb_if_eq (x := (b7)) (tgt := 78) hx hb dX0_raiseByGreatest_62 (by decide) ⟨by omega, by omega⟩ (fun c_62 => ?_) (fun c_62 => ?_)
          · exact pt_78 x y (by rw [rgr, hxy, if_neg (fun h9 => by have := hbz.mpr h9.2; omega)]) _ _ hP hD hS ls (lv_sub hl [2, 3, 4, 5] rfl)
          · refine lv_aload_n hx hb dX0_raiseByGreatest_65 rfl (lv_at hl 5 rfl) ?_
            refine lv_lload hx hb dX0_raiseByGreatest_66 (lv_at hl 0 rfl) ?_
            refine lv_aload_n hx hb dX0_raiseByGreatest_68 rfl (lv_at hl 3 rfl) ?_
            refine va_get (D := D) (ci := 0) (v := .ref va) (C := RX0) (T := TX0) (N := 3) hx hb hts hh_1 hown hK hP 0 rfl rfl 1 (by decide) hh_3 (fun _ h9 => h9) rfl dX0_raiseByGreatest_69 ?_
            refine lv_iload_n hx hb dX0_raiseByGreatest_72 rfl (lv_at hl 2 rfl) ?_
            refine za_iald hx hb hK hP 2 0 rfl rfl (i) (v := ((V i : Nat) : Int)) (by decide) rfl (by omega) (rfl) dX0_raiseByGreatest_73 ?_
            refine z_i2l (z := ((V i : Nat) : Int)) hx hb dX0_raiseByGreatest_74 ⟨by omega, by omega⟩ rfl ?_
            refine ca_vV [.long (lZ (((k + 1 - plc k U V i) * (U i) : Nat) : Int)), .long (lZ ((V i : Nat) : Int))] [] [(h0, .inr (0, [.ref ua, .ref va, .int (iZ ((k : Nat) : Int))])), (ua, .inl (cI, 10, .inl (LI U))), (va, .inl (cI, 10, .inl (LI V)))] 0 0 ⟨hx, hb, hml, hown, hts⟩ (c_X4_become l D cI cJ hq _ _ (((k + 1 - plc k U V i) * U i : Nat) : Int) (V i) (by omega) (by omega) (by omega) (by omega)) (cwV 2 hts gX0_raiseByGreatest_X4_become rfl rfl rfl (by decide +kernel) ⟨(Nat.le_of_ble_eq_true rfl), (Nat.le_of_ble_eq_true rfl)⟩) hK hP hD hS hA [3] [0, 1, 2] rfl rfl rfl rfl (by decide) 0 rfl rfl rfl hl.1 rfl (Nat.le_of_ble_eq_true rfl) dX0_raiseByGreatest_75 ⟨(Nat.le_of_ble_eq_true rfl), (Nat.le_of_ble_eq_true rfl)⟩ (Nat.le_of_ble_eq_true rfl) (Nat.le_of_ble_eq_true rfl) (fun u9 H locs hw hP hD hS => ?_)
            obtain u9 := u9
            try dsimp only at hw
            have hP : va_P D vwCl [(h0, .inr (0, [.ref ua, .ref va, .int (iZ ((k : Nat) : Int))])), (ua, .inl (cI, 10, .inl (LI U))), (va, .inl (cI, 10, .inl (LI V))), (hq, .inr (3, [.long (lZ (redU (((k + 1 - plc k U V i) * U i : Nat) : Int) (V i))), .long (lZ ((redL (((k + 1 - plc k U V i) * U i : Nat) : Int) (V i) : Nat) : Int))]))] H := hP
            have hD : va_D A [(h0, .inr (0, [.ref ua, .ref va, .int (iZ ((k : Nat) : Int))])), (ua, .inl (cI, 10, .inl (LI U))), (va, .inl (cI, 10, .inl (LI V))), (hq, .inr (3, [.long (lZ (redU (((k + 1 - plc k U V i) * U i : Nat) : Int) (V i))), .long (lZ ((redL (((k + 1 - plc k U V i) * U i : Nat) : Int) (V i) : Nat) : Int))]))] := hD
            exact pt_78 ((k + 1 - plc k U V i) * U i) (V i) (by rw [rgr, hxy, if_pos ⟨by omega, hbz.mp (by omega)⟩]) _ _ hP hD hS ls (lv_sub hl [2, 3, 4, 5] rfl)
  exact pt_8 (k + 1) 0 0 1 (by omega) rfl (by omega) _ _ hP hD hS ls (lv_sub hl [0, 1, 2, 3] rfl)
def rmX0_raiseByLeast : Room := { frames := 2, cells := 0, slots := 0, locals := 56 }
set_option maxHeartbeats 4000000 in
set_option maxRecDepth 100000 in
theorem c_X0_raiseByLeast (l : Launch) (D : va_G) (cI cJ : ClassId) (h0 ua va : Nat) (k : Nat) (U V : Nat → Nat) (hc : cok k U V) (hq : Nat) (p0 q0 : Int) (q : Nat) (hq0 : q ≤ 11) : Cv l D vwCl (tyT cI cJ) yX0_raiseByLeast wsX0_raiseByLeast rmX0_raiseByLeast [.ref h0, .int (iZ ((q : Nat) : Int)), .ref hq] [(h0, .inr (0, [.ref ua, .ref va, .int (iZ ((k : Nat) : Int))])), (ua, .inl (cI, 10, .inl (LI U))), (va, .inl (cI, 10, .inl (LI V))), (hq, .inr (3, [.long (lZ (p0)), .long (lZ (q0))]))] (Nat × Nat) (fun r => rls k U V q k = r) (fun r => [(h0, .inr (0, [.ref ua, .ref va, .int (iZ ((k : Nat) : Int))])), (ua, .inl (cI, 10, .inl (LI U))), (va, .inl (cI, 10, .inl (LI V))), (hq, .inr (3, [.long (lZ (redU ((r.1 : Nat) : Int) r.2)), .long (lZ ((redL ((r.1 : Nat) : Int) r.2 : Nat) : Int))]))]) := by
  have hk0 := hc.1
  refine en_v (cc := cX0_raiseByLeast) (maxL := 9) (by decide) rfl [(0, .ref h0), (1, .int (iZ ((q : Nat) : Int))), (2, .ref hq)] (Nat.le_of_ble_eq_true rfl) rfl ?_
  intro p e s m args below meth c Q A hx hb hml hown hts hnm hK hP hD hA hS hret ls hl
  have hh_0 := hts (.fieldLink RX0 16 "BoundDraws$Compares" "used" "I") (by decide +kernel)
  have hh_1 := (show ∀ w ∈ wsX00, w ∈ wsX0_raiseByLeast by decide +kernel)
  have hh_2 := hts (.fieldLink RX0 9 "BoundDraws$Compares" "ups" "[I") (by decide +kernel)
  have hh_3 := hts (.fieldLink RX0 13 "BoundDraws$Compares" "downs" "[I") (by decide +kernel)
  refine lv_aload_n hx hb dX0_raiseByLeast_0 rfl (lv_at hl 2 rfl) ?_
  refine lv_aload_n hx hb dX0_raiseByLeast_1 rfl (lv_at hl 0 rfl) ?_
  refine va_get (D := D) (ci := 0) (v := .int (iZ ((k : Nat) : Int))) (C := RX0) (T := TX0) (N := 3) hx hb hts hh_1 hown hK hP 0 rfl rfl 2 (by decide) hh_0 (fun _ h9 => h9) rfl dX0_raiseByLeast_2 ?_
  refine z_i2l (z := ((k : Nat) : Int)) hx hb dX0_raiseByLeast_5 ⟨by omega, by omega⟩ rfl ?_
  refine zc_lconst (z := ((1 : Nat) : Int)) hx hb dX0_raiseByLeast_6 (by decide) ?_
  refine ca_vV [.long (lZ ((k : Nat) : Int)), .long (lZ ((1 : Nat) : Int))] [] [(h0, .inr (0, [.ref ua, .ref va, .int (iZ ((k : Nat) : Int))])), (ua, .inl (cI, 10, .inl (LI U))), (va, .inl (cI, 10, .inl (LI V)))] 0 0 ⟨hx, hb, hml, hown, hts⟩ (c_X4_become l D cI cJ hq p0 q0 ((k : Nat) : Int) 1 (by omega) (by omega) (by decide) (by decide)) (cwV 2 hts gX0_raiseByLeast_X4_become rfl rfl rfl (by decide +kernel) ⟨(Nat.le_of_ble_eq_true rfl), (Nat.le_of_ble_eq_true rfl)⟩) hK hP hD hS hA [3] [0, 1, 2] rfl rfl rfl rfl (by decide) 0 rfl rfl rfl hl.1 rfl (Nat.le_of_ble_eq_true rfl) dX0_raiseByLeast_7 ⟨(Nat.le_of_ble_eq_true rfl), (Nat.le_of_ble_eq_true rfl)⟩ (Nat.le_of_ble_eq_true rfl) (Nat.le_of_ble_eq_true rfl) (fun u9 H locs hw hP hD hS => ?_)
  obtain u9 := u9
  try dsimp only at hw
  have hP : va_P D vwCl [(h0, .inr (0, [.ref ua, .ref va, .int (iZ ((k : Nat) : Int))])), (ua, .inl (cI, 10, .inl (LI U))), (va, .inl (cI, 10, .inl (LI V))), (hq, .inr (3, [.long (lZ (redU ((k : Nat) : Int) 1)), .long (lZ ((redL ((k : Nat) : Int) 1 : Nat) : Int))]))] H := hP
  have hD : va_D A [(h0, .inr (0, [.ref ua, .ref va, .int (iZ ((k : Nat) : Int))])), (ua, .inl (cI, 10, .inl (LI U))), (va, .inl (cI, 10, .inl (LI V))), (hq, .inr (3, [.long (lZ (redU ((k : Nat) : Int) 1)), .long (lZ ((redL ((k : Nat) : Int) 1 : Nat) : Int))]))] := hD
  refine zc_iconst (z := ((0 : Nat) : Int)) hx hb dX0_raiseByLeast_10 (by decide) ?_
  refine lv_istore_n (lv' := [(3, .int (iZ ((0 : Nat) : Int))), (0, .ref h0), (1, .int (iZ ((q : Nat) : Int))), (2, .ref hq)]) hx hb dX0_raiseByLeast_11 rfl hl (by decide) rfl (fun ls hl => ?_)
  have pt_12 : ∀ f : Nat, ∀ (i x y : Nat), (hi : i ≤ k) → (hxy : rls k U V q i = (x, y)) → (hf : k < i + f) → (H : Heap) → (locs : List Loc) → va_P D vwCl [(h0, .inr (0, [.ref ua, .ref va, .int (iZ ((k : Nat) : Int))])), (ua, .inl (cI, 10, .inl (LI U))), (va, .inl (cI, 10, .inl (LI V))), (hq, .inr (3, [.long (lZ (redU ((x : Nat) : Int) y)), .long (lZ ((redL ((x : Nat) : Int) y : Nat) : Int))]))] H → va_D A [(h0, .inr (0, [.ref ua, .ref va, .int (iZ ((k : Nat) : Int))])), (ua, .inl (cI, 10, .inl (LI U))), (va, .inl (cI, 10, .inl (LI V))), (hq, .inr (3, [.long (lZ (redU ((x : Nat) : Int) y)), .long (lZ ((redL ((x : Nat) : Int) y : Nat) : Int))]))] → va_S A s.heap H locs → (ls : Array Slot) → lv_has ls 9 [(3, .int (iZ ((i : Nat) : Int))), (0, .ref h0), (1, .int (iZ ((q : Nat) : Int))), (2, .ref hq)] → W p l e rmX0_raiseByLeast s m args below meth c H locs 0 0 Q (F0 m 12 ls []) := by
    intro f
    induction f with
    | zero =>
      intro i x y hi hxy hf H locs hP hD hS ls hl
      exfalso; omega
    | succ f ih =>
      intro i x y hi hxy hf H locs hP hD hS ls hl
      refine lv_iload_n hx hb dX0_raiseByLeast_12 rfl (lv_at hl 0 rfl) ?_
      refine lv_aload_n hx hb dX0_raiseByLeast_13 rfl (lv_at hl 1 rfl) ?_
      refine va_get (D := D) (ci := 0) (v := .int (iZ ((k : Nat) : Int))) (C := RX0) (T := TX0) (N := 3) hx hb hts hh_1 hown hK hP 0 rfl rfl 2 (by decide) hh_0 (fun _ h9 => h9) rfl dX0_raiseByLeast_14 ?_
      refine zb_icmp_ge (x := ((i : Nat) : Int)) (y := ((k : Nat) : Int)) (tgt := 86) hx hb dX0_raiseByLeast_17 (by decide) ⟨by omega, by omega⟩ ⟨by omega, by omega⟩ (fun c_17 => ?_) (fun c_17 => ?_)
      · exact hret (x, y) _ _ _ _ _ _ (Nat.le_of_ble_eq_true rfl) (Nat.le_of_ble_eq_true rfl) dX0_raiseByLeast_86 (by have e9 : i = k := (by omega); rw [e9] at hxy; exact hxy) hP hD hS
      · have pt_80 : ∀ (x y : Nat), (hxy : rls k U V q (i + 1) = (x, y)) → (H : Heap) → (locs : List Loc) → va_P D vwCl [(h0, .inr (0, [.ref ua, .ref va, .int (iZ ((k : Nat) : Int))])), (ua, .inl (cI, 10, .inl (LI U))), (va, .inl (cI, 10, .inl (LI V))), (hq, .inr (3, [.long (lZ (redU ((x : Nat) : Int) y)), .long (lZ ((redL ((x : Nat) : Int) y : Nat) : Int))]))] H → va_D A [(h0, .inr (0, [.ref ua, .ref va, .int (iZ ((k : Nat) : Int))])), (ua, .inl (cI, 10, .inl (LI U))), (va, .inl (cI, 10, .inl (LI V))), (hq, .inr (3, [.long (lZ (redU ((x : Nat) : Int) y)), .long (lZ ((redL ((x : Nat) : Int) y : Nat) : Int))]))] → va_S A s.heap H locs → (ls : Array Slot) → lv_has ls 9 [(3, .int (iZ ((i : Nat) : Int))), (0, .ref h0), (1, .int (iZ ((q : Nat) : Int))), (2, .ref hq)] → W p l e rmX0_raiseByLeast s m args below meth c H locs 0 0 Q (F0 m 80 ls []) := by
          intro x y hxy H locs hP hD hS ls hl
          refine lv_iinc (v := iZ ((i + 1 : Nat) : Int)) (lv' := [(3, .int (iZ ((i + 1 : Nat) : Int))), (0, .ref h0), (1, .int (iZ ((q : Nat) : Int))), (2, .ref hq)]) hx hb dX0_raiseByLeast_80 hl (k := 0) rfl (zi_inc (by omega)) (by decide) rfl (fun ls hl => ?_)
          refine lv_goto (tgt := 12) hx hb dX0_raiseByLeast_83 (by decide) ?_
          exact ih (i + 1) x y (by omega) hxy (by omega) _ _ hP hD hS ls (lv_sub hl [0, 1, 2, 3] rfl)
        have hbd := rls_b hc q i (by omega)
        rw [hxy] at hbd
        obtain ⟨b1, b2, b3⟩ := hbd
        have b1 : x ≤ 1100000 := b1
        have b2 : 1 ≤ y := b2
        have b3 : y ≤ 1100000 := b3
        have hgb := gr_b hc (show i < k by omega)
        have hci := hc.2 i (by omega)
        have hpl := plc_le k U V i
        have hp1 := plc_1 k U V i
        have hru := redU_b (u := ((x : Nat) : Int)) (d := y) (B := 1100000) (by omega) (by omega) (by omega)
        have hrl := redL_le (u := ((x : Nat) : Int)) (d := y)
        refine lv_aload_n hx hb dX0_raiseByLeast_20 rfl (lv_at hl 1 rfl) ?_
        refine lv_iload_n hx hb dX0_raiseByLeast_21 rfl (lv_at hl 0 rfl) ?_
        refine ca_iV [.int (iZ ((i : Nat) : Int))] [] [(hq, .inr (3, [.long (lZ (redU ((x : Nat) : Int) y)), .long (lZ ((redL ((x : Nat) : Int) y : Nat) : Int))]))] 0 0 ⟨hx, hb, hml, hown, hts⟩ (c_X0_placeOf l D cI cJ h0 ua va k U V hc i (by omega)) (cwV 1 hts gX0_raiseByLeast_X0_placeOf rfl rfl rfl (by decide +kernel) ⟨(Nat.le_of_ble_eq_true rfl), (Nat.le_of_ble_eq_true rfl)⟩) hK hP hD hS hA [0, 1, 2] [3] rfl rfl rfl rfl (by decide) 0 rfl rfl rfl hl.1 rfl (Nat.le_of_ble_eq_true rfl) dX0_raiseByLeast_22 ⟨(Nat.le_of_ble_eq_true rfl), (Nat.le_of_ble_eq_true rfl)⟩ (Nat.le_of_ble_eq_true rfl) (Nat.le_of_ble_eq_true rfl) (fun r_22 u9 H locs hw hP hD hS => ?_)
        obtain u9 := u9
        try dsimp only at hw
        have hP : va_P D vwCl [(hq, .inr (3, [.long (lZ (redU ((x : Nat) : Int) y)), .long (lZ ((redL ((x : Nat) : Int) y : Nat) : Int))])), (h0, .inr (0, [.ref ua, .ref va, .int (iZ ((k : Nat) : Int))])), (ua, .inl (cI, 10, .inl (LI U))), (va, .inl (cI, 10, .inl (LI V)))] H := hP
        have hD : va_D A [(hq, .inr (3, [.long (lZ (redU ((x : Nat) : Int) y)), .long (lZ ((redL ((x : Nat) : Int) y : Nat) : Int))])), (h0, .inr (0, [.ref ua, .ref va, .int (iZ ((k : Nat) : Int))])), (ua, .inl (cI, 10, .inl (LI U))), (va, .inl (cI, 10, .inl (LI V)))] := hD
        refine tp_i (y := (iZ ((plc k U V i : Nat) : Int))) (hw) ?_
        refine lv_istore (lv' := [(4, .int (iZ ((plc k U V i : Nat) : Int))), (3, .int (iZ ((i : Nat) : Int))), (0, .ref h0), (1, .int (iZ ((q : Nat) : Int))), (2, .ref hq)]) hx hb dX0_raiseByLeast_25 hl (by decide) rfl (fun ls hl => ?_)
        refine lv_aload_n hx hb dX0_raiseByLeast_27 rfl (lv_at hl 2 rfl) ?_
        refine va_get (D := D) (ci := 0) (v := .int (iZ ((k : Nat) : Int))) (C := RX0) (T := TX0) (N := 3) hx hb hts hh_1 hown hK hP 1 rfl rfl 2 (by decide) hh_0 (fun _ h9 => h9) rfl dX0_raiseByLeast_28 ?_
        refine z_i2l (z := ((k : Nat) : Int)) hx hb dX0_raiseByLeast_31 ⟨by omega, by omega⟩ rfl ?_
        refine lv_aload_n hx hb dX0_raiseByLeast_32 rfl (lv_at hl 2 rfl) ?_
        refine va_get (D := D) (ci := 0) (v := .ref ua) (C := RX0) (T := TX0) (N := 3) hx hb hts hh_1 hown hK hP 1 rfl rfl 0 (by decide) hh_2 (fun _ h9 => h9) rfl dX0_raiseByLeast_33 ?_
        refine lv_iload_n hx hb dX0_raiseByLeast_36 rfl (lv_at hl 1 rfl) ?_
        refine za_iald hx hb hK hP 2 0 rfl rfl (i) (v := ((U i : Nat) : Int)) (by decide) rfl (by omega) (rfl) dX0_raiseByLeast_37 ?_
        refine z_i2l (z := ((U i : Nat) : Int)) hx hb dX0_raiseByLeast_38 ⟨by omega, by omega⟩ rfl ?_
        refine zl_mul (z := ((k * (U i) : Nat) : Int)) hx hb dX0_raiseByLeast_39 (Int.natCast_mul _ _).symm ?_
        refine lv_lstore (lv' := [(5, .long (lZ ((k * (U i) : Nat) : Int))), (4, .int (iZ ((plc k U V i : Nat) : Int))), (3, .int (iZ ((i : Nat) : Int))), (0, .ref h0), (1, .int (iZ ((q : Nat) : Int))), (2, .ref hq)]) hx hb dX0_raiseByLeast_40 hl (by decide) rfl (fun ls hl => ?_)
        refine lv_iload hx hb dX0_raiseByLeast_42 (lv_at hl 1 rfl) ?_
        refine z_i2l (z := ((plc k U V i : Nat) : Int)) hx hb dX0_raiseByLeast_44 ⟨by omega, by omega⟩ rfl ?_
        refine lv_aload_n hx hb dX0_raiseByLeast_45 rfl (lv_at hl 3 rfl) ?_
        refine va_get (D := D) (ci := 0) (v := .ref va) (C := RX0) (T := TX0) (N := 3) hx hb hts hh_1 hown hK hP 1 rfl rfl 1 (by decide) hh_3 (fun _ h9 => h9) rfl dX0_raiseByLeast_46 ?_
        refine lv_iload_n hx hb dX0_raiseByLeast_49 rfl (lv_at hl 2 rfl) ?_
        refine za_iald hx hb hK hP 3 0 rfl rfl (i) (v := ((V i : Nat) : Int)) (by decide) rfl (by omega) (rfl) dX0_raiseByLeast_50 ?_
        refine z_i2l (z := ((V i : Nat) : Int)) hx hb dX0_raiseByLeast_51 ⟨by omega, by omega⟩ rfl ?_
        refine zl_mul (z := (((plc k U V i) * (V i) : Nat) : Int)) hx hb dX0_raiseByLeast_52 (Int.natCast_mul _ _).symm ?_
        refine lv_lstore (lv' := [(7, .long (lZ (((plc k U V i) * (V i) : Nat) : Int))), (5, .long (lZ ((k * (U i) : Nat) : Int))), (4, .int (iZ ((plc k U V i : Nat) : Int))), (3, .int (iZ ((i : Nat) : Int))), (0, .ref h0), (1, .int (iZ ((q : Nat) : Int))), (2, .ref hq)]) hx hb dX0_raiseByLeast_53 hl (by decide) rfl (fun ls hl => ?_)
        refine lv_iload hx hb dX0_raiseByLeast_55 (lv_at hl 2 rfl) ?_
        refine lv_iload_n hx hb dX0_raiseByLeast_57 rfl (lv_at hl 5 rfl) ?_
        refine zb_icmp_lt (x := ((plc k U V i : Nat) : Int)) (y := ((q : Nat) : Int)) (tgt := 80) hx hb dX0_raiseByLeast_58 (by decide) ⟨by omega, by omega⟩ ⟨by omega, by omega⟩ (fun c_58 => ?_) (fun c_58 => ?_)
        · exact pt_80 x y (by rw [rls, if_neg (by omega), hxy]) _ _ (hP.sub [1, 2, 3, 0] rfl) (hD.sub [1, 2, 3, 0] rfl rfl) hS ls (lv_sub hl [3, 4, 5, 6] rfl)
        · refine lv_aload_n hx hb dX0_raiseByLeast_61 rfl (lv_at hl 6 rfl) ?_
          refine lv_lload hx hb dX0_raiseByLeast_62 (lv_at hl 1 rfl) ?_
          refine lv_lload hx hb dX0_raiseByLeast_64 (lv_at hl 0 rfl) ?_
          refine ca_iV [.long (lZ ((k * (U i) : Nat) : Int)), .long (lZ (((plc k U V i) * (V i) : Nat) : Int))] [] [(h0, .inr (0, [.ref ua, .ref va, .int (iZ ((k : Nat) : Int))])), (ua, .inl (cI, 10, .inl (LI U))), (va, .inl (cI, 10, .inl (LI V)))] 0 0 ⟨hx, hb, hml, hown, hts⟩ (c_X4_isAbove l D cI cJ hq (redU ((x : Nat) : Int) y) ((redL ((x : Nat) : Int) y : Nat) : Int) ((k * U i : Nat) : Int) ((plc k U V i * V i : Nat) : Int) (lR_mul (B := 1100000) (by decide) hru.1 hru.2 (by omega) (by omega)) (lR_mul (B := 1100000) (by decide) (by omega) (by omega) (by omega) (by omega))) (cwV 2 hts gX0_raiseByLeast_X4_isAbove rfl rfl rfl (by decide +kernel) ⟨(Nat.le_of_ble_eq_true rfl), (Nat.le_of_ble_eq_true rfl)⟩) hK hP hD hS hA [0] [1, 2, 3] rfl rfl rfl rfl (by decide) 0 rfl rfl rfl hl.1 rfl (Nat.le_of_ble_eq_true rfl) dX0_raiseByLeast_66 ⟨(Nat.le_of_ble_eq_true rfl), (Nat.le_of_ble_eq_true rfl)⟩ (Nat.le_of_ble_eq_true rfl) (Nat.le_of_ble_eq_true rfl) (fun r_66 u9 H locs hw hP hD hS => ?_)
          obtain u9 := u9
          try dsimp only at hw
          obtain ⟨b7, hb1, hb2, hb3⟩ := hw
          have hP : va_P D vwCl [(h0, .inr (0, [.ref ua, .ref va, .int (iZ ((k : Nat) : Int))])), (ua, .inl (cI, 10, .inl (LI U))), (va, .inl (cI, 10, .inl (LI V))), (hq, .inr (3, [.long (lZ (redU ((x : Nat) : Int) y)), .long (lZ ((redL ((x : Nat) : Int) y : Nat) : Int))]))] H := hP
          have hD : va_D A [(h0, .inr (0, [.ref ua, .ref va, .int (iZ ((k : Nat) : Int))])), (ua, .inl (cI, 10, .inl (LI U))), (va, .inl (cI, 10, .inl (LI V))), (hq, .inr (3, [.long (lZ (redU ((x : Nat) : Int) y)), .long (lZ ((redL ((x : Nat) : Int) y : Nat) : Int))]))] := hD
          have hbz : b7 = 1 ↔ k * U i * y < x * (plc k U V i * V i) := by rw [hb3, red_gt (by omega), ← Int.natCast_mul, ← Int.natCast_mul]; omega
          refine tp_i (y := (iZ (b7))) (hb1) ?_
          refine zb_if_eq (x := (b7)) (tgt := 80) hx hb dX0_raiseByLeast_69 (by decide) ⟨by omega, by omega⟩ (fun c_69 => ?_) (fun c_69 => ?_)
          · exact pt_80 x y (by rw [rls, hxy, if_neg (fun h9 => by have := hbz.mpr h9.2; omega)]) _ _ hP hD hS ls (lv_sub hl [3, 4, 5, 6] rfl)
          · refine lv_aload_n hx hb dX0_raiseByLeast_72 rfl (lv_at hl 6 rfl) ?_
            refine lv_lload hx hb dX0_raiseByLeast_73 (lv_at hl 1 rfl) ?_
            refine lv_lload hx hb dX0_raiseByLeast_75 (lv_at hl 0 rfl) ?_
            refine ca_vV [.long (lZ ((k * (U i) : Nat) : Int)), .long (lZ (((plc k U V i) * (V i) : Nat) : Int))] [] [(h0, .inr (0, [.ref ua, .ref va, .int (iZ ((k : Nat) : Int))])), (ua, .inl (cI, 10, .inl (LI U))), (va, .inl (cI, 10, .inl (LI V)))] 0 0 ⟨hx, hb, hml, hown, hts⟩ (c_X4_become l D cI cJ hq _ _ ((k * U i : Nat) : Int) (plc k U V i * V i) (by omega) (by omega) (by omega) (by omega)) (cwV 2 hts gX0_raiseByLeast_X4_become rfl rfl rfl (by decide +kernel) ⟨(Nat.le_of_ble_eq_true rfl), (Nat.le_of_ble_eq_true rfl)⟩) hK hP hD hS hA [3] [0, 1, 2] rfl rfl rfl rfl (by decide) 0 rfl rfl rfl hl.1 rfl (Nat.le_of_ble_eq_true rfl) dX0_raiseByLeast_77 ⟨(Nat.le_of_ble_eq_true rfl), (Nat.le_of_ble_eq_true rfl)⟩ (Nat.le_of_ble_eq_true rfl) (Nat.le_of_ble_eq_true rfl) (fun u9 H locs hw hP hD hS => ?_)
            obtain u9 := u9
            try dsimp only at hw
            have hP : va_P D vwCl [(h0, .inr (0, [.ref ua, .ref va, .int (iZ ((k : Nat) : Int))])), (ua, .inl (cI, 10, .inl (LI U))), (va, .inl (cI, 10, .inl (LI V))), (hq, .inr (3, [.long (lZ (redU ((k * U i : Nat) : Int) (plc k U V i * V i))), .long (lZ ((redL ((k * U i : Nat) : Int) (plc k U V i * V i) : Nat) : Int))]))] H := hP
            have hD : va_D A [(h0, .inr (0, [.ref ua, .ref va, .int (iZ ((k : Nat) : Int))])), (ua, .inl (cI, 10, .inl (LI U))), (va, .inl (cI, 10, .inl (LI V))), (hq, .inr (3, [.long (lZ (redU ((k * U i : Nat) : Int) (plc k U V i * V i))), .long (lZ ((redL ((k * U i : Nat) : Int) (plc k U V i * V i) : Nat) : Int))]))] := hD
            exact pt_80 (k * U i) (plc k U V i * V i) (by rw [rls, hxy, if_pos ⟨by omega, hbz.mp (by omega)⟩]) _ _ hP hD hS ls (lv_sub hl [3, 4, 5, 6] rfl)
  exact pt_12 (k + 1) 0 k 1 (by omega) rfl (by omega) _ _ hP hD hS ls (lv_sub hl [0, 1, 2, 3] rfl)
def rmX0_raise : Room := { frames := 3, cells := 0, slots := 0, locals := 84 }
set_option maxHeartbeats 4000000 in
set_option maxRecDepth 100000 in
theorem c_X0_raise (l : Launch) (D : va_G) (cI cJ : ClassId) (h0 ua va : Nat) (k : Nat) (U V : Nat → Nat) (hc : cok k U V) (hq : Nat) (p0 q0 : Int) (way j : Nat) (hj : j < k) (hwy : way ≤ 2) : Cv l D vwCl (tyT cI cJ) yX0_raise wsX0_raise rmX0_raise [.ref h0, .int (iZ ((way : Nat) : Int)), .int (iZ ((j : Nat) : Int)), .ref hq] [(h0, .inr (0, [.ref ua, .ref va, .int (iZ ((k : Nat) : Int))])), (ua, .inl (cI, 10, .inl (LI U))), (va, .inl (cI, 10, .inl (LI V))), (hq, .inr (3, [.long (lZ (p0)), .long (lZ (q0))]))] (Nat × Nat) (fun r => rpr k U V way j = r) (fun r => [(h0, .inr (0, [.ref ua, .ref va, .int (iZ ((k : Nat) : Int))])), (ua, .inl (cI, 10, .inl (LI U))), (va, .inl (cI, 10, .inl (LI V))), (hq, .inr (3, [.long (lZ (redU ((r.1 : Nat) : Int) r.2)), .long (lZ ((redL ((r.1 : Nat) : Int) r.2 : Nat) : Int))]))]) := by
  have hk0 := hc.1
  have hgb := gr_b hc hj
  have hci := hc.2 j hj
  have hpl := plc_le k U V j
  refine en_v (cc := cX0_raise) (maxL := 4) (by decide) rfl [(0, .ref h0), (1, .int (iZ ((way : Nat) : Int))), (2, .int (iZ ((j : Nat) : Int))), (3, .ref hq)] (Nat.le_of_ble_eq_true rfl) rfl ?_
  intro p e s m args below meth c Q A hx hb hml hown hts hnm hK hP hD hA hS hret ls hl
  have hh_0 := hts (.fieldLink RX0 16 "BoundDraws$Compares" "used" "I") (by decide +kernel)
  have hh_1 := (show ∀ w ∈ wsX00, w ∈ wsX0_raise by decide +kernel)
  have hh_2 := hts (.fieldLink RX0 9 "BoundDraws$Compares" "ups" "[I") (by decide +kernel)
  have hh_3 := hts (.fieldLink RX0 13 "BoundDraws$Compares" "downs" "[I") (by decide +kernel)
  refine lv_iload_n hx hb dX0_raise_0 rfl (lv_at hl 2 rfl) ?_
  refine zb_if_lt (x := ((j : Nat) : Int)) (tgt := 12) hx hb dX0_raise_1 (by decide) ⟨by omega, by omega⟩ (fun c_1 => ?_) (fun c_1 => ?_)
  · exfalso; omega
  · refine lv_iload_n hx hb dX0_raise_4 rfl (lv_at hl 2 rfl) ?_
    refine lv_aload_n hx hb dX0_raise_5 rfl (lv_at hl 0 rfl) ?_
    refine va_get (D := D) (ci := 0) (v := .int (iZ ((k : Nat) : Int))) (C := RX0) (T := TX0) (N := 3) hx hb hts hh_1 hown hK hP 0 rfl rfl 2 (by decide) hh_0 (fun _ h9 => h9) rfl dX0_raise_6 ?_
    refine zb_icmp_lt (x := ((j : Nat) : Int)) (y := ((k : Nat) : Int)) (tgt := 13) hx hb dX0_raise_9 (by decide) ⟨by omega, by omega⟩ ⟨by omega, by omega⟩ (fun c_9 => ?_) (fun c_9 => ?_)
    · refine lv_iload_n hx hb dX0_raise_13 rfl (lv_at hl 1 rfl) ?_
      refine zb_if_ne (x := ((way : Nat) : Int)) (tgt := 44) hx hb dX0_raise_14 (by decide) ⟨by omega, by omega⟩ (fun c_14 => ?_) (fun c_14 => ?_)
      · refine lv_iload_n hx hb dX0_raise_44 rfl (lv_at hl 1 rfl) ?_
        refine zc_iconst (z := ((1 : Nat) : Int)) hx hb dX0_raise_45 (by decide) ?_
        refine zb_icmp_ne (x := ((way : Nat) : Int)) (y := ((1 : Nat) : Int)) (tgt := 62) hx hb dX0_raise_46 (by decide) ⟨by omega, by omega⟩ ⟨by decide, by decide⟩ (fun c_46 => ?_) (fun c_46 => ?_)
        · refine lv_aload_n hx hb dX0_raise_62 rfl (lv_at hl 0 rfl) ?_
          refine lv_aload_n hx hb dX0_raise_63 rfl (lv_at hl 0 rfl) ?_
          refine lv_iload_n hx hb dX0_raise_64 rfl (lv_at hl 2 rfl) ?_
          refine ca_iV [.int (iZ ((j : Nat) : Int))] [.ref h0] [(hq, .inr (3, [.long (lZ (p0)), .long (lZ (q0))]))] 0 0 ⟨hx, hb, hml, hown, hts⟩ (c_X0_placeOf l D cI cJ h0 ua va k U V hc j hj) (cwV 1 hts gX0_raise_X0_placeOf rfl rfl rfl (by decide +kernel) ⟨(Nat.le_of_ble_eq_true rfl), (Nat.le_of_ble_eq_true rfl)⟩) hK hP hD hS hA [0, 1, 2] [3] rfl rfl rfl rfl (by decide) 0 rfl rfl rfl hl.1 rfl (Nat.le_of_ble_eq_true rfl) dX0_raise_65 ⟨(Nat.le_of_ble_eq_true rfl), (Nat.le_of_ble_eq_true rfl)⟩ (Nat.le_of_ble_eq_true rfl) (Nat.le_of_ble_eq_true rfl) (fun r_65 u9 H locs hw hP hD hS => ?_)
          obtain u9 := u9
          try dsimp only at hw
          have hP : va_P D vwCl [(hq, .inr (3, [.long (lZ (p0)), .long (lZ (q0))])), (h0, .inr (0, [.ref ua, .ref va, .int (iZ ((k : Nat) : Int))])), (ua, .inl (cI, 10, .inl (LI U))), (va, .inl (cI, 10, .inl (LI V)))] H := hP
          have hD : va_D A [(hq, .inr (3, [.long (lZ (p0)), .long (lZ (q0))])), (h0, .inr (0, [.ref ua, .ref va, .int (iZ ((k : Nat) : Int))])), (ua, .inl (cI, 10, .inl (LI U))), (va, .inl (cI, 10, .inl (LI V)))] := hD
          refine tp_i (y := (iZ ((plc k U V j : Nat) : Int))) (hw) ?_
          refine lv_aload_n hx hb dX0_raise_68 rfl (lv_at hl 3 rfl) ?_
          refine ca_vV [.int (iZ ((plc k U V j : Nat) : Int)), .ref hq] [] [] 0 0 ⟨hx, hb, hml, hown, hts⟩ (c_X0_raiseByLeast l D cI cJ h0 ua va k U V hc hq p0 q0 (plc k U V j) (by omega)) (cwV 2 hts gX0_raise_X0_raiseByLeast rfl rfl rfl (by decide +kernel) ⟨(Nat.le_of_ble_eq_true rfl), (Nat.le_of_ble_eq_true rfl)⟩) hK hP hD hS hA [1, 2, 3, 0] [] rfl rfl rfl rfl (by decide) 0 rfl rfl rfl hl.1 rfl (Nat.le_of_ble_eq_true rfl) dX0_raise_69 ⟨(Nat.le_of_ble_eq_true rfl), (Nat.le_of_ble_eq_true rfl)⟩ (Nat.le_of_ble_eq_true rfl) (Nat.le_of_ble_eq_true rfl) (fun u9 H locs hw hP hD hS => ?_)
          obtain ⟨x, y⟩ := u9
          try dsimp only at hw
          have hP : va_P D vwCl [(h0, .inr (0, [.ref ua, .ref va, .int (iZ ((k : Nat) : Int))])), (ua, .inl (cI, 10, .inl (LI U))), (va, .inl (cI, 10, .inl (LI V))), (hq, .inr (3, [.long (lZ (redU ((x : Nat) : Int) y)), .long (lZ ((redL ((x : Nat) : Int) y : Nat) : Int))]))] H := hP
          have hD : va_D A [(h0, .inr (0, [.ref ua, .ref va, .int (iZ ((k : Nat) : Int))])), (ua, .inl (cI, 10, .inl (LI U))), (va, .inl (cI, 10, .inl (LI V))), (hq, .inr (3, [.long (lZ (redU ((x : Nat) : Int) y)), .long (lZ ((redL ((x : Nat) : Int) y : Nat) : Int))]))] := hD
          exact hret (x, y) _ _ _ _ _ _ (Nat.le_of_ble_eq_true rfl) (Nat.le_of_ble_eq_true rfl) dX0_raise_72 (by unfold rpr; rw [if_neg (by omega)]; first | (rw [if_pos (by omega)]; exact hw) | (rw [if_neg (by omega)]; exact hw)) hP hD hS
        · refine lv_aload_n hx hb dX0_raise_49 rfl (lv_at hl 0 rfl) ?_
          refine lv_aload_n hx hb dX0_raise_50 rfl (lv_at hl 0 rfl) ?_
          refine lv_iload_n hx hb dX0_raise_51 rfl (lv_at hl 2 rfl) ?_
          refine ca_iV [.int (iZ ((j : Nat) : Int))] [.ref h0] [(hq, .inr (3, [.long (lZ (p0)), .long (lZ (q0))]))] 0 0 ⟨hx, hb, hml, hown, hts⟩ (c_X0_placeOf l D cI cJ h0 ua va k U V hc j hj) (cwV 1 hts gX0_raise_X0_placeOf rfl rfl rfl (by decide +kernel) ⟨(Nat.le_of_ble_eq_true rfl), (Nat.le_of_ble_eq_true rfl)⟩) hK hP hD hS hA [0, 1, 2] [3] rfl rfl rfl rfl (by decide) 0 rfl rfl rfl hl.1 rfl (Nat.le_of_ble_eq_true rfl) dX0_raise_52 ⟨(Nat.le_of_ble_eq_true rfl), (Nat.le_of_ble_eq_true rfl)⟩ (Nat.le_of_ble_eq_true rfl) (Nat.le_of_ble_eq_true rfl) (fun r_52 u9 H locs hw hP hD hS => ?_)
          obtain u9 := u9
          try dsimp only at hw
          have hP : va_P D vwCl [(hq, .inr (3, [.long (lZ (p0)), .long (lZ (q0))])), (h0, .inr (0, [.ref ua, .ref va, .int (iZ ((k : Nat) : Int))])), (ua, .inl (cI, 10, .inl (LI U))), (va, .inl (cI, 10, .inl (LI V)))] H := hP
          have hD : va_D A [(hq, .inr (3, [.long (lZ (p0)), .long (lZ (q0))])), (h0, .inr (0, [.ref ua, .ref va, .int (iZ ((k : Nat) : Int))])), (ua, .inl (cI, 10, .inl (LI U))), (va, .inl (cI, 10, .inl (LI V)))] := hD
          refine tp_i (y := (iZ ((plc k U V j : Nat) : Int))) (hw) ?_
          refine lv_aload_n hx hb dX0_raise_55 rfl (lv_at hl 3 rfl) ?_
          refine ca_vV [.int (iZ ((plc k U V j : Nat) : Int)), .ref hq] [] [] 0 0 ⟨hx, hb, hml, hown, hts⟩ (c_X0_raiseByGreatest l D cI cJ h0 ua va k U V hc hq p0 q0 (plc k U V j) (by omega)) (cwV 2 hts gX0_raise_X0_raiseByGreatest rfl rfl rfl (by decide +kernel) ⟨(Nat.le_of_ble_eq_true rfl), (Nat.le_of_ble_eq_true rfl)⟩) hK hP hD hS hA [1, 2, 3, 0] [] rfl rfl rfl rfl (by decide) 0 rfl rfl rfl hl.1 rfl (Nat.le_of_ble_eq_true rfl) dX0_raise_56 ⟨(Nat.le_of_ble_eq_true rfl), (Nat.le_of_ble_eq_true rfl)⟩ (Nat.le_of_ble_eq_true rfl) (Nat.le_of_ble_eq_true rfl) (fun u9 H locs hw hP hD hS => ?_)
          obtain ⟨x, y⟩ := u9
          try dsimp only at hw
          have hP : va_P D vwCl [(h0, .inr (0, [.ref ua, .ref va, .int (iZ ((k : Nat) : Int))])), (ua, .inl (cI, 10, .inl (LI U))), (va, .inl (cI, 10, .inl (LI V))), (hq, .inr (3, [.long (lZ (redU ((x : Nat) : Int) y)), .long (lZ ((redL ((x : Nat) : Int) y : Nat) : Int))]))] H := hP
          have hD : va_D A [(h0, .inr (0, [.ref ua, .ref va, .int (iZ ((k : Nat) : Int))])), (ua, .inl (cI, 10, .inl (LI U))), (va, .inl (cI, 10, .inl (LI V))), (hq, .inr (3, [.long (lZ (redU ((x : Nat) : Int) y)), .long (lZ ((redL ((x : Nat) : Int) y : Nat) : Int))]))] := hD
          refine lv_goto (tgt := 72) hx hb dX0_raise_59 (by decide) ?_
          exact hret (x, y) _ _ _ _ _ _ (Nat.le_of_ble_eq_true rfl) (Nat.le_of_ble_eq_true rfl) dX0_raise_72 (by unfold rpr; rw [if_neg (by omega)]; first | (rw [if_pos (by omega)]; exact hw) | (rw [if_neg (by omega)]; exact hw)) hP hD hS
      · refine lv_aload_n hx hb dX0_raise_17 rfl (lv_at hl 3 rfl) ?_
        refine lv_aload_n hx hb dX0_raise_18 rfl (lv_at hl 0 rfl) ?_
        refine va_get (D := D) (ci := 0) (v := .int (iZ ((k : Nat) : Int))) (C := RX0) (T := TX0) (N := 3) hx hb hts hh_1 hown hK hP 0 rfl rfl 2 (by decide) hh_0 (fun _ h9 => h9) rfl dX0_raise_19 ?_
        refine z_i2l (z := ((k : Nat) : Int)) hx hb dX0_raise_22 ⟨by omega, by omega⟩ rfl ?_
        refine lv_aload_n hx hb dX0_raise_23 rfl (lv_at hl 0 rfl) ?_
        refine va_get (D := D) (ci := 0) (v := .ref ua) (C := RX0) (T := TX0) (N := 3) hx hb hts hh_1 hown hK hP 0 rfl rfl 0 (by decide) hh_2 (fun _ h9 => h9) rfl dX0_raise_24 ?_
        refine lv_iload_n hx hb dX0_raise_27 rfl (lv_at hl 2 rfl) ?_
        refine za_iald hx hb hK hP 1 0 rfl rfl (j) (v := ((U j : Nat) : Int)) (by decide) rfl (by omega) (rfl) dX0_raise_28 ?_
        refine z_i2l (z := ((U j : Nat) : Int)) hx hb dX0_raise_29 ⟨by omega, by omega⟩ rfl ?_
        refine zl_mul (z := ((k * (U j) : Nat) : Int)) hx hb dX0_raise_30 (Int.natCast_mul _ _).symm ?_
        refine lv_aload_n hx hb dX0_raise_31 rfl (lv_at hl 0 rfl) ?_
        refine va_get (D := D) (ci := 0) (v := .ref va) (C := RX0) (T := TX0) (N := 3) hx hb hts hh_1 hown hK hP 0 rfl rfl 1 (by decide) hh_3 (fun _ h9 => h9) rfl dX0_raise_32 ?_
        refine lv_iload_n hx hb dX0_raise_35 rfl (lv_at hl 2 rfl) ?_
        refine za_iald hx hb hK hP 2 0 rfl rfl (j) (v := ((V j : Nat) : Int)) (by decide) rfl (by omega) (rfl) dX0_raise_36 ?_
        refine z_i2l (z := ((V j : Nat) : Int)) hx hb dX0_raise_37 ⟨by omega, by omega⟩ rfl ?_
        refine ca_vV [.long (lZ ((k * (U j) : Nat) : Int)), .long (lZ ((V j : Nat) : Int))] [] [(h0, .inr (0, [.ref ua, .ref va, .int (iZ ((k : Nat) : Int))])), (ua, .inl (cI, 10, .inl (LI U))), (va, .inl (cI, 10, .inl (LI V)))] 0 0 ⟨hx, hb, hml, hown, hts⟩ (c_X4_become l D cI cJ hq p0 q0 ((k * U j : Nat) : Int) (V j) (by omega) (by omega) (by omega) (by omega)) (cwV 2 hts gX0_raise_X4_become rfl rfl rfl (by decide +kernel) ⟨(Nat.le_of_ble_eq_true rfl), (Nat.le_of_ble_eq_true rfl)⟩) hK hP hD hS hA [3] [0, 1, 2] rfl rfl rfl rfl (by decide) 0 rfl rfl rfl hl.1 rfl (Nat.le_of_ble_eq_true rfl) dX0_raise_38 ⟨(Nat.le_of_ble_eq_true rfl), (Nat.le_of_ble_eq_true rfl)⟩ (Nat.le_of_ble_eq_true rfl) (Nat.le_of_ble_eq_true rfl) (fun u9 H locs hw hP hD hS => ?_)
        obtain u9 := u9
        try dsimp only at hw
        have hP : va_P D vwCl [(h0, .inr (0, [.ref ua, .ref va, .int (iZ ((k : Nat) : Int))])), (ua, .inl (cI, 10, .inl (LI U))), (va, .inl (cI, 10, .inl (LI V))), (hq, .inr (3, [.long (lZ (redU ((k * U j : Nat) : Int) (V j))), .long (lZ ((redL ((k * U j : Nat) : Int) (V j) : Nat) : Int))]))] H := hP
        have hD : va_D A [(h0, .inr (0, [.ref ua, .ref va, .int (iZ ((k : Nat) : Int))])), (ua, .inl (cI, 10, .inl (LI U))), (va, .inl (cI, 10, .inl (LI V))), (hq, .inr (3, [.long (lZ (redU ((k * U j : Nat) : Int) (V j))), .long (lZ ((redL ((k * U j : Nat) : Int) (V j) : Nat) : Int))]))] := hD
        refine lv_goto (tgt := 72) hx hb dX0_raise_41 (by decide) ?_
        exact hret (k * U j, V j) _ _ _ _ _ _ (Nat.le_of_ble_eq_true rfl) (Nat.le_of_ble_eq_true rfl) dX0_raise_72 (by unfold rpr; rw [if_pos (by omega)]) hP hD hS
    · exfalso; omega

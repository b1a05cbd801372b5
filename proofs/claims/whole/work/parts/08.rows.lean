/-! counting and adding up -/
def cnt (p : Nat → Bool) : Nat → Nat
  | 0 => 0
  | k + 1 => cnt p k + (if p k then 1 else 0)
theorem cnt_s (p : Nat → Bool) (k : Nat) : cnt p (k + 1) = cnt p k + (if p k then 1 else 0) := rfl
theorem cnt_t {p : Nat → Bool} {k : Nat} (h : p k = true) : cnt p (k + 1) = cnt p k + 1 := by rw [cnt_s, if_pos h]
theorem cnt_f {p : Nat → Bool} {k : Nat} (h : p k = false) : cnt p (k + 1) = cnt p k := by rw [cnt_s, h]; rfl
theorem cnt_le (p : Nat → Bool) : ∀ k : Nat, cnt p k ≤ k
  | 0 => Nat.le_refl _
  | k + 1 => by have := cnt_le p k; rw [cnt_s]; split <;> omega
theorem cnt_congr {p q : Nat → Bool} : ∀ {k : Nat}, (∀ i, i < k → p i = q i) → cnt p k = cnt q k
  | 0, _ => rfl
  | k + 1, H => by rw [cnt_s, cnt_s, cnt_congr (fun i hi => H i (by omega)), H k (by omega)]
def sumZ (f : Nat → Int) : Nat → Int
  | 0 => 0
  | k + 1 => sumZ f k + f k
theorem sumZ_s (f : Nat → Int) (k : Nat) : sumZ f (k + 1) = sumZ f k + f k := rfl
theorem sumZ_b {f : Nat → Int} {B : Nat} : ∀ {k : Nat}, (∀ i, i < k → -(B : Int) ≤ f i ∧ f i ≤ B) → -((B * k : Nat) : Int) ≤ sumZ f k ∧ sumZ f k ≤ ((B * k : Nat) : Int)
  | 0, _ => by simp [sumZ]
  | k + 1, H => by
    have h1 := sumZ_b (f := f) (B := B) (k := k) (fun i hi => H i (by omega))
    have h2 := H k (by omega)
    rw [sumZ_s, Nat.mul_succ]
    omega
theorem sumZ_congr {f g : Nat → Int} : ∀ {k : Nat}, (∀ i, i < k → f i = g i) → sumZ f k = sumZ g k
  | 0, _ => rfl
  | k + 1, H => by rw [sumZ_s, sumZ_s, sumZ_congr (fun i hi => H i (by omega)), H k (by omega)]
/-- rows as they may be: n of them, of groups G, with the numbers X and Y -/
def rok (n : Nat) (G X Y : Nat → Nat) : Prop := n ≤ 30 ∧ ∀ i, i < n → G i ≤ 7 ∧ X i ≤ 100 ∧ Y i ≤ 100
def rwD (X Y : Nat → Nat) (i : Nat) : Int := (X i : Int) - (Y i : Int)
/-- how many rows a group has, and the sum of their differences -/
def grS (G : Nat → Nat) (n g : Nat) : Nat := cnt (fun i => decide (G i = g)) n
def grD (G X Y : Nat → Nat) (n g : Nat) : Int := sumZ (fun i => if G i = g then rwD X Y i else 0) n
/-- how many groups have rows, of the first k -/
def grC (G : Nat → Nat) (n k : Nat) : Nat := cnt (fun g => decide (0 < grS G n g)) k
/-- how many rows of the first n reach the mark t in A and not in B -/
def won (A B : Nat → Nat) (t n : Nat) : Nat := cnt (fun i => decide (t ≤ A i) && decide (B i < t)) n
theorem rwD_b {n : Nat} {G X Y : Nat → Nat} (h : rok n G X Y) {i : Nat} (hi : i < n) : -100 ≤ rwD X Y i ∧ rwD X Y i ≤ 100 := by
  have := h.2 i hi; unfold rwD; omega
theorem grD_b {n : Nat} {G X Y : Nat → Nat} (h : rok n G X Y) {k g : Nat} (hk : k ≤ n) : -3000 ≤ grD G X Y k g ∧ grD G X Y k g ≤ 3000 := by
  have h1 := h.1
  have := sumZ_b (f := fun i => if G i = g then rwD X Y i else 0) (B := 100) (k := k) (fun i hi => by
    have := rwD_b h (show i < n by omega)
    show -((100 : Nat) : Int) ≤ (if G i = g then rwD X Y i else 0) ∧ (if G i = g then rwD X Y i else 0) ≤ ((100 : Nat) : Int)
    split <;> omega)
  unfold grD
  omega
theorem rok_add {n : Nat} {G X Y : Nat → Nat} (h : rok n G X Y) (hn : n < 30) {g x y : Nat} (hg : g ≤ 7) (hx : x ≤ 100) (hy : y ≤ 100) : rok (n + 1) (nup G n g) (nup X n x) (nup Y n y) := by
  refine ⟨by omega, fun i hi => ?_⟩
  by_cases e : i = n
  · subst e; rw [nup_s, nup_s, nup_s]; exact ⟨hg, hx, hy⟩
  · rw [nup_n e, nup_n e, nup_n e]; exact h.2 i (by omega)
theorem rok_le {n k : Nat} {G X Y : Nat → Nat} (h : rok n G X Y) (hk : k ≤ n) : rok k G X Y := ⟨by have := h.1; omega, fun i hi => h.2 i (by omega)⟩
def rmX5_init : Room := { frames := 1, cells := 3, slots := 90, locals := 12 }
set_option maxHeartbeats 4000000 in
set_option maxRecDepth 100000 in
theorem c_X5_init (l : Launch) (D : va_G) (cI cJ : ClassId) (h0 : Nat) : Cv l D vwCl (tyT cI cJ) yX5_init wsX5_init rmX5_init [.ref h0] [(h0, .inr (4, [.null, .null, .null, .int (iZ ((0 : Nat) : Int))]))] (Nat × Nat × Nat) (fun _ => True) (fun q => [(h0, .inr (4, [.ref q.1, .ref q.2.1, .ref q.2.2, .int (iZ ((0 : Nat) : Int))])), (q.1, .inl (cI, 30, .inl (LI (fun _ => 0)))), (q.2.1, .inl (cI, 30, .inl (LI (fun _ => 0)))), (q.2.2, .inl (cI, 30, .inl (LI (fun _ => 0))))]) := by
  refine en_v (cc := cX5_init) (maxL := 1) (by decide) rfl [(0, .ref h0)] (Nat.le_of_ble_eq_true rfl) rfl ?_
  intro p e s m args below meth c Q A hx hb hml hown hts hnm hK hP hD hA hS hret ls hl
  have hh_0 := hts (.methodLink RX5 1 objectInit) (by decide +kernel)
  have hh_1 := hts (.instanceMethod objectInit) (by decide +kernel)
  have hh_2 := hts (.code objectInit ⟨#[0xb1]⟩ 1 none) (by decide +kernel)
  have hh_3 := hts (.arrayClass .int) (by decide +kernel)
  have hh_4 := hts (.fieldLink RX5 9 "BoundDraws$Rows" "groups" "[I") (by decide +kernel)
  have hh_5 := (show ∀ w ∈ wsX50, w ∈ wsX5_init by decide +kernel)
  have hh_6 := hts (.fieldLink RX5 13 "BoundDraws$Rows" "xs" "[I") (by decide +kernel)
  have hh_7 := hts (.fieldLink RX5 16 "BoundDraws$Rows" "ys" "[I") (by decide +kernel)
  have hh_8 := hts (.fieldLink RX5 19 "BoundDraws$Rows" "used" "I") (by decide +kernel)
  refine lv_aload_n hx hb dX5_init_0 rfl (lv_at hl 0 rfl) ?_
  refine W.objInit hx hb hown hh_0 hh_1 hh_2 rfl (by rw [hml]; exact hl.1) rfl dX5_init_1 (Nat.le_of_ble_eq_true rfl) (Nat.le_of_ble_eq_true rfl) ?_
  refine W.eq (g2 := F0 m 4 ls []) rfl ?_
  refine lv_aload_n hx hb dX5_init_4 rfl (lv_at hl 0 rfl) ?_
  refine zc_bipush (z := ((30 : Nat) : Int)) hx hb dX5_init_5 (by decide) ?_
  refine zn_newI (N := 30) hx hb hh_3 hK hP hD hS hA (Nat.le_of_ble_eq_true rfl) (Nat.le_of_ble_eq_true rfl) dX5_init_7 (fun q1 H hP hD hS => ?_)
  have hP : va_P D vwCl [(h0, .inr (4, [.null, .null, .null, .int (iZ ((0 : Nat) : Int))])), (q1, .inl (cI, 30, .inl (LI (fun _ => 0))))] H := hP
  have hD : va_D A [(h0, .inr (4, [.null, .null, .null, .int (iZ ((0 : Nat) : Int))])), (q1, .inl (cI, 30, .inl (LI (fun _ => 0))))] := hD
  refine W.widen (k := 1) (n := 30) (Nat.le_of_ble_eq_true rfl) (Nat.le_of_ble_eq_true rfl) ?_
  refine va_putF (D := D) (ci := 4) (v := .ref q1) (ty := .array .int) (C := RX5) (T := TX5) (N := 4) hx hb hts hh_5 tyX5 tyX5_ok nmX5 hown hK hP hD hS 0 rfl rfl 0 (by decide) hh_4 (fun _ h9 => h9) rfl hnm rfl (by decide +kernel) rfl rfl (Nat.le_of_ble_eq_true rfl) dX5_init_9 (fun H locs hP hD hS => ?_)
  have hP : va_P D vwCl [(h0, .inr (4, [.ref q1, .null, .null, .int (iZ ((0 : Nat) : Int))])), (q1, .inl (cI, 30, .inl (LI (fun _ => 0))))] H := hP
  have hD : va_D A [(h0, .inr (4, [.ref q1, .null, .null, .int (iZ ((0 : Nat) : Int))])), (q1, .inl (cI, 30, .inl (LI (fun _ => 0))))] := hD
  refine lv_aload_n hx hb dX5_init_12 rfl (lv_at hl 0 rfl) ?_
  refine zc_bipush (z := ((30 : Nat) : Int)) hx hb dX5_init_13 (by decide) ?_
  refine zn_newI (N := 30) hx hb hh_3 hK hP hD hS hA (Nat.le_of_ble_eq_true rfl) (Nat.le_of_ble_eq_true rfl) dX5_init_15 (fun q2 H hP hD hS => ?_)
  have hP : va_P D vwCl [(h0, .inr (4, [.ref q1, .null, .null, .int (iZ ((0 : Nat) : Int))])), (q1, .inl (cI, 30, .inl (LI (fun _ => 0)))), (q2, .inl (cI, 30, .inl (LI (fun _ => 0))))] H := hP
  have hD : va_D A [(h0, .inr (4, [.ref q1, .null, .null, .int (iZ ((0 : Nat) : Int))])), (q1, .inl (cI, 30, .inl (LI (fun _ => 0)))), (q2, .inl (cI, 30, .inl (LI (fun _ => 0))))] := hD
  refine W.widen (k := 2) (n := 60) (Nat.le_of_ble_eq_true rfl) (Nat.le_of_ble_eq_true rfl) ?_
  refine va_putF (D := D) (ci := 4) (v := .ref q2) (ty := .array .int) (C := RX5) (T := TX5) (N := 4) hx hb hts hh_5 tyX5 tyX5_ok nmX5 hown hK hP hD hS 0 rfl rfl 1 (by decide) hh_6 (fun _ h9 => h9) rfl hnm rfl (by decide +kernel) rfl rfl (Nat.le_of_ble_eq_true rfl) dX5_init_17 (fun H locs hP hD hS => ?_)
  have hP : va_P D vwCl [(h0, .inr (4, [.ref q1, .ref q2, .null, .int (iZ ((0 : Nat) : Int))])), (q1, .inl (cI, 30, .inl (LI (fun _ => 0)))), (q2, .inl (cI, 30, .inl (LI (fun _ => 0))))] H := hP
  have hD : va_D A [(h0, .inr (4, [.ref q1, .ref q2, .null, .int (iZ ((0 : Nat) : Int))])), (q1, .inl (cI, 30, .inl (LI (fun _ => 0)))), (q2, .inl (cI, 30, .inl (LI (fun _ => 0))))] := hD
  refine lv_aload_n hx hb dX5_init_20 rfl (lv_at hl 0 rfl) ?_
  refine zc_bipush (z := ((30 : Nat) : Int)) hx hb dX5_init_21 (by decide) ?_
  refine zn_newI (N := 30) hx hb hh_3 hK hP hD hS hA (Nat.le_of_ble_eq_true rfl) (Nat.le_of_ble_eq_true rfl) dX5_init_23 (fun q3 H hP hD hS => ?_)
  have hP : va_P D vwCl [(h0, .inr (4, [.ref q1, .ref q2, .null, .int (iZ ((0 : Nat) : Int))])), (q1, .inl (cI, 30, .inl (LI (fun _ => 0)))), (q2, .inl (cI, 30, .inl (LI (fun _ => 0)))), (q3, .inl (cI, 30, .inl (LI (fun _ => 0))))] H := hP
  have hD : va_D A [(h0, .inr (4, [.ref q1, .ref q2, .null, .int (iZ ((0 : Nat) : Int))])), (q1, .inl (cI, 30, .inl (LI (fun _ => 0)))), (q2, .inl (cI, 30, .inl (LI (fun _ => 0)))), (q3, .inl (cI, 30, .inl (LI (fun _ => 0))))] := hD
  refine W.widen (k := 3) (n := 90) (Nat.le_of_ble_eq_true rfl) (Nat.le_of_ble_eq_true rfl) ?_
  refine va_putF (D := D) (ci := 4) (v := .ref q3) (ty := .array .int) (C := RX5) (T := TX5) (N := 4) hx hb hts hh_5 tyX5 tyX5_ok nmX5 hown hK hP hD hS 0 rfl rfl 2 (by decide) hh_7 (fun _ h9 => h9) rfl hnm rfl (by decide +kernel) rfl rfl (Nat.le_of_ble_eq_true rfl) dX5_init_25 (fun H locs hP hD hS => ?_)
  have hP : va_P D vwCl [(h0, .inr (4, [.ref q1, .ref q2, .ref q3, .int (iZ ((0 : Nat) : Int))])), (q1, .inl (cI, 30, .inl (LI (fun _ => 0)))), (q2, .inl (cI, 30, .inl (LI (fun _ => 0)))), (q3, .inl (cI, 30, .inl (LI (fun _ => 0))))] H := hP
  have hD : va_D A [(h0, .inr (4, [.ref q1, .ref q2, .ref q3, .int (iZ ((0 : Nat) : Int))])), (q1, .inl (cI, 30, .inl (LI (fun _ => 0)))), (q2, .inl (cI, 30, .inl (LI (fun _ => 0)))), (q3, .inl (cI, 30, .inl (LI (fun _ => 0))))] := hD
  refine lv_aload_n hx hb dX5_init_28 rfl (lv_at hl 0 rfl) ?_
  refine zc_iconst (z := ((0 : Nat) : Int)) hx hb dX5_init_29 (by decide) ?_
  refine va_put (D := D) (ci := 4) (v := .int (iZ ((0 : Nat) : Int))) (ty := .int) (C := RX5) (T := TX5) (N := 4) hx hb hts hh_5 tyX5 tyX5_ok nmX5 hown hK hP hD hS 0 rfl rfl 3 (by decide) hh_8 (fun _ h9 => h9) rfl (by decide +kernel) rfl rfl (Nat.le_of_ble_eq_true rfl) dX5_init_30 (fun H locs hP hD hS => ?_)
  have hP : va_P D vwCl [(h0, .inr (4, [.ref q1, .ref q2, .ref q3, .int (iZ ((0 : Nat) : Int))])), (q1, .inl (cI, 30, .inl (LI (fun _ => 0)))), (q2, .inl (cI, 30, .inl (LI (fun _ => 0)))), (q3, .inl (cI, 30, .inl (LI (fun _ => 0))))] H := hP
  have hD : va_D A [(h0, .inr (4, [.ref q1, .ref q2, .ref q3, .int (iZ ((0 : Nat) : Int))])), (q1, .inl (cI, 30, .inl (LI (fun _ => 0)))), (q2, .inl (cI, 30, .inl (LI (fun _ => 0)))), (q3, .inl (cI, 30, .inl (LI (fun _ => 0))))] := hD
  exact hret (q1, q2, q3) _ _ _ _ _ _ (Nat.le_of_ble_eq_true rfl) (Nat.le_of_ble_eq_true rfl) dX5_init_33 (trivial) hP hD hS
def rmX5_size : Room := { frames := 0, cells := 0, slots := 0, locals := 0 }
set_option maxHeartbeats 4000000 in
set_option maxRecDepth 100000 in
theorem c_X5_size (l : Launch) (D : va_G) (cI cJ : ClassId) (h0 ga xa ya : Nat) (n : Nat) (G X Y : Nat → Nat) (hr : rok n G X Y) : Ci l D vwCl (tyT cI cJ) yX5_size wsX5_size rmX5_size [.ref h0] [(h0, .inr (4, [.ref ga, .ref xa, .ref ya, .int (iZ ((n : Nat) : Int))])), (ga, .inl (cI, 30, .inl (LI G))), (xa, .inl (cI, 30, .inl (LI X))), (ya, .inl (cI, 30, .inl (LI Y)))] (Unit) (fun r _ => r = iZ ((n : Nat) : Int)) (fun _ => [(h0, .inr (4, [.ref ga, .ref xa, .ref ya, .int (iZ ((n : Nat) : Int))])), (ga, .inl (cI, 30, .inl (LI G))), (xa, .inl (cI, 30, .inl (LI X))), (ya, .inl (cI, 30, .inl (LI Y)))]) := by
  have hn30 := hr.1
  refine en_i (cc := cX5_size) (maxL := 1) (by decide) rfl [(0, .ref h0)] (Nat.le_of_ble_eq_true rfl) rfl ?_
  intro p e s m args below meth c Q A hx hb hml hown hts hnm hK hP hD hA hS hret ls hl
  have hh_0 := hts (.fieldLink RX5 19 "BoundDraws$Rows" "used" "I") (by decide +kernel)
  have hh_1 := (show ∀ w ∈ wsX50, w ∈ wsX5_size by decide +kernel)
  refine lv_aload_n hx hb dX5_size_0 rfl (lv_at hl 0 rfl) ?_
  refine va_get (D := D) (ci := 4) (v := .int (iZ ((n : Nat) : Int))) (C := RX5) (T := TX5) (N := 4) hx hb hts hh_1 hown hK hP 0 rfl rfl 3 (by decide) hh_0 (fun _ h9 => h9) rfl dX5_size_1 ?_
  exact hret _ (()) _ _ _ _ _ _ (Nat.le_of_ble_eq_true rfl) (Nat.le_of_ble_eq_true rfl) rfl dX5_size_4 (rfl) hP hD hS
def rmX5_isFull : Room := { frames := 0, cells := 0, slots := 0, locals := 0 }
set_option maxHeartbeats 4000000 in
set_option maxRecDepth 100000 in
theorem c_X5_isFull (l : Launch) (D : va_G) (cI cJ : ClassId) (h0 ga xa ya : Nat) (n : Nat) (G X Y : Nat → Nat) (hr : rok n G X Y) : Ci l D vwCl (tyT cI cJ) yX5_isFull wsX5_isFull rmX5_isFull [.ref h0] [(h0, .inr (4, [.ref ga, .ref xa, .ref ya, .int (iZ ((n : Nat) : Int))])), (ga, .inl (cI, 30, .inl (LI G))), (xa, .inl (cI, 30, .inl (LI X))), (ya, .inl (cI, 30, .inl (LI Y)))] (Unit) (fun r _ => bres r (30 ≤ n)) (fun _ => [(h0, .inr (4, [.ref ga, .ref xa, .ref ya, .int (iZ ((n : Nat) : Int))])), (ga, .inl (cI, 30, .inl (LI G))), (xa, .inl (cI, 30, .inl (LI X))), (ya, .inl (cI, 30, .inl (LI Y)))]) := by
  have hn30 := hr.1
  refine en_i (cc := cX5_isFull) (maxL := 1) (by decide) rfl [(0, .ref h0)] (Nat.le_of_ble_eq_true rfl) rfl ?_
  intro p e s m args below meth c Q A hx hb hml hown hts hnm hK hP hD hA hS hret ls hl
  have hh_0 := hts (.fieldLink RX5 19 "BoundDraws$Rows" "used" "I") (by decide +kernel)
  have hh_1 := (show ∀ w ∈ wsX50, w ∈ wsX5_isFull by decide +kernel)
  refine lv_aload_n hx hb dX5_isFull_0 rfl (lv_at hl 0 rfl) ?_
  refine va_get (D := D) (ci := 4) (v := .int (iZ ((n : Nat) : Int))) (C := RX5) (T := TX5) (N := 4) hx hb hts hh_1 hown hK hP 0 rfl rfl 3 (by decide) hh_0 (fun _ h9 => h9) rfl dX5_isFull_1 ?_
  refine zc_bipush (z := ((30 : Nat) : Int)) hx hb dX5_isFull_4 (by decide) ?_
  refine zb_icmp_lt (x := ((n : Nat) : Int)) (y := ((30 : Nat) : Int)) (tgt := 13) hx hb dX5_isFull_6 (by decide) ⟨by omega, by omega⟩ ⟨by decide, by decide⟩ (fun c_6 => ?_) (fun c_6 => ?_)
  · refine zc_iconst (z := ((0 : Nat) : Int)) hx hb dX5_isFull_13 (by decide) ?_
    exact hret _ (()) _ _ _ _ _ _ (Nat.le_of_ble_eq_true rfl) (Nat.le_of_ble_eq_true rfl) rfl dX5_isFull_14 (bres_f (by omega)) hP hD hS
  · refine zc_iconst (z := ((1 : Nat) : Int)) hx hb dX5_isFull_9 (by decide) ?_
    refine lv_goto (tgt := 14) hx hb dX5_isFull_10 (by decide) ?_
    exact hret _ (()) _ _ _ _ _ _ (Nat.le_of_ble_eq_true rfl) (Nat.le_of_ble_eq_true rfl) rfl dX5_isFull_14 (bres_t (by omega)) hP hD hS
def rmX5_add : Room := { frames := 1, cells := 0, slots := 0, locals := 20 }
set_option maxHeartbeats 4000000 in
set_option maxRecDepth 100000 in
theorem c_X5_add (l : Launch) (D : va_G) (cI cJ : ClassId) (h0 ga xa ya : Nat) (n : Nat) (G X Y : Nat → Nat) (hr : rok n G X Y) (hn : n < 30) (g x y : Nat) : Cv l D vwCl (tyT cI cJ) yX5_add wsX5_add rmX5_add [.ref h0, .int (iZ ((g : Nat) : Int)), .int (iZ ((x : Nat) : Int)), .int (iZ ((y : Nat) : Int))] [(h0, .inr (4, [.ref ga, .ref xa, .ref ya, .int (iZ ((n : Nat) : Int))])), (ga, .inl (cI, 30, .inl (LI G))), (xa, .inl (cI, 30, .inl (LI X))), (ya, .inl (cI, 30, .inl (LI Y)))] (Unit) (fun _ => True) (fun _ => [(h0, .inr (4, [.ref ga, .ref xa, .ref ya, .int (iZ ((n + 1 : Nat) : Int))])), (ga, .inl (cI, 30, .inl (LI (nup G n g)))), (xa, .inl (cI, 30, .inl (LI (nup X n x)))), (ya, .inl (cI, 30, .inl (LI (nup Y n y))))]) := by
  refine en_v (cc := cX5_add) (maxL := 4) (by decide) rfl [(0, .ref h0), (1, .int (iZ ((g : Nat) : Int))), (2, .int (iZ ((x : Nat) : Int))), (3, .int (iZ ((y : Nat) : Int)))] (Nat.le_of_ble_eq_true rfl) rfl ?_
  intro p e s m args below meth c Q A hx hb hml hown hts hnm hK hP hD hA hS hret ls hl
  have hh_0 := hts (.fieldLink RX5 9 "BoundDraws$Rows" "groups" "[I") (by decide +kernel)
  have hh_1 := (show ∀ w ∈ wsX50, w ∈ wsX5_add by decide +kernel)
  have hh_2 := hts (.fieldLink RX5 19 "BoundDraws$Rows" "used" "I") (by decide +kernel)
  have hh_3 := hts (.fieldLink RX5 13 "BoundDraws$Rows" "xs" "[I") (by decide +kernel)
  have hh_4 := hts (.fieldLink RX5 16 "BoundDraws$Rows" "ys" "[I") (by decide +kernel)
  refine lv_aload_n hx hb dX5_add_0 rfl (lv_at hl 0 rfl) ?_
  refine ca_iV [] [] [] 0 0 ⟨hx, hb, hml, hown, hts⟩ (c_X5_isFull l D cI cJ h0 ga xa ya n G X Y hr) (cwV 0 hts gX5_add_X5_isFull rfl rfl rfl (by decide +kernel) ⟨(Nat.le_of_ble_eq_true rfl), (Nat.le_of_ble_eq_true rfl)⟩) hK hP hD hS hA [0, 1, 2, 3] [] rfl rfl rfl rfl (by decide) 0 rfl rfl rfl hl.1 rfl (Nat.le_of_ble_eq_true rfl) dX5_add_1 ⟨(Nat.le_of_ble_eq_true rfl), (Nat.le_of_ble_eq_true rfl)⟩ (Nat.le_of_ble_eq_true rfl) (Nat.le_of_ble_eq_true rfl) (fun r_1 u9 H locs hw hP hD hS => ?_)
  try dsimp only at hw
  obtain ⟨b1, hb1, hb2, hb3⟩ := hw
  have hP : va_P D vwCl [(h0, .inr (4, [.ref ga, .ref xa, .ref ya, .int (iZ ((n : Nat) : Int))])), (ga, .inl (cI, 30, .inl (LI G))), (xa, .inl (cI, 30, .inl (LI X))), (ya, .inl (cI, 30, .inl (LI Y)))] H := hP
  have hD : va_D A [(h0, .inr (4, [.ref ga, .ref xa, .ref ya, .int (iZ ((n : Nat) : Int))])), (ga, .inl (cI, 30, .inl (LI G))), (xa, .inl (cI, 30, .inl (LI X))), (ya, .inl (cI, 30, .inl (LI Y)))] := hD
  refine tp_i (y := (iZ (b1))) (hb1) ?_
  refine zb_if_eq (x := (b1)) (tgt := 8) hx hb dX5_add_4 (by decide) ⟨by omega, by omega⟩ (fun c_4 => ?_) (fun c_4 => ?_)
  · refine lv_aload_n hx hb dX5_add_8 rfl (lv_at hl 0 rfl) ?_
    refine va_get (D := D) (ci := 4) (v := .ref ga) (C := RX5) (T := TX5) (N := 4) hx hb hts hh_1 hown hK hP 0 rfl rfl 0 (by decide) hh_0 (fun _ h9 => h9) rfl dX5_add_9 ?_
    refine lv_aload_n hx hb dX5_add_12 rfl (lv_at hl 0 rfl) ?_
    refine va_get (D := D) (ci := 4) (v := .int (iZ ((n : Nat) : Int))) (C := RX5) (T := TX5) (N := 4) hx hb hts hh_1 hown hK hP 0 rfl rfl 3 (by decide) hh_2 (fun _ h9 => h9) rfl dX5_add_13 ?_
    refine lv_iload_n hx hb dX5_add_16 rfl (lv_at hl 1 rfl) ?_
    refine za_iast hx hb hK hP hD hS 1 0 rfl rfl (n) (by decide) rfl (by omega) dX5_add_17 (fun H locs hP hD hS => ?_)
    have hP : va_P D vwCl [(h0, .inr (4, [.ref ga, .ref xa, .ref ya, .int (iZ ((n : Nat) : Int))])), (ga, .inl (cI, 30, .inl (upd (LI G) (n) ((iZ ((g : Nat) : Int)))))), (xa, .inl (cI, 30, .inl (LI X))), (ya, .inl (cI, 30, .inl (LI Y)))] H := hP
    have hD : va_D A [(h0, .inr (4, [.ref ga, .ref xa, .ref ya, .int (iZ ((n : Nat) : Int))])), (ga, .inl (cI, 30, .inl (upd (LI G) (n) ((iZ ((g : Nat) : Int)))))), (xa, .inl (cI, 30, .inl (LI X))), (ya, .inl (cI, 30, .inl (LI Y)))] := hD
    rw [LI_up] at hP hD
    have hP : va_P D vwCl [(h0, .inr (4, [.ref ga, .ref xa, .ref ya, .int (iZ ((n : Nat) : Int))])), (ga, .inl (cI, 30, .inl (LI (nup G (n) (g))))), (xa, .inl (cI, 30, .inl (LI X))), (ya, .inl (cI, 30, .inl (LI Y)))] H := hP
    have hD : va_D A [(h0, .inr (4, [.ref ga, .ref xa, .ref ya, .int (iZ ((n : Nat) : Int))])), (ga, .inl (cI, 30, .inl (LI (nup G (n) (g))))), (xa, .inl (cI, 30, .inl (LI X))), (ya, .inl (cI, 30, .inl (LI Y)))] := hD
    refine lv_aload_n hx hb dX5_add_18 rfl (lv_at hl 0 rfl) ?_
    refine va_get (D := D) (ci := 4) (v := .ref xa) (C := RX5) (T := TX5) (N := 4) hx hb hts hh_1 hown hK hP 0 rfl rfl 1 (by decide) hh_3 (fun _ h9 => h9) rfl dX5_add_19 ?_
    refine lv_aload_n hx hb dX5_add_22 rfl (lv_at hl 0 rfl) ?_
    refine va_get (D := D) (ci := 4) (v := .int (iZ ((n : Nat) : Int))) (C := RX5) (T := TX5) (N := 4) hx hb hts hh_1 hown hK hP 0 rfl rfl 3 (by decide) hh_2 (fun _ h9 => h9) rfl dX5_add_23 ?_
    refine lv_iload_n hx hb dX5_add_26 rfl (lv_at hl 2 rfl) ?_
    refine za_iast hx hb hK hP hD hS 2 0 rfl rfl (n) (by decide) rfl (by omega) dX5_add_27 (fun H locs hP hD hS => ?_)
    have hP : va_P D vwCl [(h0, .inr (4, [.ref ga, .ref xa, .ref ya, .int (iZ ((n : Nat) : Int))])), (ga, .inl (cI, 30, .inl (LI (nup G (n) (g))))), (xa, .inl (cI, 30, .inl (upd (LI X) (n) ((iZ ((x : Nat) : Int)))))), (ya, .inl (cI, 30, .inl (LI Y)))] H := hP
    have hD : va_D A [(h0, .inr (4, [.ref ga, .ref xa, .ref ya, .int (iZ ((n : Nat) : Int))])), (ga, .inl (cI, 30, .inl (LI (nup G (n) (g))))), (xa, .inl (cI, 30, .inl (upd (LI X) (n) ((iZ ((x : Nat) : Int)))))), (ya, .inl (cI, 30, .inl (LI Y)))] := hD
    rw [LI_up] at hP hD
    have hP : va_P D vwCl [(h0, .inr (4, [.ref ga, .ref xa, .ref ya, .int (iZ ((n : Nat) : Int))])), (ga, .inl (cI, 30, .inl (LI (nup G (n) (g))))), (xa, .inl (cI, 30, .inl (LI (nup X (n) (x))))), (ya, .inl (cI, 30, .inl (LI Y)))] H := hP
    have hD : va_D A [(h0, .inr (4, [.ref ga, .ref xa, .ref ya, .int (iZ ((n : Nat) : Int))])), (ga, .inl (cI, 30, .inl (LI (nup G (n) (g))))), (xa, .inl (cI, 30, .inl (LI (nup X (n) (x))))), (ya, .inl (cI, 30, .inl (LI Y)))] := hD
    refine lv_aload_n hx hb dX5_add_28 rfl (lv_at hl 0 rfl) ?_
    refine va_get (D := D) (ci := 4) (v := .ref ya) (C := RX5) (T := TX5) (N := 4) hx hb hts hh_1 hown hK hP 0 rfl rfl 2 (by decide) hh_4 (fun _ h9 => h9) rfl dX5_add_29 ?_
    refine lv_aload_n hx hb dX5_add_32 rfl (lv_at hl 0 rfl) ?_
    refine va_get (D := D) (ci := 4) (v := .int (iZ ((n : Nat) : Int))) (C := RX5) (T := TX5) (N := 4) hx hb hts hh_1 hown hK hP 0 rfl rfl 3 (by decide) hh_2 (fun _ h9 => h9) rfl dX5_add_33 ?_
    refine lv_iload_n hx hb dX5_add_36 rfl (lv_at hl 3 rfl) ?_
    refine za_iast hx hb hK hP hD hS 3 0 rfl rfl (n) (by decide) rfl (by omega) dX5_add_37 (fun H locs hP hD hS => ?_)
    have hP : va_P D vwCl [(h0, .inr (4, [.ref ga, .ref xa, .ref ya, .int (iZ ((n : Nat) : Int))])), (ga, .inl (cI, 30, .inl (LI (nup G (n) (g))))), (xa, .inl (cI, 30, .inl (LI (nup X (n) (x))))), (ya, .inl (cI, 30, .inl (upd (LI Y) (n) ((iZ ((y : Nat) : Int))))))] H := hP
    have hD : va_D A [(h0, .inr (4, [.ref ga, .ref xa, .ref ya, .int (iZ ((n : Nat) : Int))])), (ga, .inl (cI, 30, .inl (LI (nup G (n) (g))))), (xa, .inl (cI, 30, .inl (LI (nup X (n) (x))))), (ya, .inl (cI, 30, .inl (upd (LI Y) (n) ((iZ ((y : Nat) : Int))))))] := hD
    rw [LI_up] at hP hD
    have hP : va_P D vwCl [(h0, .inr (4, [.ref ga, .ref xa, .ref ya, .int (iZ ((n : Nat) : Int))])), (ga, .inl (cI, 30, .inl (LI (nup G (n) (g))))), (xa, .inl (cI, 30, .inl (LI (nup X (n) (x))))), (ya, .inl (cI, 30, .inl (LI (nup Y (n) (y)))))] H := hP
    have hD : va_D A [(h0, .inr (4, [.ref ga, .ref xa, .ref ya, .int (iZ ((n : Nat) : Int))])), (ga, .inl (cI, 30, .inl (LI (nup G (n) (g))))), (xa, .inl (cI, 30, .inl (LI (nup X (n) (x))))), (ya, .inl (cI, 30, .inl (LI (nup Y (n) (y)))))] := hD
    refine lv_aload_n hx hb dX5_add_38 rfl (lv_at hl 0 rfl) ?_
    refine lv_dup hx hb dX5_add_39 rfl ?_
    refine va_get (D := D) (ci := 4) (v := .int (iZ ((n : Nat) : Int))) (C := RX5) (T := TX5) (N := 4) hx hb hts hh_1 hown hK hP 0 rfl rfl 3 (by decide) hh_2 (fun _ h9 => h9) rfl dX5_add_40 ?_
    refine zc_iconst (z := ((1 : Nat) : Int)) hx hb dX5_add_43 (by decide) ?_
    refine zi_add (z := ((n + 1 : Nat) : Int)) hx hb dX5_add_44 (by omega) ?_
    refine va_put (D := D) (ci := 4) (v := .int (iZ ((n + 1 : Nat) : Int))) (ty := .int) (C := RX5) (T := TX5) (N := 4) hx hb hts hh_1 tyX5 tyX5_ok nmX5 hown hK hP hD hS 0 rfl rfl 3 (by decide) hh_2 (fun _ h9 => h9) rfl (by decide +kernel) rfl rfl (Nat.le_of_ble_eq_true rfl) dX5_add_45 (fun H locs hP hD hS => ?_)
    have hP : va_P D vwCl [(h0, .inr (4, [.ref ga, .ref xa, .ref ya, .int (iZ ((n + 1 : Nat) : Int))])), (ga, .inl (cI, 30, .inl (LI (nup G (n) (g))))), (xa, .inl (cI, 30, .inl (LI (nup X (n) (x))))), (ya, .inl (cI, 30, .inl (LI (nup Y (n) (y)))))] H := hP
    have hD : va_D A [(h0, .inr (4, [.ref ga, .ref xa, .ref ya, .int (iZ ((n + 1 : Nat) : Int))])), (ga, .inl (cI, 30, .inl (LI (nup G (n) (g))))), (xa, .inl (cI, 30, .inl (LI (nup X (n) (x))))), (ya, .inl (cI, 30, .inl (LI (nup Y (n) (y)))))] := hD
    exact hret (()) _ _ _ _ _ _ (Nat.le_of_ble_eq_true rfl) (Nat.le_of_ble_eq_true rfl) dX5_add_48 (trivial) hP hD hS
  · exfalso; omega
def rmX5_removeLast : Room := { frames := 0, cells := 0, slots := 0, locals := 0 }
set_option maxHeartbeats 4000000 in
set_option maxRecDepth 100000 in
theorem c_X5_removeLast (l : Launch) (D : va_G) (cI cJ : ClassId) (h0 ga xa ya : Nat) (n : Nat) (G X Y : Nat → Nat) (hr : rok n G X Y) (hn : 0 < n) : Cv l D vwCl (tyT cI cJ) yX5_removeLast wsX5_removeLast rmX5_removeLast [.ref h0] [(h0, .inr (4, [.ref ga, .ref xa, .ref ya, .int (iZ ((n : Nat) : Int))])), (ga, .inl (cI, 30, .inl (LI G))), (xa, .inl (cI, 30, .inl (LI X))), (ya, .inl (cI, 30, .inl (LI Y)))] (Unit) (fun _ => True) (fun _ => [(h0, .inr (4, [.ref ga, .ref xa, .ref ya, .int (iZ ((n - 1 : Nat) : Int))])), (ga, .inl (cI, 30, .inl (LI G))), (xa, .inl (cI, 30, .inl (LI X))), (ya, .inl (cI, 30, .inl (LI Y)))]) := by
  have hn30 := hr.1
  refine en_v (cc := cX5_removeLast) (maxL := 1) (by decide) rfl [(0, .ref h0)] (Nat.le_of_ble_eq_true rfl) rfl ?_
  intro p e s m args below meth c Q A hx hb hml hown hts hnm hK hP hD hA hS hret ls hl
  have hh_0 := hts (.fieldLink RX5 19 "BoundDraws$Rows" "used" "I") (by decide +kernel)
  have hh_1 := (show ∀ w ∈ wsX50, w ∈ wsX5_removeLast by decide +kernel)
  refine lv_aload_n hx hb dX5_removeLast_0 rfl (lv_at hl 0 rfl) ?_
  refine va_get (D := D) (ci := 4) (v := .int (iZ ((n : Nat) : Int))) (C := RX5) (T := TX5) (N := 4) hx hb hts hh_1 hown hK hP 0 rfl rfl 3 (by decide) hh_0 (fun _ h9 => h9) rfl dX5_removeLast_1 ?_
  refine zb_if_le (x := ((n : Nat) : Int)) (tgt := 17) hx hb dX5_removeLast_4 (by decide) ⟨by omega, by omega⟩ (fun c_4 => ?_) (fun c_4 => ?_)
  · exfalso; omega
  · refine lv_aload_n hx hb dX5_removeLast_7 rfl (lv_at hl 0 rfl) ?_
    refine lv_dup hx hb dX5_removeLast_8 rfl ?_
    refine va_get (D := D) (ci := 4) (v := .int (iZ ((n : Nat) : Int))) (C := RX5) (T := TX5) (N := 4) hx hb hts hh_1 hown hK hP 0 rfl rfl 3 (by decide) hh_0 (fun _ h9 => h9) rfl dX5_removeLast_9 ?_
    refine zc_iconst (z := ((1 : Nat) : Int)) hx hb dX5_removeLast_12 (by decide) ?_
    refine zi_sub (z := ((n - 1 : Nat) : Int)) hx hb dX5_removeLast_13 (by omega) ?_
    refine va_put (D := D) (ci := 4) (v := .int (iZ ((n - 1 : Nat) : Int))) (ty := .int) (C := RX5) (T := TX5) (N := 4) hx hb hts hh_1 tyX5 tyX5_ok nmX5 hown hK hP hD hS 0 rfl rfl 3 (by decide) hh_0 (fun _ h9 => h9) rfl (by decide +kernel) rfl rfl (Nat.le_of_ble_eq_true rfl) dX5_removeLast_14 (fun H locs hP hD hS => ?_)
    have hP : va_P D vwCl [(h0, .inr (4, [.ref ga, .ref xa, .ref ya, .int (iZ ((n - 1 : Nat) : Int))])), (ga, .inl (cI, 30, .inl (LI G))), (xa, .inl (cI, 30, .inl (LI X))), (ya, .inl (cI, 30, .inl (LI Y)))] H := hP
    have hD : va_D A [(h0, .inr (4, [.ref ga, .ref xa, .ref ya, .int (iZ ((n - 1 : Nat) : Int))])), (ga, .inl (cI, 30, .inl (LI G))), (xa, .inl (cI, 30, .inl (LI X))), (ya, .inl (cI, 30, .inl (LI Y)))] := hD
    exact hret (()) _ _ _ _ _ _ (Nat.le_of_ble_eq_true rfl) (Nat.le_of_ble_eq_true rfl) dX5_removeLast_17 (trivial) hP hD hS
def rmX5_empty : Room := { frames := 0, cells := 0, slots := 0, locals := 0 }
set_option maxHeartbeats 4000000 in
set_option maxRecDepth 100000 in
theorem c_X5_empty (l : Launch) (D : va_G) (cI cJ : ClassId) (h0 ga xa ya : Nat) (n : Nat) (G X Y : Nat → Nat) : Cv l D vwCl (tyT cI cJ) yX5_empty wsX5_empty rmX5_empty [.ref h0] [(h0, .inr (4, [.ref ga, .ref xa, .ref ya, .int (iZ ((n : Nat) : Int))])), (ga, .inl (cI, 30, .inl (LI G))), (xa, .inl (cI, 30, .inl (LI X))), (ya, .inl (cI, 30, .inl (LI Y)))] (Unit) (fun _ => True) (fun _ => [(h0, .inr (4, [.ref ga, .ref xa, .ref ya, .int (iZ ((0 : Nat) : Int))])), (ga, .inl (cI, 30, .inl (LI G))), (xa, .inl (cI, 30, .inl (LI X))), (ya, .inl (cI, 30, .inl (LI Y)))]) := by
  refine en_v (cc := cX5_empty) (maxL := 1) (by decide) rfl [(0, .ref h0)] (Nat.le_of_ble_eq_true rfl) rfl ?_
  intro p e s m args below meth c Q A hx hb hml hown hts hnm hK hP hD hA hS hret ls hl
  have hh_0 := hts (.fieldLink RX5 19 "BoundDraws$Rows" "used" "I") (by decide +kernel)
  have hh_1 := (show ∀ w ∈ wsX50, w ∈ wsX5_empty by decide +kernel)
  refine lv_aload_n hx hb dX5_empty_0 rfl (lv_at hl 0 rfl) ?_
  refine zc_iconst (z := ((0 : Nat) : Int)) hx hb dX5_empty_1 (by decide) ?_
  refine va_put (D := D) (ci := 4) (v := .int (iZ ((0 : Nat) : Int))) (ty := .int) (C := RX5) (T := TX5) (N := 4) hx hb hts hh_1 tyX5 tyX5_ok nmX5 hown hK hP hD hS 0 rfl rfl 3 (by decide) hh_0 (fun _ h9 => h9) rfl (by decide +kernel) rfl rfl (Nat.le_of_ble_eq_true rfl) dX5_empty_2 (fun H locs hP hD hS => ?_)
  have hP : va_P D vwCl [(h0, .inr (4, [.ref ga, .ref xa, .ref ya, .int (iZ ((0 : Nat) : Int))])), (ga, .inl (cI, 30, .inl (LI G))), (xa, .inl (cI, 30, .inl (LI X))), (ya, .inl (cI, 30, .inl (LI Y)))] H := hP
  have hD : va_D A [(h0, .inr (4, [.ref ga, .ref xa, .ref ya, .int (iZ ((0 : Nat) : Int))])), (ga, .inl (cI, 30, .inl (LI G))), (xa, .inl (cI, 30, .inl (LI X))), (ya, .inl (cI, 30, .inl (LI Y)))] := hD
  exact hret (()) _ _ _ _ _ _ (Nat.le_of_ble_eq_true rfl) (Nat.le_of_ble_eq_true rfl) dX5_empty_5 (trivial) hP hD hS
def rmX5_difference : Room := { frames := 0, cells := 0, slots := 0, locals := 0 }
set_option maxHeartbeats 4000000 in
set_option maxRecDepth 100000 in
theorem c_X5_difference (l : Launch) (D : va_G) (cI cJ : ClassId) (h0 ga xa ya : Nat) (n : Nat) (G X Y : Nat → Nat) (hr : rok n G X Y) (i : Nat) (hi : i < n) : Ci l D vwCl (tyT cI cJ) yX5_difference wsX5_difference rmX5_difference [.ref h0, .int (iZ ((i : Nat) : Int))] [(h0, .inr (4, [.ref ga, .ref xa, .ref ya, .int (iZ ((n : Nat) : Int))])), (ga, .inl (cI, 30, .inl (LI G))), (xa, .inl (cI, 30, .inl (LI X))), (ya, .inl (cI, 30, .inl (LI Y)))] (Unit) (fun r _ => r = iZ (rwD X Y i)) (fun _ => [(h0, .inr (4, [.ref ga, .ref xa, .ref ya, .int (iZ ((n : Nat) : Int))])), (ga, .inl (cI, 30, .inl (LI G))), (xa, .inl (cI, 30, .inl (LI X))), (ya, .inl (cI, 30, .inl (LI Y)))]) := by
  have hn30 := hr.1
  refine en_i (cc := cX5_difference) (maxL := 2) (by decide) rfl [(0, .ref h0), (1, .int (iZ ((i : Nat) : Int)))] (Nat.le_of_ble_eq_true rfl) rfl ?_
  intro p e s m args below meth c Q A hx hb hml hown hts hnm hK hP hD hA hS hret ls hl
  have hh_0 := hts (.fieldLink RX5 19 "BoundDraws$Rows" "used" "I") (by decide +kernel)
  have hh_1 := (show ∀ w ∈ wsX50, w ∈ wsX5_difference by decide +kernel)
  have hh_2 := hts (.fieldLink RX5 13 "BoundDraws$Rows" "xs" "[I") (by decide +kernel)
  have hh_3 := hts (.fieldLink RX5 16 "BoundDraws$Rows" "ys" "[I") (by decide +kernel)
  refine lv_iload_n hx hb dX5_difference_0 rfl (lv_at hl 1 rfl) ?_
  refine zb_if_lt (x := ((i : Nat) : Int)) (tgt := 28) hx hb dX5_difference_1 (by decide) ⟨by omega, by omega⟩ (fun c_1 => ?_) (fun c_1 => ?_)
  · exfalso; omega
  · refine lv_iload_n hx hb dX5_difference_4 rfl (lv_at hl 1 rfl) ?_
    refine lv_aload_n hx hb dX5_difference_5 rfl (lv_at hl 0 rfl) ?_
    refine va_get (D := D) (ci := 4) (v := .int (iZ ((n : Nat) : Int))) (C := RX5) (T := TX5) (N := 4) hx hb hts hh_1 hown hK hP 0 rfl rfl 3 (by decide) hh_0 (fun _ h9 => h9) rfl dX5_difference_6 ?_
    refine zb_icmp_ge (x := ((i : Nat) : Int)) (y := ((n : Nat) : Int)) (tgt := 28) hx hb dX5_difference_9 (by decide) ⟨by omega, by omega⟩ ⟨by omega, by omega⟩ (fun c_9 => ?_) (fun c_9 => ?_)
    · exfalso; omega
    · refine lv_aload_n hx hb dX5_difference_12 rfl (lv_at hl 0 rfl) ?_
      refine va_get (D := D) (ci := 4) (v := .ref xa) (C := RX5) (T := TX5) (N := 4) hx hb hts hh_1 hown hK hP 0 rfl rfl 1 (by decide) hh_2 (fun _ h9 => h9) rfl dX5_difference_13 ?_
      refine lv_iload_n hx hb dX5_difference_16 rfl (lv_at hl 1 rfl) ?_
      refine za_iald hx hb hK hP 2 0 rfl rfl (i) (v := ((X i : Nat) : Int)) (by decide) rfl (by omega) (rfl) dX5_difference_17 ?_
      refine lv_aload_n hx hb dX5_difference_18 rfl (lv_at hl 0 rfl) ?_
      refine va_get (D := D) (ci := 4) (v := .ref ya) (C := RX5) (T := TX5) (N := 4) hx hb hts hh_1 hown hK hP 0 rfl rfl 2 (by decide) hh_3 (fun _ h9 => h9) rfl dX5_difference_19 ?_
      refine lv_iload_n hx hb dX5_difference_22 rfl (lv_at hl 1 rfl) ?_
      refine za_iald hx hb hK hP 3 0 rfl rfl (i) (v := ((Y i : Nat) : Int)) (by decide) rfl (by omega) (rfl) dX5_difference_23 ?_
      refine zi_sub (z := (((X i : Nat) : Int) - ((Y i : Nat) : Int))) hx hb dX5_difference_24 rfl ?_
      refine lv_goto (tgt := 29) hx hb dX5_difference_25 (by decide) ?_
      exact hret _ (()) _ _ _ _ _ _ (Nat.le_of_ble_eq_true rfl) (Nat.le_of_ble_eq_true rfl) rfl dX5_difference_29 (rfl) hP hD hS
def rmX5_sizeOfGroup : Room := { frames := 0, cells := 0, slots := 0, locals := 0 }
set_option maxHeartbeats 4000000 in
set_option maxRecDepth 100000 in
theorem c_X5_sizeOfGroup (l : Launch) (D : va_G) (cI cJ : ClassId) (h0 ga xa ya : Nat) (n : Nat) (G X Y : Nat → Nat) (hr : rok n G X Y) (g : Nat) (hg : g ≤ 7) : Ci l D vwCl (tyT cI cJ) yX5_sizeOfGroup wsX5_sizeOfGroup rmX5_sizeOfGroup [.ref h0, .int (iZ ((g : Nat) : Int))] [(h0, .inr (4, [.ref ga, .ref xa, .ref ya, .int (iZ ((n : Nat) : Int))])), (ga, .inl (cI, 30, .inl (LI G))), (xa, .inl (cI, 30, .inl (LI X))), (ya, .inl (cI, 30, .inl (LI Y)))] (Unit) (fun r _ => r = iZ ((grS G n g : Nat) : Int)) (fun _ => [(h0, .inr (4, [.ref ga, .ref xa, .ref ya, .int (iZ ((n : Nat) : Int))])), (ga, .inl (cI, 30, .inl (LI G))), (xa, .inl (cI, 30, .inl (LI X))), (ya, .inl (cI, 30, .inl (LI Y)))]) := by
  have hn30 := hr.1
  refine en_i (cc := cX5_sizeOfGroup) (maxL := 4) (by decide) rfl [(0, .ref h0), (1, .int (iZ ((g : Nat) : Int)))] (Nat.le_of_ble_eq_true rfl) rfl ?_
  intro p e s m args below meth c Q A hx hb hml hown hts hnm hK hP hD hA hS hret ls hl
  have hh_0 := hts (.fieldLink RX5 19 "BoundDraws$Rows" "used" "I") (by decide +kernel)
  have hh_1 := (show ∀ w ∈ wsX50, w ∈ wsX5_sizeOfGroup by decide +kernel)
  have hh_2 := hts (.fieldLink RX5 9 "BoundDraws$Rows" "groups" "[I") (by decide +kernel)
  refine zc_iconst (z := ((0 : Nat) : Int)) hx hb dX5_sizeOfGroup_0 (by decide) ?_
  refine tp_i (y := (iZ ((grS G 0 g : Nat) : Int))) (rfl) ?_
  refine lv_istore_n (lv' := [(2, .int (iZ ((grS G 0 g : Nat) : Int))), (0, .ref h0), (1, .int (iZ ((g : Nat) : Int)))]) hx hb dX5_sizeOfGroup_1 rfl hl (by decide) rfl (fun ls hl => ?_)
  refine zc_iconst (z := ((0 : Nat) : Int)) hx hb dX5_sizeOfGroup_2 (by decide) ?_
  refine lv_istore_n (lv' := [(3, .int (iZ ((0 : Nat) : Int))), (2, .int (iZ ((grS G 0 g : Nat) : Int))), (0, .ref h0), (1, .int (iZ ((g : Nat) : Int)))]) hx hb dX5_sizeOfGroup_3 rfl hl (by decide) rfl (fun ls hl => ?_)
  have pt_4 : ∀ f : Nat, ∀ (i : Nat), (hi : i ≤ n) → (hf : n < i + f) → (H : Heap) → (locs : List Loc) → va_P D vwCl [(h0, .inr (4, [.ref ga, .ref xa, .ref ya, .int (iZ ((n : Nat) : Int))])), (ga, .inl (cI, 30, .inl (LI G))), (xa, .inl (cI, 30, .inl (LI X))), (ya, .inl (cI, 30, .inl (LI Y)))] H → va_D A [(h0, .inr (4, [.ref ga, .ref xa, .ref ya, .int (iZ ((n : Nat) : Int))])), (ga, .inl (cI, 30, .inl (LI G))), (xa, .inl (cI, 30, .inl (LI X))), (ya, .inl (cI, 30, .inl (LI Y)))] → va_S A s.heap H locs → (ls : Array Slot) → lv_has ls 4 [(3, .int (iZ ((i : Nat) : Int))), (2, .int (iZ ((grS G i g : Nat) : Int))), (0, .ref h0), (1, .int (iZ ((g : Nat) : Int)))] → W p l e rmX5_sizeOfGroup s m args below meth c H locs 0 0 Q (F0 m 4 ls []) := by
    intro f
    induction f with
    | zero =>
      intro i hi hf H locs hP hD hS ls hl
      exfalso; omega
    | succ f ih =>
      intro i hi hf H locs hP hD hS ls hl
      refine lv_iload_n hx hb dX5_sizeOfGroup_4 rfl (lv_at hl 0 rfl) ?_
      refine lv_aload_n hx hb dX5_sizeOfGroup_5 rfl (lv_at hl 2 rfl) ?_
      refine va_get (D := D) (ci := 4) (v := .int (iZ ((n : Nat) : Int))) (C := RX5) (T := TX5) (N := 4) hx hb hts hh_1 hown hK hP 0 rfl rfl 3 (by decide) hh_0 (fun _ h9 => h9) rfl dX5_sizeOfGroup_6 ?_
      refine zb_icmp_ge (x := ((i : Nat) : Int)) (y := ((n : Nat) : Int)) (tgt := 31) hx hb dX5_sizeOfGroup_9 (by decide) ⟨by omega, by omega⟩ ⟨by omega, by omega⟩ (fun c_9 => ?_) (fun c_9 => ?_)
      · refine lv_iload_n hx hb dX5_sizeOfGroup_31 rfl (lv_at hl 1 rfl) ?_
        exact hret _ (()) _ _ _ _ _ _ (Nat.le_of_ble_eq_true rfl) (Nat.le_of_ble_eq_true rfl) rfl dX5_sizeOfGroup_32 (by have e9 : i = n := (by omega); rw [e9]) hP hD hS
      · have pt_25 : (H : Heap) → (locs : List Loc) → va_P D vwCl [(h0, .inr (4, [.ref ga, .ref xa, .ref ya, .int (iZ ((n : Nat) : Int))])), (ga, .inl (cI, 30, .inl (LI G))), (xa, .inl (cI, 30, .inl (LI X))), (ya, .inl (cI, 30, .inl (LI Y)))] H → va_D A [(h0, .inr (4, [.ref ga, .ref xa, .ref ya, .int (iZ ((n : Nat) : Int))])), (ga, .inl (cI, 30, .inl (LI G))), (xa, .inl (cI, 30, .inl (LI X))), (ya, .inl (cI, 30, .inl (LI Y)))] → va_S A s.heap H locs → (ls : Array Slot) → lv_has ls 4 [(3, .int (iZ ((i : Nat) : Int))), (2, .int (iZ ((grS G (i + 1) g : Nat) : Int))), (0, .ref h0), (1, .int (iZ ((g : Nat) : Int)))] → W p l e rmX5_sizeOfGroup s m args below meth c H locs 0 0 Q (F0 m 25 ls []) := by
          intro   H locs hP hD hS ls hl
          refine lv_iinc (v := iZ ((i + 1 : Nat) : Int)) (lv' := [(3, .int (iZ ((i + 1 : Nat) : Int))), (2, .int (iZ ((grS G (i + 1) g : Nat) : Int))), (0, .ref h0), (1, .int (iZ ((g : Nat) : Int)))]) hx hb dX5_sizeOfGroup_25 hl (k := 0) rfl (zi_inc (by omega)) (by decide) rfl (fun ls hl => ?_)
          refine lv_goto (tgt := 4) hx hb dX5_sizeOfGroup_28 (by decide) ?_
          exact ih (i + 1) (by omega) (by omega) _ _ hP hD hS ls (lv_sub hl [0, 1, 2, 3] rfl)
        have hb9 := hr.2 i (by omega)
        refine lv_aload_n hx hb dX5_sizeOfGroup_12 rfl (lv_at hl 2 rfl) ?_
        refine va_get (D := D) (ci := 4) (v := .ref ga) (C := RX5) (T := TX5) (N := 4) hx hb hts hh_1 hown hK hP 0 rfl rfl 0 (by decide) hh_2 (fun _ h9 => h9) rfl dX5_sizeOfGroup_13 ?_
        refine lv_iload_n hx hb dX5_sizeOfGroup_16 rfl (lv_at hl 0 rfl) ?_
        refine za_iald hx hb hK hP 1 0 rfl rfl (i) (v := ((G i : Nat) : Int)) (by decide) rfl (by omega) (rfl) dX5_sizeOfGroup_17 ?_
        refine lv_iload_n hx hb dX5_sizeOfGroup_18 rfl (lv_at hl 3 rfl) ?_
        refine zb_icmp_ne (x := ((G i : Nat) : Int)) (y := ((g : Nat) : Int)) (tgt := 25) hx hb dX5_sizeOfGroup_19 (by decide) ⟨by omega, by omega⟩ ⟨by omega, by omega⟩ (fun c_19 => ?_) (fun c_19 => ?_)
        · have e9 : grS G (i + 1) g = grS G i g := cnt_f (by simp; omega)
          rw [← e9] at hl
          exact pt_25   _ _ hP hD hS ls (lv_sub hl [0, 1, 2, 3] rfl)
        · refine lv_iinc (v := iZ ((grS G (i + 1) g : Nat) : Int)) (lv' := [(2, .int (iZ ((grS G (i + 1) g : Nat) : Int))), (3, .int (iZ ((i : Nat) : Int))), (0, .ref h0), (1, .int (iZ ((g : Nat) : Int)))]) hx hb dX5_sizeOfGroup_22 hl (k := 1) rfl (zi_inc (by have e9 : grS G (i + 1) g = grS G i g + 1 := cnt_t (by simp; omega); omega)) (by decide) rfl (fun ls hl => ?_)
          exact pt_25   _ _ hP hD hS ls (lv_sub hl [1, 0, 2, 3] rfl)
  exact pt_4 (n + 1) 0 (by omega) (by omega) _ _ hP hD hS ls (lv_sub hl [0, 1, 2, 3] rfl)
def rmX5_differenceOfGroup : Room := { frames := 0, cells := 0, slots := 0, locals := 0 }
set_option maxHeartbeats 4000000 in
set_option maxRecDepth 100000 in
theorem c_X5_differenceOfGroup (l : Launch) (D : va_G) (cI cJ : ClassId) (h0 ga xa ya : Nat) (n : Nat) (G X Y : Nat → Nat) (hr : rok n G X Y) (g : Nat) (hg : g ≤ 7) : Ci l D vwCl (tyT cI cJ) yX5_differenceOfGroup wsX5_differenceOfGroup rmX5_differenceOfGroup [.ref h0, .int (iZ ((g : Nat) : Int))] [(h0, .inr (4, [.ref ga, .ref xa, .ref ya, .int (iZ ((n : Nat) : Int))])), (ga, .inl (cI, 30, .inl (LI G))), (xa, .inl (cI, 30, .inl (LI X))), (ya, .inl (cI, 30, .inl (LI Y)))] (Unit) (fun r _ => r = iZ (grD G X Y n g)) (fun _ => [(h0, .inr (4, [.ref ga, .ref xa, .ref ya, .int (iZ ((n : Nat) : Int))])), (ga, .inl (cI, 30, .inl (LI G))), (xa, .inl (cI, 30, .inl (LI X))), (ya, .inl (cI, 30, .inl (LI Y)))]) := by
  have hn30 := hr.1
  refine en_i (cc := cX5_differenceOfGroup) (maxL := 4) (by decide) rfl [(0, .ref h0), (1, .int (iZ ((g : Nat) : Int)))] (Nat.le_of_ble_eq_true rfl) rfl ?_
  intro p e s m args below meth c Q A hx hb hml hown hts hnm hK hP hD hA hS hret ls hl
  have hh_0 := hts (.fieldLink RX5 19 "BoundDraws$Rows" "used" "I") (by decide +kernel)
  have hh_1 := (show ∀ w ∈ wsX50, w ∈ wsX5_differenceOfGroup by decide +kernel)
  have hh_2 := hts (.fieldLink RX5 9 "BoundDraws$Rows" "groups" "[I") (by decide +kernel)
  have hh_3 := hts (.fieldLink RX5 13 "BoundDraws$Rows" "xs" "[I") (by decide +kernel)
  have hh_4 := hts (.fieldLink RX5 16 "BoundDraws$Rows" "ys" "[I") (by decide +kernel)
  refine zc_iconst (z := ((0 : Nat) : Int)) hx hb dX5_differenceOfGroup_0 (by decide) ?_
  refine tp_i (y := (iZ (grD G X Y 0 g))) (rfl) ?_
  refine lv_istore_n (lv' := [(2, .int (iZ (grD G X Y 0 g))), (0, .ref h0), (1, .int (iZ ((g : Nat) : Int)))]) hx hb dX5_differenceOfGroup_1 rfl hl (by decide) rfl (fun ls hl => ?_)
  refine zc_iconst (z := ((0 : Nat) : Int)) hx hb dX5_differenceOfGroup_2 (by decide) ?_
  refine lv_istore_n (lv' := [(3, .int (iZ ((0 : Nat) : Int))), (2, .int (iZ (grD G X Y 0 g))), (0, .ref h0), (1, .int (iZ ((g : Nat) : Int)))]) hx hb dX5_differenceOfGroup_3 rfl hl (by decide) rfl (fun ls hl => ?_)
  have pt_4 : ∀ f : Nat, ∀ (i : Nat), (hi : i ≤ n) → (hf : n < i + f) → (H : Heap) → (locs : List Loc) → va_P D vwCl [(h0, .inr (4, [.ref ga, .ref xa, .ref ya, .int (iZ ((n : Nat) : Int))])), (ga, .inl (cI, 30, .inl (LI G))), (xa, .inl (cI, 30, .inl (LI X))), (ya, .inl (cI, 30, .inl (LI Y)))] H → va_D A [(h0, .inr (4, [.ref ga, .ref xa, .ref ya, .int (iZ ((n : Nat) : Int))])), (ga, .inl (cI, 30, .inl (LI G))), (xa, .inl (cI, 30, .inl (LI X))), (ya, .inl (cI, 30, .inl (LI Y)))] → va_S A s.heap H locs → (ls : Array Slot) → lv_has ls 4 [(3, .int (iZ ((i : Nat) : Int))), (2, .int (iZ (grD G X Y i g))), (0, .ref h0), (1, .int (iZ ((g : Nat) : Int)))] → W p l e rmX5_differenceOfGroup s m args below meth c H locs 0 0 Q (F0 m 4 ls []) := by
    intro f
    induction f with
    | zero =>
      intro i hi hf H locs hP hD hS ls hl
      exfalso; omega
    | succ f ih =>
      intro i hi hf H locs hP hD hS ls hl
      refine lv_iload_n hx hb dX5_differenceOfGroup_4 rfl (lv_at hl 0 rfl) ?_
      refine lv_aload_n hx hb dX5_differenceOfGroup_5 rfl (lv_at hl 2 rfl) ?_
      refine va_get (D := D) (ci := 4) (v := .int (iZ ((n : Nat) : Int))) (C := RX5) (T := TX5) (N := 4) hx hb hts hh_1 hown hK hP 0 rfl rfl 3 (by decide) hh_0 (fun _ h9 => h9) rfl dX5_differenceOfGroup_6 ?_
      refine zb_icmp_ge (x := ((i : Nat) : Int)) (y := ((n : Nat) : Int)) (tgt := 44) hx hb dX5_differenceOfGroup_9 (by decide) ⟨by omega, by omega⟩ ⟨by omega, by omega⟩ (fun c_9 => ?_) (fun c_9 => ?_)
      · refine lv_iload_n hx hb dX5_differenceOfGroup_44 rfl (lv_at hl 1 rfl) ?_
        exact hret _ (()) _ _ _ _ _ _ (Nat.le_of_ble_eq_true rfl) (Nat.le_of_ble_eq_true rfl) rfl dX5_differenceOfGroup_45 (by have e9 : i = n := (by omega); rw [e9]) hP hD hS
      · have pt_38 : (H : Heap) → (locs : List Loc) → va_P D vwCl [(h0, .inr (4, [.ref ga, .ref xa, .ref ya, .int (iZ ((n : Nat) : Int))])), (ga, .inl (cI, 30, .inl (LI G))), (xa, .inl (cI, 30, .inl (LI X))), (ya, .inl (cI, 30, .inl (LI Y)))] H → va_D A [(h0, .inr (4, [.ref ga, .ref xa, .ref ya, .int (iZ ((n : Nat) : Int))])), (ga, .inl (cI, 30, .inl (LI G))), (xa, .inl (cI, 30, .inl (LI X))), (ya, .inl (cI, 30, .inl (LI Y)))] → va_S A s.heap H locs → (ls : Array Slot) → lv_has ls 4 [(3, .int (iZ ((i : Nat) : Int))), (2, .int (iZ (grD G X Y (i + 1) g))), (0, .ref h0), (1, .int (iZ ((g : Nat) : Int)))] → W p l e rmX5_differenceOfGroup s m args below meth c H locs 0 0 Q (F0 m 38 ls []) := by
          intro   H locs hP hD hS ls hl
          refine lv_iinc (v := iZ ((i + 1 : Nat) : Int)) (lv' := [(3, .int (iZ ((i + 1 : Nat) : Int))), (2, .int (iZ (grD G X Y (i + 1) g))), (0, .ref h0), (1, .int (iZ ((g : Nat) : Int)))]) hx hb dX5_differenceOfGroup_38 hl (k := 0) rfl (zi_inc (by omega)) (by decide) rfl (fun ls hl => ?_)
          refine lv_goto (tgt := 4) hx hb dX5_differenceOfGroup_41 (by decide) ?_
          exact ih (i + 1) (by omega) (by omega) _ _ hP hD hS ls (lv_sub hl [0, 1, 2, 3] rfl)
        have hb9 := hr.2 i (by omega)
        refine lv_aload_n hx hb dX5_differenceOfGroup_12 rfl (lv_at hl 2 rfl) ?_
        refine va_get (D := D) (ci := 4) (v := .ref ga) (C := RX5) (T := TX5) (N := 4) hx hb hts hh_1 hown hK hP 0 rfl rfl 0 (by decide) hh_2 (fun _ h9 => h9) rfl dX5_differenceOfGroup_13 ?_
        refine lv_iload_n hx hb dX5_differenceOfGroup_16 rfl (lv_at hl 0 rfl) ?_
        refine za_iald hx hb hK hP 1 0 rfl rfl (i) (v := ((G i : Nat) : Int)) (by decide) rfl (by omega) (rfl) dX5_differenceOfGroup_17 ?_
        refine lv_iload_n hx hb dX5_differenceOfGroup_18 rfl (lv_at hl 3 rfl) ?_
        refine zb_icmp_ne (x := ((G i : Nat) : Int)) (y := ((g : Nat) : Int)) (tgt := 38) hx hb dX5_differenceOfGroup_19 (by decide) ⟨by omega, by omega⟩ ⟨by omega, by omega⟩ (fun c_19 => ?_) (fun c_19 => ?_)
        · have e9 : grD G X Y (i + 1) g = grD G X Y i g := by unfold grD; rw [sumZ_s, if_neg (by omega), Int.add_zero]
          rw [← e9] at hl
          exact pt_38   _ _ hP hD hS ls (lv_sub hl [0, 1, 2, 3] rfl)
        · refine lv_iload_n hx hb dX5_differenceOfGroup_22 rfl (lv_at hl 1 rfl) ?_
          refine lv_aload_n hx hb dX5_differenceOfGroup_23 rfl (lv_at hl 2 rfl) ?_
          refine va_get (D := D) (ci := 4) (v := .ref xa) (C := RX5) (T := TX5) (N := 4) hx hb hts hh_1 hown hK hP 0 rfl rfl 1 (by decide) hh_3 (fun _ h9 => h9) rfl dX5_differenceOfGroup_24 ?_
          refine lv_iload_n hx hb dX5_differenceOfGroup_27 rfl (lv_at hl 0 rfl) ?_
          refine za_iald hx hb hK hP 2 0 rfl rfl (i) (v := ((X i : Nat) : Int)) (by decide) rfl (by omega) (rfl) dX5_differenceOfGroup_28 ?_
          refine lv_aload_n hx hb dX5_differenceOfGroup_29 rfl (lv_at hl 2 rfl) ?_
          refine va_get (D := D) (ci := 4) (v := .ref ya) (C := RX5) (T := TX5) (N := 4) hx hb hts hh_1 hown hK hP 0 rfl rfl 2 (by decide) hh_4 (fun _ h9 => h9) rfl dX5_differenceOfGroup_30 ?_
          refine lv_iload_n hx hb dX5_differenceOfGroup_33 rfl (lv_at hl 0 rfl) ?_
          refine za_iald hx hb hK hP 3 0 rfl rfl (i) (v := ((Y i : Nat) : Int)) (by decide) rfl (by omega) (rfl) dX5_differenceOfGroup_34 ?_
          refine zi_sub (z := (rwD X Y i)) hx hb dX5_differenceOfGroup_35 rfl ?_
          refine zi_add (z := (grD G X Y (i + 1) g)) hx hb dX5_differenceOfGroup_36 (by unfold grD; rw [sumZ_s, if_pos (by omega)]) ?_
          refine lv_istore_n (lv' := [(2, .int (iZ (grD G X Y (i + 1) g))), (3, .int (iZ ((i : Nat) : Int))), (0, .ref h0), (1, .int (iZ ((g : Nat) : Int)))]) hx hb dX5_differenceOfGroup_37 rfl hl (by decide) rfl (fun ls hl => ?_)
          exact pt_38   _ _ hP hD hS ls (lv_sub hl [1, 0, 2, 3] rfl)
  exact pt_4 (n + 1) 0 (by omega) (by omega) _ _ hP hD hS ls (lv_sub hl [0, 1, 2, 3] rfl)
def rmX5_groupsWithRows : Room := { frames := 1, cells := 0, slots := 0, locals := 23 }
set_option maxHeartbeats 4000000 in
set_option maxRecDepth 100000 in
theorem c_X5_groupsWithRows (l : Launch) (D : va_G) (cI cJ : ClassId) (h0 ga xa ya : Nat) (n : Nat) (G X Y : Nat → Nat) (hr : rok n G X Y) : Ci l D vwCl (tyT cI cJ) yX5_groupsWithRows wsX5_groupsWithRows rmX5_groupsWithRows [.ref h0] [(h0, .inr (4, [.ref ga, .ref xa, .ref ya, .int (iZ ((n : Nat) : Int))])), (ga, .inl (cI, 30, .inl (LI G))), (xa, .inl (cI, 30, .inl (LI X))), (ya, .inl (cI, 30, .inl (LI Y)))] (Unit) (fun r _ => r = iZ ((grC G n 8 : Nat) : Int)) (fun _ => [(h0, .inr (4, [.ref ga, .ref xa, .ref ya, .int (iZ ((n : Nat) : Int))])), (ga, .inl (cI, 30, .inl (LI G))), (xa, .inl (cI, 30, .inl (LI X))), (ya, .inl (cI, 30, .inl (LI Y)))]) := by
  have hn30 := hr.1
  refine en_i (cc := cX5_groupsWithRows) (maxL := 3) (by decide) rfl [(0, .ref h0)] (Nat.le_of_ble_eq_true rfl) rfl ?_
  intro p e s m args below meth c Q A hx hb hml hown hts hnm hK hP hD hA hS hret ls hl
  refine zc_iconst (z := ((0 : Nat) : Int)) hx hb dX5_groupsWithRows_0 (by decide) ?_
  refine tp_i (y := (iZ ((grC G n 0 : Nat) : Int))) (rfl) ?_
  refine lv_istore_n (lv' := [(1, .int (iZ ((grC G n 0 : Nat) : Int))), (0, .ref h0)]) hx hb dX5_groupsWithRows_1 rfl hl (by decide) rfl (fun ls hl => ?_)
  refine zc_iconst (z := ((0 : Nat) : Int)) hx hb dX5_groupsWithRows_2 (by decide) ?_
  refine lv_istore_n (lv' := [(2, .int (iZ ((0 : Nat) : Int))), (1, .int (iZ ((grC G n 0 : Nat) : Int))), (0, .ref h0)]) hx hb dX5_groupsWithRows_3 rfl hl (by decide) rfl (fun ls hl => ?_)
  have pt_4 : ∀ f : Nat, ∀ (i : Nat), (hi : i ≤ 8) → (hf : 8 < i + f) → (H : Heap) → (locs : List Loc) → va_P D vwCl [(h0, .inr (4, [.ref ga, .ref xa, .ref ya, .int (iZ ((n : Nat) : Int))])), (ga, .inl (cI, 30, .inl (LI G))), (xa, .inl (cI, 30, .inl (LI X))), (ya, .inl (cI, 30, .inl (LI Y)))] H → va_D A [(h0, .inr (4, [.ref ga, .ref xa, .ref ya, .int (iZ ((n : Nat) : Int))])), (ga, .inl (cI, 30, .inl (LI G))), (xa, .inl (cI, 30, .inl (LI X))), (ya, .inl (cI, 30, .inl (LI Y)))] → va_S A s.heap H locs → (ls : Array Slot) → lv_has ls 3 [(2, .int (iZ ((i : Nat) : Int))), (1, .int (iZ ((grC G n i : Nat) : Int))), (0, .ref h0)] → W p l e rmX5_groupsWithRows s m args below meth c H locs 0 0 Q (F0 m 4 ls []) := by
    intro f
    induction f with
    | zero =>
      intro i hi hf H locs hP hD hS ls hl
      exfalso; omega
    | succ f ih =>
      intro i hi hf H locs hP hD hS ls hl
      refine lv_iload_n hx hb dX5_groupsWithRows_4 rfl (lv_at hl 0 rfl) ?_
      refine zc_bipush (z := ((8 : Nat) : Int)) hx hb dX5_groupsWithRows_5 (by decide) ?_
      refine zb_icmp_ge (x := ((i : Nat) : Int)) (y := ((8 : Nat) : Int)) (tgt := 27) hx hb dX5_groupsWithRows_7 (by decide) ⟨by omega, by omega⟩ ⟨by decide, by decide⟩ (fun c_7 => ?_) (fun c_7 => ?_)
      · refine lv_iload_n hx hb dX5_groupsWithRows_27 rfl (lv_at hl 1 rfl) ?_
        exact hret _ (()) _ _ _ _ _ _ (Nat.le_of_ble_eq_true rfl) (Nat.le_of_ble_eq_true rfl) rfl dX5_groupsWithRows_28 (by have e9 : i = 8 := (by omega); rw [e9]) hP hD hS
      · have pt_21 : (H : Heap) → (locs : List Loc) → va_P D vwCl [(h0, .inr (4, [.ref ga, .ref xa, .ref ya, .int (iZ ((n : Nat) : Int))])), (ga, .inl (cI, 30, .inl (LI G))), (xa, .inl (cI, 30, .inl (LI X))), (ya, .inl (cI, 30, .inl (LI Y)))] H → va_D A [(h0, .inr (4, [.ref ga, .ref xa, .ref ya, .int (iZ ((n : Nat) : Int))])), (ga, .inl (cI, 30, .inl (LI G))), (xa, .inl (cI, 30, .inl (LI X))), (ya, .inl (cI, 30, .inl (LI Y)))] → va_S A s.heap H locs → (ls : Array Slot) → lv_has ls 3 [(2, .int (iZ ((i : Nat) : Int))), (1, .int (iZ ((grC G n (i + 1) : Nat) : Int))), (0, .ref h0)] → W p l e rmX5_groupsWithRows s m args below meth c H locs 0 0 Q (F0 m 21 ls []) := by
          intro   H locs hP hD hS ls hl
          refine lv_iinc (v := iZ ((i + 1 : Nat) : Int)) (lv' := [(2, .int (iZ ((i + 1 : Nat) : Int))), (1, .int (iZ ((grC G n (i + 1) : Nat) : Int))), (0, .ref h0)]) hx hb dX5_groupsWithRows_21 hl (k := 0) rfl (zi_inc (by omega)) (by decide) rfl (fun ls hl => ?_)
          refine lv_goto (tgt := 4) hx hb dX5_groupsWithRows_24 (by decide) ?_
          exact ih (i + 1) (by omega) (by omega) _ _ hP hD hS ls (lv_sub hl [0, 1, 2] rfl)
        have hb9 := cnt_le (fun j => decide (G j = i)) n
        have hb8 : grS G n i ≤ n := hb9
        refine lv_aload_n hx hb dX5_groupsWithRows_10 rfl (lv_at hl 2 rfl) ?_
        refine lv_iload_n hx hb dX5_groupsWithRows_11 rfl (lv_at hl 0 rfl) ?_
        refine ca_iV [.int (iZ ((i : Nat) : Int))] [] [] 0 0 ⟨hx, hb, hml, hown, hts⟩ (c_X5_sizeOfGroup l D cI cJ h0 ga xa ya n G X Y hr i (by omega)) (cwV 1 hts gX5_groupsWithRows_X5_sizeOfGroup rfl rfl rfl (by decide +kernel) ⟨(Nat.le_of_ble_eq_true rfl), (Nat.le_of_ble_eq_true rfl)⟩) hK hP hD hS hA [0, 1, 2, 3] [] rfl rfl rfl rfl (by decide) 0 rfl rfl rfl hl.1 rfl (Nat.le_of_ble_eq_true rfl) dX5_groupsWithRows_12 ⟨(Nat.le_of_ble_eq_true rfl), (Nat.le_of_ble_eq_true rfl)⟩ (Nat.le_of_ble_eq_true rfl) (Nat.le_of_ble_eq_true rfl) (fun r_12 u9 H locs hw hP hD hS => ?_)
        try dsimp only at hw
        have hP : va_P D vwCl [(h0, .inr (4, [.ref ga, .ref xa, .ref ya, .int (iZ ((n : Nat) : Int))])), (ga, .inl (cI, 30, .inl (LI G))), (xa, .inl (cI, 30, .inl (LI X))), (ya, .inl (cI, 30, .inl (LI Y)))] H := hP
        have hD : va_D A [(h0, .inr (4, [.ref ga, .ref xa, .ref ya, .int (iZ ((n : Nat) : Int))])), (ga, .inl (cI, 30, .inl (LI G))), (xa, .inl (cI, 30, .inl (LI X))), (ya, .inl (cI, 30, .inl (LI Y)))] := hD
        refine tp_i (y := (iZ ((grS G n i : Nat) : Int))) (hw) ?_
        refine zb_if_le (x := ((grS G n i : Nat) : Int)) (tgt := 21) hx hb dX5_groupsWithRows_15 (by decide) ⟨by omega, by omega⟩ (fun c_15 => ?_) (fun c_15 => ?_)
        · have e9 : grC G n (i + 1) = grC G n i := cnt_f (by simp; omega)
          rw [← e9] at hl
          exact pt_21   _ _ hP hD hS ls (lv_sub hl [0, 1, 2] rfl)
        · refine lv_iinc (v := iZ ((grC G n (i + 1) : Nat) : Int)) (lv' := [(1, .int (iZ ((grC G n (i + 1) : Nat) : Int))), (2, .int (iZ ((i : Nat) : Int))), (0, .ref h0)]) hx hb dX5_groupsWithRows_18 hl (k := 1) rfl (zi_inc (by have e9 : grC G n (i + 1) = grC G n i + 1 := cnt_t (by simp; omega); omega)) (by decide) rfl (fun ls hl => ?_)
          exact pt_21   _ _ hP hD hS ls (lv_sub hl [1, 0, 2] rfl)
  exact pt_4 9 0 (by omega) (by omega) _ _ hP hD hS ls (lv_sub hl [0, 1, 2] rfl)
def rmX5_reachedAlone : Room := { frames := 0, cells := 0, slots := 0, locals := 0 }
set_option maxHeartbeats 4000000 in
set_option maxRecDepth 100000 in
theorem c_X5_reachedAlone (l : Launch) (D : va_G) (cI cJ : ClassId) (h0 ga xa ya pa pb : Nat) (n t : Nat) (A0 B0 : Nat → Nat) (hn30 : n ≤ 30) (hb0 : ∀ i, i < n → A0 i ≤ 100 ∧ B0 i ≤ 100) (ht : t ≤ 101) : Ci l D vwCl (tyT cI cJ) yX5_reachedAlone wsX5_reachedAlone rmX5_reachedAlone [.ref h0, .ref pa, .ref pb, .int (iZ ((t : Nat) : Int))] [(h0, .inr (4, [.ref ga, .ref xa, .ref ya, .int (iZ ((n : Nat) : Int))])), (pa, .inl (cI, 30, .inl (LI A0))), (pb, .inl (cI, 30, .inl (LI B0)))] (Unit) (fun r _ => r = iZ ((won A0 B0 t n : Nat) : Int)) (fun _ => [(h0, .inr (4, [.ref ga, .ref xa, .ref ya, .int (iZ ((n : Nat) : Int))])), (pa, .inl (cI, 30, .inl (LI A0))), (pb, .inl (cI, 30, .inl (LI B0)))]) := by
  refine en_i (cc := cX5_reachedAlone) (maxL := 6) (by decide) rfl [(0, .ref h0), (1, .ref pa), (2, .ref pb), (3, .int (iZ ((t : Nat) : Int)))] (Nat.le_of_ble_eq_true rfl) rfl ?_
  intro p e s m args below meth c Q A hx hb hml hown hts hnm hK hP hD hA hS hret ls hl
  have hh_0 := hts (.fieldLink RX5 19 "BoundDraws$Rows" "used" "I") (by decide +kernel)
  have hh_1 := (show ∀ w ∈ wsX50, w ∈ wsX5_reachedAlone by decide +kernel)
  refine zc_iconst (z := ((0 : Nat) : Int)) hx hb dX5_reachedAlone_0 (by decide) ?_
  refine tp_i (y := (iZ ((won A0 B0 t 0 : Nat) : Int))) (rfl) ?_
  refine lv_istore (lv' := [(4, .int (iZ ((won A0 B0 t 0 : Nat) : Int))), (0, .ref h0), (1, .ref pa), (2, .ref pb), (3, .int (iZ ((t : Nat) : Int)))]) hx hb dX5_reachedAlone_1 hl (by decide) rfl (fun ls hl => ?_)
  refine zc_iconst (z := ((0 : Nat) : Int)) hx hb dX5_reachedAlone_3 (by decide) ?_
  refine lv_istore (lv' := [(5, .int (iZ ((0 : Nat) : Int))), (4, .int (iZ ((won A0 B0 t 0 : Nat) : Int))), (0, .ref h0), (1, .ref pa), (2, .ref pb), (3, .int (iZ ((t : Nat) : Int)))]) hx hb dX5_reachedAlone_4 hl (by decide) rfl (fun ls hl => ?_)
  have pt_6 : ∀ f : Nat, ∀ (i : Nat), (hi : i ≤ n) → (hf : n < i + f) → (H : Heap) → (locs : List Loc) → va_P D vwCl [(h0, .inr (4, [.ref ga, .ref xa, .ref ya, .int (iZ ((n : Nat) : Int))])), (pa, .inl (cI, 30, .inl (LI A0))), (pb, .inl (cI, 30, .inl (LI B0)))] H → va_D A [(h0, .inr (4, [.ref ga, .ref xa, .ref ya, .int (iZ ((n : Nat) : Int))])), (pa, .inl (cI, 30, .inl (LI A0))), (pb, .inl (cI, 30, .inl (LI B0)))] → va_S A s.heap H locs → (ls : Array Slot) → lv_has ls 6 [(5, .int (iZ ((i : Nat) : Int))), (4, .int (iZ ((won A0 B0 t i : Nat) : Int))), (0, .ref h0), (1, .ref pa), (2, .ref pb), (3, .int (iZ ((t : Nat) : Int)))] → W p l e rmX5_reachedAlone s m args below meth c H locs 0 0 Q (F0 m 6 ls []) := by
    intro f
    induction f with
    | zero =>
      intro i hi hf H locs hP hD hS ls hl
      exfalso; omega
    | succ f ih =>
      intro i hi hf H locs hP hD hS ls hl
      refine lv_iload hx hb dX5_reachedAlone_6 (lv_at hl 0 rfl) ?_
      refine lv_aload_n hx hb dX5_reachedAlone_8 rfl (lv_at hl 2 rfl) ?_
      refine va_get (D := D) (ci := 4) (v := .int (iZ ((n : Nat) : Int))) (C := RX5) (T := TX5) (N := 4) hx hb hts hh_1 hown hK hP 0 rfl rfl 3 (by decide) hh_0 (fun _ h9 => h9) rfl dX5_reachedAlone_9 ?_
      refine zb_icmp_ge (x := ((i : Nat) : Int)) (y := ((n : Nat) : Int)) (tgt := 40) hx hb dX5_reachedAlone_12 (by decide) ⟨by omega, by omega⟩ ⟨by omega, by omega⟩ (fun c_12 => ?_) (fun c_12 => ?_)
      · refine lv_iload hx hb dX5_reachedAlone_40 (lv_at hl 1 rfl) ?_
        exact hret _ (()) _ _ _ _ _ _ (Nat.le_of_ble_eq_true rfl) (Nat.le_of_ble_eq_true rfl) rfl dX5_reachedAlone_42 (by have e9 : i = n := (by omega); rw [e9]) hP hD hS
      · have pt_34 : (H : Heap) → (locs : List Loc) → va_P D vwCl [(h0, .inr (4, [.ref ga, .ref xa, .ref ya, .int (iZ ((n : Nat) : Int))])), (pa, .inl (cI, 30, .inl (LI A0))), (pb, .inl (cI, 30, .inl (LI B0)))] H → va_D A [(h0, .inr (4, [.ref ga, .ref xa, .ref ya, .int (iZ ((n : Nat) : Int))])), (pa, .inl (cI, 30, .inl (LI A0))), (pb, .inl (cI, 30, .inl (LI B0)))] → va_S A s.heap H locs → (ls : Array Slot) → lv_has ls 6 [(5, .int (iZ ((i : Nat) : Int))), (4, .int (iZ ((won A0 B0 t (i + 1) : Nat) : Int))), (0, .ref h0), (1, .ref pa), (2, .ref pb), (3, .int (iZ ((t : Nat) : Int)))] → W p l e rmX5_reachedAlone s m args below meth c H locs 0 0 Q (F0 m 34 ls []) := by
          intro   H locs hP hD hS ls hl
          refine lv_iinc (v := iZ ((i + 1 : Nat) : Int)) (lv' := [(5, .int (iZ ((i + 1 : Nat) : Int))), (4, .int (iZ ((won A0 B0 t (i + 1) : Nat) : Int))), (0, .ref h0), (1, .ref pa), (2, .ref pb), (3, .int (iZ ((t : Nat) : Int)))]) hx hb dX5_reachedAlone_34 hl (k := 0) rfl (zi_inc (by omega)) (by decide) rfl (fun ls hl => ?_)
          refine lv_goto (tgt := 6) hx hb dX5_reachedAlone_37 (by decide) ?_
          exact ih (i + 1) (by omega) (by omega) _ _ hP hD hS ls (lv_sub hl [0, 1, 2, 3, 4, 5] rfl)
        have hb9 := hb0 i (by omega)
        refine lv_aload_n hx hb dX5_reachedAlone_15 rfl (lv_at hl 3 rfl) ?_
        refine lv_iload hx hb dX5_reachedAlone_16 (lv_at hl 0 rfl) ?_
        refine za_iald hx hb hK hP 1 0 rfl rfl (i) (v := ((A0 i : Nat) : Int)) (by decide) rfl (by omega) (rfl) dX5_reachedAlone_18 ?_
        refine lv_iload_n hx hb dX5_reachedAlone_19 rfl (lv_at hl 5 rfl) ?_
        refine zb_icmp_lt (x := ((A0 i : Nat) : Int)) (y := ((t : Nat) : Int)) (tgt := 34) hx hb dX5_reachedAlone_20 (by decide) ⟨by omega, by omega⟩ ⟨by omega, by omega⟩ (fun c_20 => ?_) (fun c_20 => ?_)
        · have e9 : won A0 B0 t (i + 1) = won A0 B0 t i := cnt_f (by simp; omega)
          rw [← e9] at hl
          exact pt_34   _ _ hP hD hS ls (lv_sub hl [0, 1, 2, 3, 4, 5] rfl)
        · refine lv_aload_n hx hb dX5_reachedAlone_23 rfl (lv_at hl 4 rfl) ?_
          refine lv_iload hx hb dX5_reachedAlone_24 (lv_at hl 0 rfl) ?_
          refine za_iald hx hb hK hP 2 0 rfl rfl (i) (v := ((B0 i : Nat) : Int)) (by decide) rfl (by omega) (rfl) dX5_reachedAlone_26 ?_
          refine lv_iload_n hx hb dX5_reachedAlone_27 rfl (lv_at hl 5 rfl) ?_
          refine zb_icmp_ge (x := ((B0 i : Nat) : Int)) (y := ((t : Nat) : Int)) (tgt := 34) hx hb dX5_reachedAlone_28 (by decide) ⟨by omega, by omega⟩ ⟨by omega, by omega⟩ (fun c_28 => ?_) (fun c_28 => ?_)
          · have e9 : won A0 B0 t (i + 1) = won A0 B0 t i := cnt_f (by simp; omega)
            rw [← e9] at hl
            exact pt_34   _ _ hP hD hS ls (lv_sub hl [0, 1, 2, 3, 4, 5] rfl)
          · refine lv_iinc (v := iZ ((won A0 B0 t (i + 1) : Nat) : Int)) (lv' := [(4, .int (iZ ((won A0 B0 t (i + 1) : Nat) : Int))), (5, .int (iZ ((i : Nat) : Int))), (0, .ref h0), (1, .ref pa), (2, .ref pb), (3, .int (iZ ((t : Nat) : Int)))]) hx hb dX5_reachedAlone_31 hl (k := 1) rfl (zi_inc (by have e9 : won A0 B0 t (i + 1) = won A0 B0 t i + 1 := cnt_t (by simp; omega); omega)) (by decide) rfl (fun ls hl => ?_)
            exact pt_34   _ _ hP hD hS ls (lv_sub hl [1, 0, 2, 3, 4, 5] rfl)
  exact pt_6 (n + 1) 0 (by omega) (by omega) _ _ hP hD hS ls (lv_sub hl [0, 1, 2, 3, 4, 5] rfl)
def rmX5_winsBy : Room := { frames := 1, cells := 0, slots := 0, locals := 25 }
set_option maxHeartbeats 4000000 in
set_option maxRecDepth 100000 in
theorem c_X5_winsBy (l : Launch) (D : va_G) (cI cJ : ClassId) (h0 ga xa ya : Nat) (n : Nat) (G X Y : Nat → Nat) (hr : rok n G X Y) (t : Nat) (ht : t ≤ 101) : Ci l D vwCl (tyT cI cJ) yX5_winsBy wsX5_winsBy rmX5_winsBy [.ref h0, .int (iZ ((t : Nat) : Int))] [(h0, .inr (4, [.ref ga, .ref xa, .ref ya, .int (iZ ((n : Nat) : Int))])), (ga, .inl (cI, 30, .inl (LI G))), (xa, .inl (cI, 30, .inl (LI X))), (ya, .inl (cI, 30, .inl (LI Y)))] (Unit) (fun r _ => r = iZ ((won X Y t n : Nat) : Int)) (fun _ => [(h0, .inr (4, [.ref ga, .ref xa, .ref ya, .int (iZ ((n : Nat) : Int))])), (ga, .inl (cI, 30, .inl (LI G))), (xa, .inl (cI, 30, .inl (LI X))), (ya, .inl (cI, 30, .inl (LI Y)))]) := by
  have hn30 := hr.1
  refine en_i (cc := cX5_winsBy) (maxL := 2) (by decide) rfl [(0, .ref h0), (1, .int (iZ ((t : Nat) : Int)))] (Nat.le_of_ble_eq_true rfl) rfl ?_
  intro p e s m args below meth c Q A hx hb hml hown hts hnm hK hP hD hA hS hret ls hl
  have hh_0 := hts (.fieldLink RX5 13 "BoundDraws$Rows" "xs" "[I") (by decide +kernel)
  have hh_1 := (show ∀ w ∈ wsX50, w ∈ wsX5_winsBy by decide +kernel)
  have hh_2 := hts (.fieldLink RX5 16 "BoundDraws$Rows" "ys" "[I") (by decide +kernel)
  refine lv_aload_n hx hb dX5_winsBy_0 rfl (lv_at hl 0 rfl) ?_
  refine lv_aload_n hx hb dX5_winsBy_1 rfl (lv_at hl 0 rfl) ?_
  refine va_get (D := D) (ci := 4) (v := .ref xa) (C := RX5) (T := TX5) (N := 4) hx hb hts hh_1 hown hK hP 0 rfl rfl 1 (by decide) hh_0 (fun _ h9 => h9) rfl dX5_winsBy_2 ?_
  refine lv_aload_n hx hb dX5_winsBy_5 rfl (lv_at hl 0 rfl) ?_
  refine va_get (D := D) (ci := 4) (v := .ref ya) (C := RX5) (T := TX5) (N := 4) hx hb hts hh_1 hown hK hP 0 rfl rfl 2 (by decide) hh_2 (fun _ h9 => h9) rfl dX5_winsBy_6 ?_
  refine lv_iload_n hx hb dX5_winsBy_9 rfl (lv_at hl 1 rfl) ?_
  refine ca_iV [.ref xa, .ref ya, .int (iZ ((t : Nat) : Int))] [] [(ga, .inl (cI, 30, .inl (LI G)))] 0 0 ⟨hx, hb, hml, hown, hts⟩ (c_X5_reachedAlone l D cI cJ h0 ga xa ya xa ya n t X Y hr.1 (fun i hi => ⟨(hr.2 i hi).2.1, (hr.2 i hi).2.2⟩) ht) (cwV 3 hts gX5_winsBy_X5_reachedAlone rfl rfl rfl (by decide +kernel) ⟨(Nat.le_of_ble_eq_true rfl), (Nat.le_of_ble_eq_true rfl)⟩) hK hP hD hS hA [0, 2, 3] [1] rfl rfl rfl rfl (by decide) 0 rfl rfl rfl hl.1 rfl (Nat.le_of_ble_eq_true rfl) dX5_winsBy_10 ⟨(Nat.le_of_ble_eq_true rfl), (Nat.le_of_ble_eq_true rfl)⟩ (Nat.le_of_ble_eq_true rfl) (Nat.le_of_ble_eq_true rfl) (fun r_10 u9 H locs hw hP hD hS => ?_)
  try dsimp only at hw
  have hP : va_P D vwCl [(ga, .inl (cI, 30, .inl (LI G))), (h0, .inr (4, [.ref ga, .ref xa, .ref ya, .int (iZ ((n : Nat) : Int))])), (xa, .inl (cI, 30, .inl (LI X))), (ya, .inl (cI, 30, .inl (LI Y)))] H := hP
  have hD : va_D A [(ga, .inl (cI, 30, .inl (LI G))), (h0, .inr (4, [.ref ga, .ref xa, .ref ya, .int (iZ ((n : Nat) : Int))])), (xa, .inl (cI, 30, .inl (LI X))), (ya, .inl (cI, 30, .inl (LI Y)))] := hD
  refine tp_i (y := (iZ ((won X Y t n : Nat) : Int))) (hw) ?_
  exact hret _ (()) _ _ _ _ _ _ (Nat.le_of_ble_eq_true rfl) (Nat.le_of_ble_eq_true rfl) rfl dX5_winsBy_13 (rfl) (hP.sub [1, 0, 2, 3] rfl) (hD.sub [1, 0, 2, 3] rfl rfl) hS
def rmX5_lossesBy : Room := { frames := 1, cells := 0, slots := 0, locals := 25 }
set_option maxHeartbeats 4000000 in
set_option maxRecDepth 100000 in
theorem c_X5_lossesBy (l : Launch) (D : va_G) (cI cJ : ClassId) (h0 ga xa ya : Nat) (n : Nat) (G X Y : Nat → Nat) (hr : rok n G X Y) (t : Nat) (ht : t ≤ 101) : Ci l D vwCl (tyT cI cJ) yX5_lossesBy wsX5_lossesBy rmX5_lossesBy [.ref h0, .int (iZ ((t : Nat) : Int))] [(h0, .inr (4, [.ref ga, .ref xa, .ref ya, .int (iZ ((n : Nat) : Int))])), (ga, .inl (cI, 30, .inl (LI G))), (xa, .inl (cI, 30, .inl (LI X))), (ya, .inl (cI, 30, .inl (LI Y)))] (Unit) (fun r _ => r = iZ ((won Y X t n : Nat) : Int)) (fun _ => [(h0, .inr (4, [.ref ga, .ref xa, .ref ya, .int (iZ ((n : Nat) : Int))])), (ga, .inl (cI, 30, .inl (LI G))), (xa, .inl (cI, 30, .inl (LI X))), (ya, .inl (cI, 30, .inl (LI Y)))]) := by
  have hn30 := hr.1
  refine en_i (cc := cX5_lossesBy) (maxL := 2) (by decide) rfl [(0, .ref h0), (1, .int (iZ ((t : Nat) : Int)))] (Nat.le_of_ble_eq_true rfl) rfl ?_
  intro p e s m args below meth c Q A hx hb hml hown hts hnm hK hP hD hA hS hret ls hl
  have hh_0 := hts (.fieldLink RX5 16 "BoundDraws$Rows" "ys" "[I") (by decide +kernel)
  have hh_1 := (show ∀ w ∈ wsX50, w ∈ wsX5_lossesBy by decide +kernel)
  have hh_2 := hts (.fieldLink RX5 13 "BoundDraws$Rows" "xs" "[I") (by decide +kernel)
  refine lv_aload_n hx hb dX5_lossesBy_0 rfl (lv_at hl 0 rfl) ?_
  refine lv_aload_n hx hb dX5_lossesBy_1 rfl (lv_at hl 0 rfl) ?_
  refine va_get (D := D) (ci := 4) (v := .ref ya) (C := RX5) (T := TX5) (N := 4) hx hb hts hh_1 hown hK hP 0 rfl rfl 2 (by decide) hh_0 (fun _ h9 => h9) rfl dX5_lossesBy_2 ?_
  refine lv_aload_n hx hb dX5_lossesBy_5 rfl (lv_at hl 0 rfl) ?_
  refine va_get (D := D) (ci := 4) (v := .ref xa) (C := RX5) (T := TX5) (N := 4) hx hb hts hh_1 hown hK hP 0 rfl rfl 1 (by decide) hh_2 (fun _ h9 => h9) rfl dX5_lossesBy_6 ?_
  refine lv_iload_n hx hb dX5_lossesBy_9 rfl (lv_at hl 1 rfl) ?_
  refine ca_iV [.ref ya, .ref xa, .int (iZ ((t : Nat) : Int))] [] [(ga, .inl (cI, 30, .inl (LI G)))] 0 0 ⟨hx, hb, hml, hown, hts⟩ (c_X5_reachedAlone l D cI cJ h0 ga xa ya ya xa n t Y X hr.1 (fun i hi => ⟨(hr.2 i hi).2.2, (hr.2 i hi).2.1⟩) ht) (cwV 3 hts gX5_lossesBy_X5_reachedAlone rfl rfl rfl (by decide +kernel) ⟨(Nat.le_of_ble_eq_true rfl), (Nat.le_of_ble_eq_true rfl)⟩) hK hP hD hS hA [0, 3, 2] [1] rfl rfl rfl rfl (by decide) 0 rfl rfl rfl hl.1 rfl (Nat.le_of_ble_eq_true rfl) dX5_lossesBy_10 ⟨(Nat.le_of_ble_eq_true rfl), (Nat.le_of_ble_eq_true rfl)⟩ (Nat.le_of_ble_eq_true rfl) (Nat.le_of_ble_eq_true rfl) (fun r_10 u9 H locs hw hP hD hS => ?_)
  try dsimp only at hw
  have hP : va_P D vwCl [(ga, .inl (cI, 30, .inl (LI G))), (h0, .inr (4, [.ref ga, .ref xa, .ref ya, .int (iZ ((n : Nat) : Int))])), (ya, .inl (cI, 30, .inl (LI Y))), (xa, .inl (cI, 30, .inl (LI X)))] H := hP
  have hD : va_D A [(ga, .inl (cI, 30, .inl (LI G))), (h0, .inr (4, [.ref ga, .ref xa, .ref ya, .int (iZ ((n : Nat) : Int))])), (ya, .inl (cI, 30, .inl (LI Y))), (xa, .inl (cI, 30, .inl (LI X)))] := hD
  refine tp_i (y := (iZ ((won Y X t n : Nat) : Int))) (hw) ?_
  exact hret _ (()) _ _ _ _ _ _ (Nat.le_of_ble_eq_true rfl) (Nat.le_of_ble_eq_true rfl) rfl dX5_lossesBy_13 (rfl) (hP.sub [1, 0, 3, 2] rfl) (hD.sub [1, 0, 3, 2] rfl rfl) hS

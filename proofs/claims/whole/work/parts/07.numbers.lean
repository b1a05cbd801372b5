/-- a boolean answer: 1 where P holds, else 0 -/
def bres (r : Int32) (P : Prop) : Prop := ∃ b : Int, r = iZ b ∧ (b = 0 ∨ b = 1) ∧ (b = 1 ↔ P)
theorem bres_t {P : Prop} (h : P) : bres (iZ ((1 : Nat) : Int)) P := ⟨1, rfl, Or.inr rfl, fun _ => h, fun _ => rfl⟩
theorem bres_f {P : Prop} (h : ¬ P) : bres (iZ ((0 : Nat) : Int)) P := ⟨0, rfl, Or.inl rfl, fun e => by omega, fun e => absurd e h⟩
/-- how many sets of k out of n there are -/
def ch : Nat → Nat → Nat
  | _, 0 => 1
  | 0, _ + 1 => 0
  | n + 1, k + 1 => ch n k + ch n (k + 1)
theorem ch_0 (n : Nat) : ch n 0 = 1 := by cases n <;> rfl
theorem ch_ss (n k : Nat) : ch (n + 1) (k + 1) = ch n k + ch n (k + 1) := rfl
theorem ch_big : ∀ {n k : Nat}, n < k → ch n k = 0
  | 0, 0, h => by omega
  | 0, k + 1, _ => rfl
  | n + 1, 0, h => by omega
  | n + 1, k + 1, h => by rw [ch_ss, ch_big (by omega), ch_big (by omega)]
theorem ch_sm : ∀ n k : Nat, (n + 1) * ch n k = ch (n + 1) (k + 1) * (k + 1)
  | 0, 0 => by decide
  | 0, k + 1 => by simp [ch]
  | n + 1, 0 => by
    have h := ch_sm n 0
    rw [ch_ss, ch_0, Nat.zero_add, Nat.mul_one]
    rw [ch_0, Nat.mul_one, Nat.zero_add, Nat.mul_one] at h
    rw [← h]; omega
  | n + 1, k + 1 => by
    have h1 := ch_sm n k
    have h2 := ch_sm n (k + 1)
    have h3 : (n + 1) * ch (n + 1) (k + 1) = (n + 1) * ch n k + (n + 1) * ch n (k + 1) := by rw [ch_ss n k, Nat.mul_add]
    have h4 : ch (n + 1 + 1) (k + 1 + 1) * (k + 1 + 1) = ch (n + 1) (k + 1) * (k + 1) + ch (n + 1) (k + 1) + ch (n + 1) (k + 1 + 1) * (k + 1 + 1) := by rw [ch_ss (n + 1) (k + 1), Nat.add_mul (ch (n + 1) (k + 1)), Nat.mul_succ (ch (n + 1) (k + 1)) (k + 1)]
    rw [Nat.succ_mul (n + 1)]
    omega
theorem ch_mul (n k : Nat) : ch n (k + 1) * (k + 1) = ch n k * (n - k) := by
  have e : (n + 1) * ch n k = ch n (k + 1) * (k + 1) + ch n k * (k + 1) := by rw [← Nat.add_mul, Nat.add_comm (ch n (k + 1)), ← ch_ss, ch_sm]
  rcases Nat.lt_or_ge n k with h | h
  · rw [ch_big (show n < k + 1 by omega), ch_big h, Nat.zero_mul, Nat.zero_mul]
  · have e2 : (n + 1) * ch n k = ch n k * (n - k) + ch n k * (k + 1) := by rw [← Nat.mul_add, Nat.mul_comm]; congr 1; omega
    omega
theorem ch_pos : ∀ {n k : Nat}, k ≤ n → 0 < ch n k
  | n, 0, _ => by rw [ch_0]; decide
  | 0, k + 1, h => by omega
  | n + 1, k + 1, h => by rw [ch_ss]; have := ch_pos (n := n) (k := k) (by omega); omega
theorem ch_mono : ∀ (n k : Nat), ch n k ≤ ch (n + 1) k
  | n, 0 => by rw [ch_0, ch_0]; decide
  | n, k + 1 => by rw [ch_ss]; omega
theorem ch_monoN {n k : Nat} : ∀ d : Nat, ch n k ≤ ch (n + d) k
  | 0 => Nat.le_refl _
  | d + 1 => Nat.le_trans (ch_monoN d) (ch_mono (n + d) k)
/-- the sets, one from the other -/
def chl (n : Nat) : Nat → Nat
  | 0 => 1
  | k + 1 => chl n k * (n - k) / (k + 1)
theorem ch_step (n k : Nat) : ch n k * (n - k) / (k + 1) = ch n (k + 1) := by rw [← ch_mul]; exact Nat.mul_div_cancel _ (by omega)
theorem chl_eq (n : Nat) : ∀ k : Nat, chl n k = ch n k
  | 0 => (ch_0 n).symm
  | k + 1 => by rw [chl, chl_eq n k, ch_step]
theorem ch60 : ∀ k, k < 61 → chl 60 k * k < 9223372036854775808 ∧ chl 60 k < 1000000000000000000 := by decide +kernel
theorem ch30 : ∀ k, k < 31 → chl 30 k < 268435456 ∧ chl 30 k * (30 - k) < 9223372036854775808 := by decide +kernel
theorem ch_b {n k : Nat} (hn : n ≤ 60) : ch n k * k < 9223372036854775808 := by
  rcases Nat.lt_or_ge n k with h | h
  · rw [ch_big h, Nat.zero_mul]; decide
  · have h1 : ch n k ≤ ch 60 k := by have := ch_monoN (n := n) (k := k) (60 - n); rwa [show n + (60 - n) = 60 by omega] at this
    have h2 := (ch60 k (by omega)).1
    rw [chl_eq] at h2
    exact Nat.lt_of_le_of_lt (Nat.mul_le_mul_right _ h1) h2
theorem ch_b2 {n k : Nat} (hn : n ≤ 60) : ch n k < 1000000000000000000 := by
  rcases Nat.lt_or_ge n k with h | h
  · rw [ch_big h]; decide
  · have h1 : ch n k ≤ ch 60 k := by have := ch_monoN (n := n) (k := k) (60 - n); rwa [show n + (60 - n) = 60 by omega] at this
    have h2 := (ch60 k (by omega)).2
    rw [chl_eq] at h2
    omega
theorem ch_b30 {n k : Nat} (hn : n ≤ 30) : ch n k < 268435456 := by
  rcases Nat.lt_or_ge n k with h | h
  · rw [ch_big h]; decide
  · have h1 : ch n k ≤ ch 30 k := by have := ch_monoN (n := n) (k := k) (30 - n); rwa [show n + (30 - n) = 30 by omega] at this
    have h2 := (ch30 k (by omega)).1
    rw [chl_eq] at h2
    omega
theorem ch_stepZ {n k : Nat} : ((ch n k * (n - k) : Nat) : Int) / ((k + 1 : Nat) : Int) = ((ch n (k + 1) : Nat) : Int) := by rw [← Int.natCast_ediv, ch_step]
/-- Euclid's steps come to their end -/
def euI (a b x y st : Nat) : Prop := x.gcd y = a.gcd b ∧ x < 9223372036854775808 ∧ y < 9223372036854775808 ∧ (st = 0 ∨ (y < x ∧ x * y * 2 ^ (st - 1) < 2 ^ 126))
theorem euI_0 {a b : Nat} (ha : a < 9223372036854775808) (hb : b < 9223372036854775808) : euI a b a b 0 := ⟨rfl, ha, hb, Or.inl rfl⟩
theorem euI_s {a b x y st : Nat} (h : euI a b x y st) (hy : y ≠ 0) : euI a b y (x % y) (st + 1) := by
  obtain ⟨h1, h2, h3, h4⟩ := h
  have hm : x % y < y := Nat.mod_lt _ (by omega)
  refine ⟨by rw [← h1, Nat.gcd_comm x y, Nat.gcd_rec y x, Nat.gcd_comm], h3, by omega, Or.inr ⟨hm, ?_⟩⟩
  rcases h4 with e | ⟨h5, h6⟩
  · subst e
    show y * (x % y) * 2 ^ 0 < 2 ^ 126
    have : y * (x % y) < 9223372036854775808 * 9223372036854775808 := Nat.mul_lt_mul'' h3 (by omega)
    omega
  · rcases st with _ | st
    · show y * (x % y) * 2 ^ 0 < 2 ^ 126
      have : y * (x % y) < 9223372036854775808 * 9223372036854775808 := Nat.mul_lt_mul'' h3 (by omega)
      omega
    · show y * (x % y) * 2 ^ (st + 1) < 2 ^ 126
      refine Nat.lt_of_le_of_lt ?_ h6
      show y * (x % y) * 2 ^ (st + 1) ≤ x * y * 2 ^ st
      rw [Nat.pow_succ, Nat.mul_comm (2 ^ st) 2, ← Nat.mul_assoc]
      apply Nat.mul_le_mul_right
      rw [Nat.mul_comm x y, Nat.mul_assoc]
      apply Nat.mul_le_mul_left
      have := Nat.mod_add_div x y
      have hd : 1 ≤ x / y := Nat.div_pos (by omega) (by omega)
      have : y * 1 ≤ y * (x / y) := Nat.mul_le_mul_left _ hd
      omega
theorem euI_lim {a b x y st : Nat} (h : euI a b x y st) (hy : y ≠ 0) : st < 1000 := by
  obtain ⟨h1, h2, h3, h4⟩ := h
  rcases h4 with e | ⟨h5, h6⟩
  · omega
  · rcases Nat.lt_or_ge st 1000 with h | h
    · exact h
    · have p1 : 1 * 1 ≤ x * y := Nat.mul_le_mul (by omega) (by omega)
      have p2 : 2 ^ 126 ≤ 2 ^ (st - 1) := Nat.pow_le_pow_right (by decide) (by omega)
      have p3 : 1 * 2 ^ (st - 1) ≤ x * y * 2 ^ (st - 1) := Nat.mul_le_mul_right _ (by omega)
      omega
/-- a fraction in lowest terms -/
def redU (u : Int) (d : Nat) : Int := u / ((u.natAbs.gcd d : Nat) : Int)
def redL (u : Int) (d : Nat) : Nat := d / u.natAbs.gcd d
theorem red_pos {u : Int} {d : Nat} (hd : 0 < d) : 0 < u.natAbs.gcd d := Nat.gcd_pos_of_pos_right _ hd
theorem redU_mul {u : Int} {d : Nat} : u = redU u d * ((u.natAbs.gcd d : Nat) : Int) := by
  have h : ((u.natAbs.gcd d : Nat) : Int) ∣ u := Int.ofNat_dvd_left.mpr (Nat.gcd_dvd_left _ _)
  exact (Int.ediv_mul_cancel h).symm
theorem redL_mul {u : Int} {d : Nat} : d = redL u d * u.natAbs.gcd d := (Nat.div_mul_cancel (Nat.gcd_dvd_right _ _)).symm
theorem redL_pos {u : Int} {d : Nat} (hd : 0 < d) : 0 < redL u d := Nat.div_pos (Nat.le_of_dvd hd (Nat.gcd_dvd_right _ _)) (red_pos hd)
theorem redL_le {u : Int} {d : Nat} : redL u d ≤ d := Nat.div_le_self _ _
def rmX3_within : Room := { frames := 0, cells := 0, slots := 0, locals := 0 }
set_option maxHeartbeats 4000000 in
set_option maxRecDepth 100000 in
theorem c_X3_within (l : Launch) (D : va_G) (cI cJ : ClassId) (a b c0 : Int) (ha : iR a) (hb0 : iR b) (hc0 : iR c0) : Ci l D vwCl (tyT cI cJ) yX3_within wsX3_within rmX3_within [.int (iZ (a)), .int (iZ (b)), .int (iZ (c0))] [] (Unit) (fun r _ => bres r (b ≤ a ∧ a ≤ c0)) (fun _ => []) := by
  refine en_i (cc := cX3_within) (maxL := 3) (by decide) rfl [(0, .int (iZ (a))), (1, .int (iZ (b))), (2, .int (iZ (c0)))] (Nat.le_of_ble_eq_true rfl) rfl ?_
  intro p e s m args below meth c Q A hx hb hml hown hts hnm hK hP hD hA hS hret ls hl
  refine lv_iload_n hx hb dX3_within_0 rfl (lv_at hl 0 rfl) ?_
  refine lv_iload_n hx hb dX3_within_1 rfl (lv_at hl 1 rfl) ?_
  refine zb_icmp_lt (x := (a)) (y := (b)) (tgt := 14) hx hb dX3_within_2 (by decide) ⟨by omega, by omega⟩ ⟨by omega, by omega⟩ (fun c_2 => ?_) (fun c_2 => ?_)
  · refine zc_iconst (z := ((0 : Nat) : Int)) hx hb dX3_within_14 (by decide) ?_
    exact hret _ (()) _ _ _ _ _ _ (Nat.le_of_ble_eq_true rfl) (Nat.le_of_ble_eq_true rfl) rfl dX3_within_15 (bres_f (by omega)) hP hD hS
  · refine lv_iload_n hx hb dX3_within_5 rfl (lv_at hl 0 rfl) ?_
    refine lv_iload_n hx hb dX3_within_6 rfl (lv_at hl 2 rfl) ?_
    refine zb_icmp_gt (x := (a)) (y := (c0)) (tgt := 14) hx hb dX3_within_7 (by decide) ⟨by omega, by omega⟩ ⟨by omega, by omega⟩ (fun c_7 => ?_) (fun c_7 => ?_)
    · refine zc_iconst (z := ((0 : Nat) : Int)) hx hb dX3_within_14 (by decide) ?_
      exact hret _ (()) _ _ _ _ _ _ (Nat.le_of_ble_eq_true rfl) (Nat.le_of_ble_eq_true rfl) rfl dX3_within_15 (bres_f (by omega)) hP hD hS
    · refine zc_iconst (z := ((1 : Nat) : Int)) hx hb dX3_within_10 (by decide) ?_
      refine lv_goto (tgt := 15) hx hb dX3_within_11 (by decide) ?_
      exact hret _ (()) _ _ _ _ _ _ (Nat.le_of_ble_eq_true rfl) (Nat.le_of_ble_eq_true rfl) rfl dX3_within_15 (bres_t (by omega)) hP hD hS
def rmX3_setsOutOf : Room := { frames := 0, cells := 0, slots := 0, locals := 0 }
set_option maxHeartbeats 4000000 in
set_option maxRecDepth 100000 in
theorem c_X3_setsOutOf (l : Launch) (D : va_G) (cI cJ : ClassId) (n k : Nat) (hn : n ≤ 60) (hk : k ≤ n) : Cl l D vwCl (tyT cI cJ) yX3_setsOutOf wsX3_setsOutOf rmX3_setsOutOf [.int (iZ ((n : Nat) : Int)), .int (iZ ((k : Nat) : Int))] [] (Unit) (fun r _ => r = lZ ((ch n k : Nat) : Int)) (fun _ => []) := by
  refine en_l (cc := cX3_setsOutOf) (maxL := 5) (by decide) rfl [(0, .int (iZ ((n : Nat) : Int))), (1, .int (iZ ((k : Nat) : Int)))] (Nat.le_of_ble_eq_true rfl) rfl ?_
  intro p e s m args below meth c Q A hx hb hml hown hts hnm hK hP hD hA hS hret ls hl
  refine zc_lconst (z := ((1 : Nat) : Int)) hx hb dX3_setsOutOf_0 (by decide) ?_
  refine tp_l (y := (lZ ((ch n 0 : Nat) : Int))) (by rw [ch_0]) ?_
  refine lv_lstore_n (lv' := [(2, .long (lZ ((ch n 0 : Nat) : Int))), (0, .int (iZ ((n : Nat) : Int))), (1, .int (iZ ((k : Nat) : Int)))]) hx hb dX3_setsOutOf_1 rfl hl (by decide) rfl (fun ls hl => ?_)
  refine zc_iconst (z := ((1 : Nat) : Int)) hx hb dX3_setsOutOf_2 (by decide) ?_
  refine tp_i (y := (iZ ((0 + 1 : Nat) : Int))) (rfl) ?_
  refine lv_istore (lv' := [(4, .int (iZ ((0 + 1 : Nat) : Int))), (2, .long (lZ ((ch n 0 : Nat) : Int))), (0, .int (iZ ((n : Nat) : Int))), (1, .int (iZ ((k : Nat) : Int)))]) hx hb dX3_setsOutOf_3 hl (by decide) rfl (fun ls hl => ?_)
  have pt_5 : ∀ f : Nat, ∀ (i : Nat), (hi : i ≤ k) → (hf : k < i + f) → (H : Heap) → (locs : List Loc) → va_P D vwCl [] H → va_D A [] → va_S A s.heap H locs → (ls : Array Slot) → lv_has ls 5 [(4, .int (iZ ((i + 1 : Nat) : Int))), (2, .long (lZ ((ch n i : Nat) : Int))), (0, .int (iZ ((n : Nat) : Int))), (1, .int (iZ ((k : Nat) : Int)))] → W p l e rmX3_setsOutOf s m args below meth c H locs 0 0 Q (F0 m 5 ls []) := by
    intro f
    induction f with
    | zero =>
      intro i hi hf H locs hP hD hS ls hl
      exfalso; omega
    | succ f ih =>
      intro i hi hf H locs hP hD hS ls hl
      refine lv_iload hx hb dX3_setsOutOf_5 (lv_at hl 0 rfl) ?_
      refine lv_iload_n hx hb dX3_setsOutOf_7 rfl (lv_at hl 3 rfl) ?_
      refine zb_icmp_gt (x := ((i + 1 : Nat) : Int)) (y := ((k : Nat) : Int)) (tgt := 31) hx hb dX3_setsOutOf_8 (by decide) ⟨by omega, by omega⟩ ⟨by omega, by omega⟩ (fun c_8 => ?_) (fun c_8 => ?_)
      · refine lv_lload_n hx hb dX3_setsOutOf_31 rfl (lv_at hl 1 rfl) ?_
        exact hret _ (()) _ _ _ _ _ _ (Nat.le_of_ble_eq_true rfl) (Nat.le_of_ble_eq_true rfl) dX3_setsOutOf_32 (by have e9 : i = k := (by omega); rw [e9]) hP hD hS
      · refine lv_lload_n hx hb dX3_setsOutOf_11 rfl (lv_at hl 1 rfl) ?_
        refine lv_iload_n hx hb dX3_setsOutOf_12 rfl (lv_at hl 2 rfl) ?_
        refine lv_iload hx hb dX3_setsOutOf_13 (lv_at hl 0 rfl) ?_
        refine zi_sub (z := (((n : Nat) : Int) - ((i + 1 : Nat) : Int))) hx hb dX3_setsOutOf_15 rfl ?_
        refine zc_iconst (z := ((1 : Nat) : Int)) hx hb dX3_setsOutOf_16 (by decide) ?_
        refine zi_add (z := ((n - i : Nat) : Int)) hx hb dX3_setsOutOf_17 (by omega) ?_
        refine z_i2l (z := ((n - i : Nat) : Int)) hx hb dX3_setsOutOf_18 ⟨by omega, by omega⟩ rfl ?_
        refine zl_mul (z := ((ch n i * (n - i) : Nat) : Int)) hx hb dX3_setsOutOf_19 (Int.natCast_mul _ _).symm ?_
        refine lv_iload hx hb dX3_setsOutOf_20 (lv_at hl 0 rfl) ?_
        refine z_i2l (z := ((i + 1 : Nat) : Int)) hx hb dX3_setsOutOf_22 ⟨by omega, by omega⟩ rfl ?_
        refine zl_div (z := ((ch n (i + 1) : Nat) : Int)) hx hb dX3_setsOutOf_23 (by omega) (by have h8 := ch_b (n := n) (k := i + 1) hn; rw [ch_mul] at h8; omega) (by omega) (by omega) ch_stepZ ?_
        refine lv_lstore_n (lv' := [(2, .long (lZ ((ch n (i + 1) : Nat) : Int))), (4, .int (iZ ((i + 1 : Nat) : Int))), (0, .int (iZ ((n : Nat) : Int))), (1, .int (iZ ((k : Nat) : Int)))]) hx hb dX3_setsOutOf_24 rfl hl (by decide) rfl (fun ls hl => ?_)
        refine lv_iinc (v := iZ (((i + 1) + 1 : Nat) : Int)) (lv' := [(4, .int (iZ (((i + 1) + 1 : Nat) : Int))), (2, .long (lZ ((ch n (i + 1) : Nat) : Int))), (0, .int (iZ ((n : Nat) : Int))), (1, .int (iZ ((k : Nat) : Int)))]) hx hb dX3_setsOutOf_25 hl (k := 1) rfl (zi_inc (by omega)) (by decide) rfl (fun ls hl => ?_)
        refine lv_goto (tgt := 5) hx hb dX3_setsOutOf_28 (by decide) ?_
        exact ih (i + 1) (by omega) (by omega) _ _ hP hD hS ls (lv_sub hl [0, 1, 2, 3] rfl)
  exact pt_5 (k + 1) 0 (by omega) (by omega) _ _ hP hD hS ls (lv_sub hl [0, 1, 2, 3] rfl)
def rmX3_commonDivisor : Room := { frames := 0, cells := 0, slots := 0, locals := 0 }
set_option maxHeartbeats 4000000 in
set_option maxRecDepth 100000 in
theorem c_X3_commonDivisor (l : Launch) (D : va_G) (cI cJ : ClassId) (a b : Nat) (ha : a < 9223372036854775808) (hb0 : b < 9223372036854775808) : Cl l D vwCl (tyT cI cJ) yX3_commonDivisor wsX3_commonDivisor rmX3_commonDivisor [.long (lZ ((a : Nat) : Int)), .long (lZ ((b : Nat) : Int))] [] (Unit) (fun r _ => r = lZ ((a.gcd b : Nat) : Int)) (fun _ => []) := by
  refine en_l (cc := cX3_commonDivisor) (maxL := 11) (by decide) rfl [(0, .long (lZ ((a : Nat) : Int))), (2, .long (lZ ((b : Nat) : Int)))] (Nat.le_of_ble_eq_true rfl) rfl ?_
  intro p e s m args below meth c Q A hx hb hml hown hts hnm hK hP hD hA hS hret ls hl
  refine lv_lload_n hx hb dX3_commonDivisor_0 rfl (lv_at hl 0 rfl) ?_
  refine lv_lstore (lv' := [(4, .long (lZ ((a : Nat) : Int))), (0, .long (lZ ((a : Nat) : Int))), (2, .long (lZ ((b : Nat) : Int)))]) hx hb dX3_commonDivisor_1 hl (by decide) rfl (fun ls hl => ?_)
  refine lv_lload_n hx hb dX3_commonDivisor_3 rfl (lv_at hl 2 rfl) ?_
  refine lv_lstore (lv' := [(6, .long (lZ ((b : Nat) : Int))), (4, .long (lZ ((a : Nat) : Int))), (0, .long (lZ ((a : Nat) : Int))), (2, .long (lZ ((b : Nat) : Int)))]) hx hb dX3_commonDivisor_4 hl (by decide) rfl (fun ls hl => ?_)
  refine zc_iconst (z := ((0 : Nat) : Int)) hx hb dX3_commonDivisor_6 (by decide) ?_
  refine lv_istore (lv' := [(8, .int (iZ ((0 : Nat) : Int))), (6, .long (lZ ((b : Nat) : Int))), (4, .long (lZ ((a : Nat) : Int))), (0, .long (lZ ((a : Nat) : Int))), (2, .long (lZ ((b : Nat) : Int)))]) hx hb dX3_commonDivisor_7 hl (by decide) rfl (fun ls hl => ?_)
  have pt_9 : ∀ f : Nat, ∀ (x y st : Nat), (hI : euI a b x y st) → (hst : st ≤ 1000) → (hf : y < f) → (H : Heap) → (locs : List Loc) → va_P D vwCl [] H → va_D A [] → va_S A s.heap H locs → (ls : Array Slot) → lv_has ls 11 [(8, .int (iZ ((st : Nat) : Int))), (6, .long (lZ ((y : Nat) : Int))), (4, .long (lZ ((x : Nat) : Int))), (0, .long (lZ ((a : Nat) : Int))), (2, .long (lZ ((b : Nat) : Int)))] → W p l e rmX3_commonDivisor s m args below meth c H locs 0 0 Q (F0 m 9 ls []) := by
    intro f
    induction f with
    | zero =>
      intro x y st hI hst hf H locs hP hD hS ls hl
      exfalso; omega
    | succ f ih =>
      intro x y st hI hst hf H locs hP hD hS ls hl
      have hx9 := hI.2.1
      have hy9 := hI.2.2.1
      refine lv_lload hx hb dX3_commonDivisor_9 (lv_at hl 1 rfl) ?_
      refine zc_lconst (z := ((0 : Nat) : Int)) hx hb dX3_commonDivisor_11 (by decide) ?_
      refine zb_l_eq (x := ((y : Nat) : Int)) (y := ((0 : Nat) : Int)) (tgt := 45) hx hb dX3_commonDivisor_12 dX3_commonDivisor_13 (by decide) ⟨by omega, by omega⟩ ⟨by decide, by decide⟩ (fun c_12 => ?_) (fun c_12 => ?_)
      · refine lv_lload hx hb dX3_commonDivisor_45 (lv_at hl 2 rfl) ?_
        exact hret _ (()) _ _ _ _ _ _ (Nat.le_of_ble_eq_true rfl) (Nat.le_of_ble_eq_true rfl) dX3_commonDivisor_47 (by have e9 : y = 0 := (by omega); rw [← hI.1, e9, Nat.gcd_zero_right]) hP hD hS
      · refine lv_iload hx hb dX3_commonDivisor_16 (lv_at hl 0 rfl) ?_
        refine zc_sipush (z := ((1000 : Nat) : Int)) hx hb dX3_commonDivisor_18 (by decide) ?_
        refine zb_icmp_ge (x := ((st : Nat) : Int)) (y := ((1000 : Nat) : Int)) (tgt := 45) hx hb dX3_commonDivisor_21 (by decide) ⟨by omega, by omega⟩ ⟨by decide, by decide⟩ (fun c_21 => ?_) (fun c_21 => ?_)
        · exact absurd (euI_lim hI (by omega)) (by omega)
        · refine lv_lload hx hb dX3_commonDivisor_24 (lv_at hl 2 rfl) ?_
          refine lv_lload hx hb dX3_commonDivisor_26 (lv_at hl 1 rfl) ?_
          have hm9 : x % y < y := Nat.mod_lt _ (by omega)
          refine zl_rem (z := ((x % y : Nat) : Int)) hx hb dX3_commonDivisor_28 (by omega) (by omega) (by omega) (by omega) (Int.natCast_emod _ _).symm ?_
          refine lv_lstore (lv' := [(9, .long (lZ ((x % y : Nat) : Int))), (8, .int (iZ ((st : Nat) : Int))), (6, .long (lZ ((y : Nat) : Int))), (4, .long (lZ ((x : Nat) : Int))), (0, .long (lZ ((a : Nat) : Int))), (2, .long (lZ ((b : Nat) : Int)))]) hx hb dX3_commonDivisor_29 hl (by decide) rfl (fun ls hl => ?_)
          refine lv_lload hx hb dX3_commonDivisor_31 (lv_at hl 2 rfl) ?_
          refine lv_lstore (lv' := [(4, .long (lZ ((y : Nat) : Int))), (9, .long (lZ ((x % y : Nat) : Int))), (8, .int (iZ ((st : Nat) : Int))), (6, .long (lZ ((y : Nat) : Int))), (0, .long (lZ ((a : Nat) : Int))), (2, .long (lZ ((b : Nat) : Int)))]) hx hb dX3_commonDivisor_33 hl (by decide) rfl (fun ls hl => ?_)
          refine lv_lload hx hb dX3_commonDivisor_35 (lv_at hl 1 rfl) ?_
          refine lv_lstore (lv' := [(6, .long (lZ ((x % y : Nat) : Int))), (4, .long (lZ ((y : Nat) : Int))), (9, .long (lZ ((x % y : Nat) : Int))), (8, .int (iZ ((st : Nat) : Int))), (0, .long (lZ ((a : Nat) : Int))), (2, .long (lZ ((b : Nat) : Int)))]) hx hb dX3_commonDivisor_37 hl (by decide) rfl (fun ls hl => ?_)
          refine lv_iinc (v := iZ ((st + 1 : Nat) : Int)) (lv' := [(8, .int (iZ ((st + 1 : Nat) : Int))), (6, .long (lZ ((x % y : Nat) : Int))), (4, .long (lZ ((y : Nat) : Int))), (9, .long (lZ ((x % y : Nat) : Int))), (0, .long (lZ ((a : Nat) : Int))), (2, .long (lZ ((b : Nat) : Int)))]) hx hb dX3_commonDivisor_39 hl (k := 3) rfl (zi_inc (by omega)) (by decide) rfl (fun ls hl => ?_)
          refine lv_goto (tgt := 9) hx hb dX3_commonDivisor_42 (by decide) ?_
          exact ih y (x % y) (st + 1) (euI_s hI (by omega)) (by omega) (by omega) _ _ hP hD hS ls (lv_sub hl [0, 1, 2, 4, 5] rfl)
  exact pt_9 (b + 1) a b 0 (euI_0 ha hb0) (by omega) (by omega) _ _ hP hD hS ls (lv_sub hl [0, 1, 2, 3, 4] rfl)
def rmX4_init : Room := { frames := 1, cells := 0, slots := 0, locals := 12 }
set_option maxHeartbeats 4000000 in
set_option maxRecDepth 100000 in
theorem c_X4_init (l : Launch) (D : va_G) (cI cJ : ClassId) (h0 : Nat) : Cv l D vwCl (tyT cI cJ) yX4_init wsX4_init rmX4_init [.ref h0] [(h0, .inr (3, [.long (lZ ((0 : Nat) : Int)), .long (lZ ((0 : Nat) : Int))]))] (Unit) (fun _ => True) (fun _ => [(h0, .inr (3, [.long (lZ ((0 : Nat) : Int)), .long (lZ ((1 : Nat) : Int))]))]) := by
  refine en_v (cc := cX4_init) (maxL := 1) (by decide) rfl [(0, .ref h0)] (Nat.le_of_ble_eq_true rfl) rfl ?_
  intro p e s m args below meth c Q A hx hb hml hown hts hnm hK hP hD hA hS hret ls hl
  have hh_0 := hts (.methodLink RX4 1 objectInit) (by decide +kernel)
  have hh_1 := hts (.instanceMethod objectInit) (by decide +kernel)
  have hh_2 := hts (.code objectInit ⟨#[0xb1]⟩ 1 none) (by decide +kernel)
  have hh_3 := hts (.fieldLink RX4 7 "BoundDraws$Ratio" "upper" "J") (by decide +kernel)
  have hh_4 := (show ∀ w ∈ wsX40, w ∈ wsX4_init by decide +kernel)
  have hh_5 := hts (.fieldLink RX4 13 "BoundDraws$Ratio" "lower" "J") (by decide +kernel)
  refine lv_aload_n hx hb dX4_init_0 rfl (lv_at hl 0 rfl) ?_
  refine W.objInit hx hb hown hh_0 hh_1 hh_2 rfl (by rw [hml]; exact hl.1) rfl dX4_init_1 (Nat.le_of_ble_eq_true rfl) (Nat.le_of_ble_eq_true rfl) ?_
  refine W.eq (g2 := F0 m 4 ls []) rfl ?_
  refine lv_aload_n hx hb dX4_init_4 rfl (lv_at hl 0 rfl) ?_
  refine zc_lconst (z := ((0 : Nat) : Int)) hx hb dX4_init_5 (by decide) ?_
  refine va_put (D := D) (ci := 3) (v := .long (lZ ((0 : Nat) : Int))) (ty := .long) (C := RX4) (T := TX4) (N := 2) hx hb hts hh_4 tyX4 tyX4_ok nmX4 hown hK hP hD hS 0 rfl rfl 0 (by decide) hh_3 (fun _ h9 => h9) rfl (by decide +kernel) rfl rfl (Nat.le_of_ble_eq_true rfl) dX4_init_6 (fun H locs hP hD hS => ?_)
  have hP : va_P D vwCl [(h0, .inr (3, [.long (lZ ((0 : Nat) : Int)), .long (lZ ((0 : Nat) : Int))]))] H := hP
  have hD : va_D A [(h0, .inr (3, [.long (lZ ((0 : Nat) : Int)), .long (lZ ((0 : Nat) : Int))]))] := hD
  refine lv_aload_n hx hb dX4_init_9 rfl (lv_at hl 0 rfl) ?_
  refine zc_lconst (z := ((1 : Nat) : Int)) hx hb dX4_init_10 (by decide) ?_
  refine va_put (D := D) (ci := 3) (v := .long (lZ ((1 : Nat) : Int))) (ty := .long) (C := RX4) (T := TX4) (N := 2) hx hb hts hh_4 tyX4 tyX4_ok nmX4 hown hK hP hD hS 0 rfl rfl 1 (by decide) hh_5 (fun _ h9 => h9) rfl (by decide +kernel) rfl rfl (Nat.le_of_ble_eq_true rfl) dX4_init_11 (fun H locs hP hD hS => ?_)
  have hP : va_P D vwCl [(h0, .inr (3, [.long (lZ ((0 : Nat) : Int)), .long (lZ ((1 : Nat) : Int))]))] H := hP
  have hD : va_D A [(h0, .inr (3, [.long (lZ ((0 : Nat) : Int)), .long (lZ ((1 : Nat) : Int))]))] := hD
  exact hret (()) _ _ _ _ _ _ (Nat.le_of_ble_eq_true rfl) (Nat.le_of_ble_eq_true rfl) dX4_init_14 (trivial) hP hD hS
def rmX4_become : Room := { frames := 1, cells := 0, slots := 0, locals := 30 }
set_option maxHeartbeats 4000000 in
set_option maxRecDepth 100000 in
theorem c_X4_become (l : Launch) (D : va_G) (cI cJ : ClassId) (h0 : Nat) (p0 q0 u : Int) (d : Nat) (hu : -9223372036854775808 < u) (hu2 : u < 9223372036854775808) (hd : 0 < d) (hd2 : d < 9223372036854775808) : Cv l D vwCl (tyT cI cJ) yX4_become wsX4_become rmX4_become [.ref h0, .long (lZ (u)), .long (lZ ((d : Nat) : Int))] [(h0, .inr (3, [.long (lZ (p0)), .long (lZ (q0))]))] (Unit) (fun _ => True) (fun _ => [(h0, .inr (3, [.long (lZ (redU u d)), .long (lZ ((redL u d : Nat) : Int))]))]) := by
  have hg := red_pos (u := u) hd
  have hg2 : u.natAbs.gcd d ≤ d := Nat.gcd_le_right _ hd
  refine en_v (cc := cX4_become) (maxL := 7) (by decide) rfl [(0, .ref h0), (1, .long (lZ (u))), (3, .long (lZ ((d : Nat) : Int)))] (Nat.le_of_ble_eq_true rfl) rfl ?_
  intro p e s m args below meth c Q A hx hb hml hown hts hnm hK hP hD hA hS hret ls hl
  have hh_0 := hts (.methodLink RX4 16 Lib.MathLoose.abs_long.x) (by decide +kernel)
  have hh_1 := hts (.static Lib.MathLoose.abs_long.x) (by decide +kernel)
  have hh_2 := hts (.initialized "java/lang/Math") (by decide +kernel)
  have hh_3 := hts (.code Lib.MathLoose.abs_long.x Lib.MathLoose.abs_long.code 2 (some .long)) (by decide +kernel)
  have hh_4 := hts (.fieldLink RX4 7 "BoundDraws$Ratio" "upper" "J") (by decide +kernel)
  have hh_5 := (show ∀ w ∈ wsX40, w ∈ wsX4_become by decide +kernel)
  have hh_6 := hts (.fieldLink RX4 13 "BoundDraws$Ratio" "lower" "J") (by decide +kernel)
  refine lv_lload_n hx hb dX4_become_0 rfl (lv_at hl 1 rfl) ?_
  refine zm_absl (z := ((u.natAbs : Nat) : Int)) hx hb (hml.trans hl.1.symm) hown hh_0 hh_1 hh_2 hh_3 (Nat.le_of_ble_eq_true rfl) (Nat.le_of_ble_eq_true rfl) ⟨by omega, by omega⟩ (by omega) dX4_become_1 ?_
  refine lv_lload_n hx hb dX4_become_4 rfl (lv_at hl 2 rfl) ?_
  refine ca_lS [.long (lZ ((u.natAbs : Nat) : Int)), .long (lZ ((d : Nat) : Int))] [] [(h0, .inr (3, [.long (lZ (p0)), .long (lZ (q0))]))] 0 0 ⟨hx, hb, hml, hown, hts⟩ (c_X3_commonDivisor l D cI cJ u.natAbs d (by omega) (by omega)) (va_cwS 2 hts gX4_become_X3_commonDivisor rfl rfl rfl (by decide +kernel) ⟨(Nat.le_of_ble_eq_true rfl), (Nat.le_of_ble_eq_true rfl)⟩) hK hP hD hS hA [] [0] rfl rfl rfl rfl (by decide) rfl hl.1 rfl (Nat.le_of_ble_eq_true rfl) dX4_become_5 ⟨(Nat.le_of_ble_eq_true rfl), (Nat.le_of_ble_eq_true rfl)⟩ (Nat.le_of_ble_eq_true rfl) (Nat.le_of_ble_eq_true rfl) (fun r_5 u9 H locs hw hP hD hS => ?_)
  try dsimp only at hw
  have hP : va_P D vwCl [(h0, .inr (3, [.long (lZ (p0)), .long (lZ (q0))]))] H := hP
  have hD : va_D A [(h0, .inr (3, [.long (lZ (p0)), .long (lZ (q0))]))] := hD
  refine tp_l (y := (lZ ((u.natAbs.gcd d : Nat) : Int))) (hw) ?_
  refine lv_lstore (lv' := [(5, .long (lZ ((u.natAbs.gcd d : Nat) : Int))), (0, .ref h0), (1, .long (lZ (u))), (3, .long (lZ ((d : Nat) : Int)))]) hx hb dX4_become_8 hl (by decide) rfl (fun ls hl => ?_)
  refine lv_lload hx hb dX4_become_10 (lv_at hl 0 rfl) ?_
  refine zc_lconst (z := ((0 : Nat) : Int)) hx hb dX4_become_12 (by decide) ?_
  refine zb_l_gt (x := ((u.natAbs.gcd d : Nat) : Int)) (y := ((0 : Nat) : Int)) (tgt := 18) hx hb dX4_become_13 dX4_become_14 (by decide) ⟨by omega, by omega⟩ ⟨by decide, by decide⟩ (fun c_13 => ?_) (fun c_13 => ?_)
  · refine lv_aload_n hx hb dX4_become_18 rfl (lv_at hl 1 rfl) ?_
    refine lv_lload_n hx hb dX4_become_19 rfl (lv_at hl 2 rfl) ?_
    refine lv_lload hx hb dX4_become_20 (lv_at hl 0 rfl) ?_
    refine zl_divE (q := (redU u d)) hx hb dX4_become_22 ⟨by omega, by omega⟩ (by omega) (by omega) redU_mul ?_
    refine va_put (D := D) (ci := 3) (v := .long (lZ (redU u d))) (ty := .long) (C := RX4) (T := TX4) (N := 2) hx hb hts hh_5 tyX4 tyX4_ok nmX4 hown hK hP hD hS 0 rfl rfl 0 (by decide) hh_4 (fun _ h9 => h9) rfl (by decide +kernel) rfl rfl (Nat.le_of_ble_eq_true rfl) dX4_become_23 (fun H locs hP hD hS => ?_)
    have hP : va_P D vwCl [(h0, .inr (3, [.long (lZ (redU u d)), .long (lZ (q0))]))] H := hP
    have hD : va_D A [(h0, .inr (3, [.long (lZ (redU u d)), .long (lZ (q0))]))] := hD
    refine lv_aload_n hx hb dX4_become_26 rfl (lv_at hl 1 rfl) ?_
    refine lv_lload_n hx hb dX4_become_27 rfl (lv_at hl 3 rfl) ?_
    refine lv_lload hx hb dX4_become_28 (lv_at hl 0 rfl) ?_
    refine zl_div (z := ((redL u d : Nat) : Int)) hx hb dX4_become_30 (by omega) (by omega) (by omega) (by omega) (Int.natCast_ediv _ _).symm ?_
    refine va_put (D := D) (ci := 3) (v := .long (lZ ((redL u d : Nat) : Int))) (ty := .long) (C := RX4) (T := TX4) (N := 2) hx hb hts hh_5 tyX4 tyX4_ok nmX4 hown hK hP hD hS 0 rfl rfl 1 (by decide) hh_6 (fun _ h9 => h9) rfl (by decide +kernel) rfl rfl (Nat.le_of_ble_eq_true rfl) dX4_become_31 (fun H locs hP hD hS => ?_)
    have hP : va_P D vwCl [(h0, .inr (3, [.long (lZ (redU u d)), .long (lZ ((redL u d : Nat) : Int))]))] H := hP
    have hD : va_D A [(h0, .inr (3, [.long (lZ (redU u d)), .long (lZ ((redL u d : Nat) : Int))]))] := hD
    exact hret (()) _ _ _ _ _ _ (Nat.le_of_ble_eq_true rfl) (Nat.le_of_ble_eq_true rfl) dX4_become_34 (trivial) hP hD hS
  · exfalso; omega
def rmX4_isAbove : Room := { frames := 0, cells := 0, slots := 0, locals := 0 }
set_option maxHeartbeats 4000000 in
set_option maxRecDepth 100000 in
theorem c_X4_isAbove (l : Launch) (D : va_G) (cI cJ : ClassId) (h0 : Nat) (p0 q0 ou ol : Int) (h1 : lR (p0 * ol)) (h2 : lR (ou * q0)) : Ci l D vwCl (tyT cI cJ) yX4_isAbove wsX4_isAbove rmX4_isAbove [.ref h0, .long (lZ (ou)), .long (lZ (ol))] [(h0, .inr (3, [.long (lZ (p0)), .long (lZ (q0))]))] (Unit) (fun r _ => bres r (ou * q0 < p0 * ol)) (fun _ => [(h0, .inr (3, [.long (lZ (p0)), .long (lZ (q0))]))]) := by
  refine en_i (cc := cX4_isAbove) (maxL := 5) (by decide) rfl [(0, .ref h0), (1, .long (lZ (ou))), (3, .long (lZ (ol)))] (Nat.le_of_ble_eq_true rfl) rfl ?_
  intro p e s m args below meth c Q A hx hb hml hown hts hnm hK hP hD hA hS hret ls hl
  have hh_0 := hts (.fieldLink RX4 7 "BoundDraws$Ratio" "upper" "J") (by decide +kernel)
  have hh_1 := (show ∀ w ∈ wsX40, w ∈ wsX4_isAbove by decide +kernel)
  have hh_2 := hts (.fieldLink RX4 13 "BoundDraws$Ratio" "lower" "J") (by decide +kernel)
  refine lv_aload_n hx hb dX4_isAbove_0 rfl (lv_at hl 0 rfl) ?_
  refine va_get (D := D) (ci := 3) (v := .long (lZ (p0))) (C := RX4) (T := TX4) (N := 2) hx hb hts hh_1 hown hK hP 0 rfl rfl 0 (by decide) hh_0 (fun _ h9 => h9) rfl dX4_isAbove_1 ?_
  refine lv_lload_n hx hb dX4_isAbove_4 rfl (lv_at hl 2 rfl) ?_
  refine zl_mul (z := (p0 * ol)) hx hb dX4_isAbove_5 rfl ?_
  refine lv_lload_n hx hb dX4_isAbove_6 rfl (lv_at hl 1 rfl) ?_
  refine lv_aload_n hx hb dX4_isAbove_7 rfl (lv_at hl 0 rfl) ?_
  refine va_get (D := D) (ci := 3) (v := .long (lZ (q0))) (C := RX4) (T := TX4) (N := 2) hx hb hts hh_1 hown hK hP 0 rfl rfl 1 (by decide) hh_2 (fun _ h9 => h9) rfl dX4_isAbove_8 ?_
  refine zl_mul (z := (ou * q0)) hx hb dX4_isAbove_11 rfl ?_
  refine zb_l_le (x := (p0 * ol)) (y := (ou * q0)) (tgt := 20) hx hb dX4_isAbove_12 dX4_isAbove_13 (by decide) h1 h2 (fun c_12 => ?_) (fun c_12 => ?_)
  · refine zc_iconst (z := ((0 : Nat) : Int)) hx hb dX4_isAbove_20 (by decide) ?_
    exact hret _ (()) _ _ _ _ _ _ (Nat.le_of_ble_eq_true rfl) (Nat.le_of_ble_eq_true rfl) rfl dX4_isAbove_21 (bres_f (by omega)) hP hD hS
  · refine zc_iconst (z := ((1 : Nat) : Int)) hx hb dX4_isAbove_16 (by decide) ?_
    refine lv_goto (tgt := 21) hx hb dX4_isAbove_17 (by decide) ?_
    exact hret _ (()) _ _ _ _ _ _ (Nat.le_of_ble_eq_true rfl) (Nat.le_of_ble_eq_true rfl) rfl dX4_isAbove_21 (bres_t (by omega)) hP hD hS
def rmX4_isBelow : Room := { frames := 0, cells := 0, slots := 0, locals := 0 }
set_option maxHeartbeats 4000000 in
set_option maxRecDepth 100000 in
theorem c_X4_isBelow (l : Launch) (D : va_G) (cI cJ : ClassId) (h0 : Nat) (p0 q0 ou ol : Int) (h1 : lR (p0 * ol)) (h2 : lR (ou * q0)) : Ci l D vwCl (tyT cI cJ) yX4_isBelow wsX4_isBelow rmX4_isBelow [.ref h0, .long (lZ (ou)), .long (lZ (ol))] [(h0, .inr (3, [.long (lZ (p0)), .long (lZ (q0))]))] (Unit) (fun r _ => bres r (p0 * ol < ou * q0)) (fun _ => [(h0, .inr (3, [.long (lZ (p0)), .long (lZ (q0))]))]) := by
  refine en_i (cc := cX4_isBelow) (maxL := 5) (by decide) rfl [(0, .ref h0), (1, .long (lZ (ou))), (3, .long (lZ (ol)))] (Nat.le_of_ble_eq_true rfl) rfl ?_
  intro p e s m args below meth c Q A hx hb hml hown hts hnm hK hP hD hA hS hret ls hl
  have hh_0 := hts (.fieldLink RX4 7 "BoundDraws$Ratio" "upper" "J") (by decide +kernel)
  have hh_1 := (show ∀ w ∈ wsX40, w ∈ wsX4_isBelow by decide +kernel)
  have hh_2 := hts (.fieldLink RX4 13 "BoundDraws$Ratio" "lower" "J") (by decide +kernel)
  refine lv_aload_n hx hb dX4_isBelow_0 rfl (lv_at hl 0 rfl) ?_
  refine va_get (D := D) (ci := 3) (v := .long (lZ (p0))) (C := RX4) (T := TX4) (N := 2) hx hb hts hh_1 hown hK hP 0 rfl rfl 0 (by decide) hh_0 (fun _ h9 => h9) rfl dX4_isBelow_1 ?_
  refine lv_lload_n hx hb dX4_isBelow_4 rfl (lv_at hl 2 rfl) ?_
  refine zl_mul (z := (p0 * ol)) hx hb dX4_isBelow_5 rfl ?_
  refine lv_lload_n hx hb dX4_isBelow_6 rfl (lv_at hl 1 rfl) ?_
  refine lv_aload_n hx hb dX4_isBelow_7 rfl (lv_at hl 0 rfl) ?_
  refine va_get (D := D) (ci := 3) (v := .long (lZ (q0))) (C := RX4) (T := TX4) (N := 2) hx hb hts hh_1 hown hK hP 0 rfl rfl 1 (by decide) hh_2 (fun _ h9 => h9) rfl dX4_isBelow_8 ?_
  refine zl_mul (z := (ou * q0)) hx hb dX4_isBelow_11 rfl ?_
  refine zb_l_ge (x := (p0 * ol)) (y := (ou * q0)) (tgt := 20) hx hb dX4_isBelow_12 dX4_isBelow_13 (by decide) h1 h2 (fun c_12 => ?_) (fun c_12 => ?_)
  · refine zc_iconst (z := ((0 : Nat) : Int)) hx hb dX4_isBelow_20 (by decide) ?_
    exact hret _ (()) _ _ _ _ _ _ (Nat.le_of_ble_eq_true rfl) (Nat.le_of_ble_eq_true rfl) rfl dX4_isBelow_21 (bres_f (by omega)) hP hD hS
  · refine zc_iconst (z := ((1 : Nat) : Int)) hx hb dX4_isBelow_16 (by decide) ?_
    refine lv_goto (tgt := 21) hx hb dX4_isBelow_17 (by decide) ?_
    exact hret _ (()) _ _ _ _ _ _ (Nat.le_of_ble_eq_true rfl) (Nat.le_of_ble_eq_true rfl) rfl dX4_isBelow_21 (bres_t (by omega)) hP hD hS
def rmX4_capAtOne : Room := { frames := 2, cells := 0, slots := 0, locals := 56 }
set_option maxHeartbeats 4000000 in
set_option maxRecDepth 100000 in
theorem c_X4_capAtOne (l : Launch) (D : va_G) (cI cJ : ClassId) (h0 : Nat) (p0 q0 : Int) (h1 : lR p0) (h2 : lR q0) : Cv l D vwCl (tyT cI cJ) yX4_capAtOne wsX4_capAtOne rmX4_capAtOne [.ref h0] [(h0, .inr (3, [.long (lZ (p0)), .long (lZ (q0))]))] (Unit) (fun _ => True) (fun _ => [(h0, .inr (3, [.long (lZ (if q0 < p0 then 1 else p0)), .long (lZ (if q0 < p0 then 1 else q0))]))]) := by
  refine en_v (cc := cX4_capAtOne) (maxL := 1) (by decide) rfl [(0, .ref h0)] (Nat.le_of_ble_eq_true rfl) rfl ?_
  intro p e s m args below meth c Q A hx hb hml hown hts hnm hK hP hD hA hS hret ls hl
  have hh_0 := hts (.fieldLink RX4 7 "BoundDraws$Ratio" "upper" "J") (by decide +kernel)
  have hh_1 := (show ∀ w ∈ wsX40, w ∈ wsX4_capAtOne by decide +kernel)
  have hh_2 := hts (.fieldLink RX4 13 "BoundDraws$Ratio" "lower" "J") (by decide +kernel)
  refine lv_aload_n hx hb dX4_capAtOne_0 rfl (lv_at hl 0 rfl) ?_
  refine va_get (D := D) (ci := 3) (v := .long (lZ (p0))) (C := RX4) (T := TX4) (N := 2) hx hb hts hh_1 hown hK hP 0 rfl rfl 0 (by decide) hh_0 (fun _ h9 => h9) rfl dX4_capAtOne_1 ?_
  refine lv_aload_n hx hb dX4_capAtOne_4 rfl (lv_at hl 0 rfl) ?_
  refine va_get (D := D) (ci := 3) (v := .long (lZ (q0))) (C := RX4) (T := TX4) (N := 2) hx hb hts hh_1 hown hK hP 0 rfl rfl 1 (by decide) hh_2 (fun _ h9 => h9) rfl dX4_capAtOne_5 ?_
  refine zb_l_le (x := (p0)) (y := (q0)) (tgt := 18) hx hb dX4_capAtOne_8 dX4_capAtOne_9 (by decide) h1 h2 (fun c_8 => ?_) (fun c_8 => ?_)
  · simp only [if_neg (show ¬ q0 < p0 by omega)] at hret ⊢
    exact hret (()) _ _ _ _ _ _ (Nat.le_of_ble_eq_true rfl) (Nat.le_of_ble_eq_true rfl) dX4_capAtOne_18 (trivial) hP hD hS
  · refine lv_aload_n hx hb dX4_capAtOne_12 rfl (lv_at hl 0 rfl) ?_
    refine zc_lconst (z := ((1 : Nat) : Int)) hx hb dX4_capAtOne_13 (by decide) ?_
    refine zc_lconst (z := ((1 : Nat) : Int)) hx hb dX4_capAtOne_14 (by decide) ?_
    refine ca_vV [.long (lZ ((1 : Nat) : Int)), .long (lZ ((1 : Nat) : Int))] [] [] 0 0 ⟨hx, hb, hml, hown, hts⟩ (c_X4_become l D cI cJ h0 p0 q0 1 1 (by omega) (by omega) (by omega) (by omega)) (cwV 2 hts gX4_capAtOne_X4_become rfl rfl rfl (by decide +kernel) ⟨(Nat.le_of_ble_eq_true rfl), (Nat.le_of_ble_eq_true rfl)⟩) hK hP hD hS hA [0] [] rfl rfl rfl rfl (by decide) 0 rfl rfl rfl hl.1 rfl (Nat.le_of_ble_eq_true rfl) dX4_capAtOne_15 ⟨(Nat.le_of_ble_eq_true rfl), (Nat.le_of_ble_eq_true rfl)⟩ (Nat.le_of_ble_eq_true rfl) (Nat.le_of_ble_eq_true rfl) (fun u9 H locs hw hP hD hS => ?_)
    try dsimp only at hw
    have hP : va_P D vwCl [(h0, .inr (3, [.long (lZ (redU 1 1)), .long (lZ ((redL 1 1 : Nat) : Int))]))] H := hP
    have hD : va_D A [(h0, .inr (3, [.long (lZ (redU 1 1)), .long (lZ ((redL 1 1 : Nat) : Int))]))] := hD
    simp only [if_pos c_8] at hret ⊢
    exact hret (()) _ _ _ _ _ _ (Nat.le_of_ble_eq_true rfl) (Nat.le_of_ble_eq_true rfl) dX4_capAtOne_18 (trivial) hP hD hS
def rmX4_told : Room := { frames := 0, cells := 0, slots := 0, locals := 0 }
set_option maxHeartbeats 4000000 in
set_option maxRecDepth 100000 in
theorem c_X4_told (l : Launch) (D : va_G) (cI cJ : ClassId) (h0 : Nat) (p0 q0 sd : Int) (hs : iR sd) : Cl l D vwCl (tyT cI cJ) yX4_told wsX4_told rmX4_told [.ref h0, .int (iZ (sd))] [(h0, .inr (3, [.long (lZ (p0)), .long (lZ (q0))]))] (Unit) (fun r _ => r = lZ (if sd = 0 then p0 else q0)) (fun _ => [(h0, .inr (3, [.long (lZ (p0)), .long (lZ (q0))]))]) := by
  refine en_l (cc := cX4_told) (maxL := 2) (by decide) rfl [(0, .ref h0), (1, .int (iZ (sd)))] (Nat.le_of_ble_eq_true rfl) rfl ?_
  intro p e s m args below meth c Q A hx hb hml hown hts hnm hK hP hD hA hS hret ls hl
  have hh_0 := hts (.fieldLink RX4 13 "BoundDraws$Ratio" "lower" "J") (by decide +kernel)
  have hh_1 := (show ∀ w ∈ wsX40, w ∈ wsX4_told by decide +kernel)
  have hh_2 := hts (.fieldLink RX4 7 "BoundDraws$Ratio" "upper" "J") (by decide +kernel)
  refine lv_iload_n hx hb dX4_told_0 rfl (lv_at hl 1 rfl) ?_
  refine zb_if_ne (x := (sd)) (tgt := 11) hx hb dX4_told_1 (by decide) ⟨by omega, by omega⟩ (fun c_1 => ?_) (fun c_1 => ?_)
  · refine lv_aload_n hx hb dX4_told_11 rfl (lv_at hl 0 rfl) ?_
    refine va_get (D := D) (ci := 3) (v := .long (lZ (q0))) (C := RX4) (T := TX4) (N := 2) hx hb hts hh_1 hown hK hP 0 rfl rfl 1 (by decide) hh_0 (fun _ h9 => h9) rfl dX4_told_12 ?_
    exact hret _ (()) _ _ _ _ _ _ (Nat.le_of_ble_eq_true rfl) (Nat.le_of_ble_eq_true rfl) dX4_told_15 (by rw [if_neg (by omega)]) hP hD hS
  · refine lv_aload_n hx hb dX4_told_4 rfl (lv_at hl 0 rfl) ?_
    refine va_get (D := D) (ci := 3) (v := .long (lZ (p0))) (C := RX4) (T := TX4) (N := 2) hx hb hts hh_1 hown hK hP 0 rfl rfl 0 (by decide) hh_2 (fun _ h9 => h9) rfl dX4_told_5 ?_
    refine lv_goto (tgt := 15) hx hb dX4_told_8 (by decide) ?_
    exact hret _ (()) _ _ _ _ _ _ (Nat.le_of_ble_eq_true rfl) (Nat.le_of_ble_eq_true rfl) dX4_told_15 (by rw [if_pos (by omega)]) hP hD hS

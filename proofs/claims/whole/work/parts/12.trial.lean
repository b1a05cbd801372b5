theorem binom_le (a b : Nat) : ∀ {n k : Nat}, k ≤ n → ch n k * a ^ k * b ^ (n - k) ≤ (a + b) ^ n
  | 0, 0, _ => by simp [ch]
  | 0, k + 1, h => by omega
  | n + 1, 0, _ => by
    rw [ch_0, Nat.pow_zero, Nat.mul_one, Nat.one_mul, Nat.sub_zero]
    exact Nat.pow_le_pow_left (by omega) _
  | n + 1, k + 1, h => by
    have h1 := binom_le a b (n := n) (k := k) (by omega)
    have e1 : ch n k * a ^ (k + 1) * b ^ (n - k) = (ch n k * a ^ k * b ^ (n - k)) * a := by rw [Nat.pow_succ, ← Nat.mul_assoc, Nat.mul_right_comm]
    have e2 : ch n (k + 1) * a ^ (k + 1) * b ^ (n - k) ≤ (a + b) ^ n * b := by
      rcases (show k + 1 ≤ n ∨ k = n by omega) with e | e
      · have h2 := binom_le a b (n := n) (k := k + 1) e
        rw [show n - k = (n - (k + 1)) + 1 by omega, Nat.pow_succ b, ← Nat.mul_assoc]
        exact Nat.mul_le_mul_right _ h2
      · subst e
        rw [ch_big (show k < k + 1 by omega), Nat.zero_mul, Nat.zero_mul]
        exact Nat.zero_le _
    rw [ch_ss, Nat.add_sub_add_right, Nat.add_mul, Nat.add_mul, e1, Nat.pow_succ (a + b), Nat.mul_add]
    exact Nat.add_le_add (Nat.mul_le_mul_right _ h1) e2
/-- what the wealth is held against, both sides multiplied out -/
def trT (up dn b tr hi : Nat) : Nat := ch tr hi * (tr + 1) * b * up ^ hi * (dn - up) ^ (tr - hi)
def rich (up dn a b tr hi : Nat) : Prop := trT up dn b tr hi ≤ a * dn ^ tr
def trI (up dn a b tr hi rj : Nat) : Prop := up < dn ∧ dn ≤ 100 ∧ a ≤ 1000 ∧ b ≤ 1000 ∧ tr ≤ 60 ∧ hi ≤ tr ∧ rj ≤ tr
theorem p100 : 100 ^ 60 * 61 * 1000 < 2 ^ 448 := by decide +kernel
theorem tr_b {up dn b tr hi : Nat} (h1 : up < dn) (h2 : dn ≤ 100) (h3 : b ≤ 1000) (h4 : tr ≤ 60) (h5 : hi ≤ tr) : trT up dn b tr hi < B32 ^ 14 := by
  have e : trT up dn b tr hi = ch tr hi * up ^ hi * (dn - up) ^ (tr - hi) * (tr + 1) * b := by
    unfold trT
    rw [Nat.mul_right_comm (ch tr hi * (tr + 1)) b, Nat.mul_right_comm (ch tr hi) (tr + 1), Nat.mul_right_comm (ch tr hi * up ^ hi * (tr + 1)) b, Nat.mul_right_comm (ch tr hi * up ^ hi) (tr + 1)]
  have h6 := binom_le up (dn - up) h5
  rw [show up + (dn - up) = dn by omega] at h6
  have h7 : dn ^ tr ≤ 100 ^ 60 := Nat.le_trans (Nat.pow_le_pow_left h2 tr) (Nat.pow_le_pow_right (by decide) h4)
  have h8 : trT up dn b tr hi ≤ 100 ^ 60 * 61 * 1000 := by
    rw [e]
    exact Nat.mul_le_mul (Nat.mul_le_mul (Nat.le_trans h6 h7) (by omega)) h3
  rw [B14]
  exact Nat.lt_of_le_of_lt h8 p100
theorem tr_b1 {up dn b tr hi : Nat} (h1 : up < dn) (h2 : dn ≤ 100) (h3 : b ≤ 1000) (h4 : tr ≤ 60) (h5 : hi ≤ tr) : ch tr hi * (tr + 1) * b * up ^ hi < B32 ^ 14 := by
  have h := tr_b h1 h2 h3 h4 h5
  refine Nat.lt_of_le_of_lt ?_ h
  unfold trT
  exact Nat.le_mul_of_pos_right _ (Nat.pow_pos (by omega))
theorem tr_b2 {dn a tr : Nat} (h2 : dn ≤ 100) (h3 : a ≤ 1000) (h4 : tr ≤ 60) : a * dn ^ tr < B32 ^ 14 := by
  have h7 : dn ^ tr ≤ 100 ^ 60 := Nat.le_trans (Nat.pow_le_pow_left h2 tr) (Nat.pow_le_pow_right (by decide) h4)
  have h8 : a * dn ^ tr ≤ 1000 * 100 ^ 60 := Nat.mul_le_mul h3 h7
  rw [B14]
  exact Nat.lt_of_le_of_lt h8 (by decide +kernel)
theorem tr_b3 {b tr hi : Nat} (h3 : b ≤ 1000) (h4 : tr ≤ 60) : ch tr hi * (tr + 1) < B32 ^ 14 ∧ ch tr hi * (tr + 1) * b < B32 ^ 14 := by
  have h := ch_b2 (n := tr) (k := hi) h4
  have h1 : ch tr hi * (tr + 1) ≤ 1000000000000000000 * 61 := Nat.mul_le_mul (by omega) (by omega)
  have h2 : ch tr hi * (tr + 1) * b ≤ 1000000000000000000 * 61 * 1000 := Nat.mul_le_mul h1 h3
  rw [B14]
  exact ⟨Nat.lt_of_le_of_lt h1 (by decide +kernel), Nat.lt_of_le_of_lt h2 (by decide +kernel)⟩
theorem cmpZ_ge {v w : Nat} : 0 ≤ cmpZ v w ↔ w ≤ v := by
  unfold cmpZ; split
  · omega
  · split <;> omega
def rmX6_init : Room := { frames := 2, cells := 4, slots := 32, locals := 32 }
set_option maxHeartbeats 4000000 in
set_option maxRecDepth 100000 in
theorem c_X6_init (l : Launch) (D : va_G) (cI cJ : ClassId) (h0 : Nat) : Cv l D vwCl (tyT cI cJ) yX6_init wsX6_init rmX6_init [.ref h0] [(h0, .inr (5, [.null, .null, .int (iZ ((0 : Nat) : Int)), .int (iZ ((0 : Nat) : Int)), .int (iZ ((0 : Nat) : Int)), .int (iZ ((0 : Nat) : Int)), .int (iZ ((0 : Nat) : Int)), .int (iZ ((0 : Nat) : Int)), .int (iZ ((0 : Nat) : Int)), .int (iZ ((0 : Nat) : Int))]))] (Nat × Nat × Nat × Nat) (fun _ => True) (fun q => [(h0, .inr (5, [.ref q.1, .ref q.2.1, .int (iZ ((0 : Nat) : Int)), .int (iZ ((0 : Nat) : Int)), .int (iZ ((0 : Nat) : Int)), .int (iZ ((0 : Nat) : Int)), .int (iZ ((0 : Nat) : Int)), .int (iZ ((0 : Nat) : Int)), .int (iZ ((0 : Nat) : Int)), .int (iZ ((0 : Nat) : Int))])), (q.1, .inr (8, [.ref q.2.2.1, .int (iZ ((0 : Nat) : Int))])), (q.2.2.1, .inl (cJ, 14, .inr (.inl (LJ (fun _ => 0))))), (q.2.1, .inr (8, [.ref q.2.2.2, .int (iZ ((0 : Nat) : Int))])), (q.2.2.2, .inl (cJ, 14, .inr (.inl (LJ (fun _ => 0)))))]) := by
  refine en_v (cc := cX6_init) (maxL := 1) (by decide) rfl [(0, .ref h0)] (Nat.le_of_ble_eq_true rfl) rfl ?_
  intro p e s m args below meth c Q A hx hb hml hown hts hnm hK hP hD hA hS hret ls hl
  have hh_0 := hts (.methodLink RX6 1 objectInit) (by decide +kernel)
  have hh_1 := hts (.instanceMethod objectInit) (by decide +kernel)
  have hh_2 := hts (.code objectInit ⟨#[0xb1]⟩ 1 none) (by decide +kernel)
  have hh_3 := (show ∀ w ∈ wsX90, w ∈ wsX6_init by decide +kernel)
  have hh_4 := hts (.classLink RX6 7 RX9) (by decide +kernel)
  have hh_5 := hts (.instantiable RX9 2) (by decide +kernel)
  have hh_6 := hts (.initialized RX9) (by decide +kernel)
  have hh_7 := hts (.methodLink RX6 9 yX9_init) (by decide +kernel)
  have hh_8 := hts (.instanceMethod yX9_init) (by decide +kernel)
  have hh_9 := hts (.fieldLink RX6 10 "BoundDraws$Trial" "ofAll" "LBoundDraws$Wide;") (by decide +kernel)
  have hh_10 := (show ∀ w ∈ wsX60, w ∈ wsX6_init by decide +kernel)
  have hh_11 := hts (.fieldLink RX6 16 "BoundDraws$Trial" "ofThese" "LBoundDraws$Wide;") (by decide +kernel)
  refine lv_aload_n hx hb dX6_init_0 rfl (lv_at hl 0 rfl) ?_
  refine W.objInit hx hb hown hh_0 hh_1 hh_2 rfl (by rw [hml]; exact hl.1) rfl dX6_init_1 (Nat.le_of_ble_eq_true rfl) (Nat.le_of_ble_eq_true rfl) ?_
  refine W.eq (g2 := F0 m 4 ls []) rfl ?_
  refine lv_aload_n hx hb dX6_init_4 rfl (lv_at hl 0 rfl) ?_
  refine va_new (ci := 8) (fs := [.null, .int (iZ ((0 : Nat) : Int))]) (C := RX9) (T := TX9) (N := 2) hx hb hts hh_3 tyX9 tyX9_ok hown hh_4 hh_5 hh_6 hK hP hD hS hA rfl (fun j hj => by rcases (show j = 0 ∨ j = 1 by omega) with rfl | rfl <;> rfl) (Nat.le_of_ble_eq_true rfl) (Nat.le_of_ble_eq_true rfl) dX6_init_5 (fun w1 H hP hD hS => ?_)
  have hP : va_P D vwCl [(h0, .inr (5, [.null, .null, .int (iZ ((0 : Nat) : Int)), .int (iZ ((0 : Nat) : Int)), .int (iZ ((0 : Nat) : Int)), .int (iZ ((0 : Nat) : Int)), .int (iZ ((0 : Nat) : Int)), .int (iZ ((0 : Nat) : Int)), .int (iZ ((0 : Nat) : Int)), .int (iZ ((0 : Nat) : Int))])), (w1, .inr (8, [.null, .int (iZ ((0 : Nat) : Int))]))] H := hP
  have hD : va_D A [(h0, .inr (5, [.null, .null, .int (iZ ((0 : Nat) : Int)), .int (iZ ((0 : Nat) : Int)), .int (iZ ((0 : Nat) : Int)), .int (iZ ((0 : Nat) : Int)), .int (iZ ((0 : Nat) : Int)), .int (iZ ((0 : Nat) : Int)), .int (iZ ((0 : Nat) : Int)), .int (iZ ((0 : Nat) : Int))])), (w1, .inr (8, [.null, .int (iZ ((0 : Nat) : Int))]))] := hD
  refine W.widen (k := 1) (n := 2) (Nat.le_of_ble_eq_true rfl) (Nat.le_of_ble_eq_true rfl) ?_
  refine lv_dup hx hb dX6_init_8 rfl ?_
  refine ca_vI (ret := none) [] [.ref w1, .ref h0] [(h0, .inr (5, [.null, .null, .int (iZ ((0 : Nat) : Int)), .int (iZ ((0 : Nat) : Int)), .int (iZ ((0 : Nat) : Int)), .int (iZ ((0 : Nat) : Int)), .int (iZ ((0 : Nat) : Int)), .int (iZ ((0 : Nat) : Int)), .int (iZ ((0 : Nat) : Int)), .int (iZ ((0 : Nat) : Int))]))] 2 16 ⟨hx, hb, hml, hown, hts⟩ (c_X9_init l D cI cJ w1) (cwI 0 hts gX6_init_X9_init rfl rfl rfl hh_6 hh_7 hh_8 rfl (by decide +kernel) ⟨(Nat.le_of_ble_eq_true rfl), (Nat.le_of_ble_eq_true rfl)⟩) hK hP hD hS hA [1] [0] rfl rfl rfl rfl (by decide) rfl hl.1 rfl (Nat.le_of_ble_eq_true rfl) dX6_init_9 ⟨(Nat.le_of_ble_eq_true rfl), (Nat.le_of_ble_eq_true rfl)⟩ (Nat.le_of_ble_eq_true rfl) (Nat.le_of_ble_eq_true rfl) (fun y1 H locs hw hP hD hS => ?_)
  try dsimp only at hw
  have hP : va_P D vwCl [(h0, .inr (5, [.null, .null, .int (iZ ((0 : Nat) : Int)), .int (iZ ((0 : Nat) : Int)), .int (iZ ((0 : Nat) : Int)), .int (iZ ((0 : Nat) : Int)), .int (iZ ((0 : Nat) : Int)), .int (iZ ((0 : Nat) : Int)), .int (iZ ((0 : Nat) : Int)), .int (iZ ((0 : Nat) : Int))])), (w1, .inr (8, [.ref y1, .int (iZ ((0 : Nat) : Int))])), (y1, .inl (cJ, 14, .inr (.inl (LJ (fun _ => 0)))))] H := hP
  have hD : va_D A [(h0, .inr (5, [.null, .null, .int (iZ ((0 : Nat) : Int)), .int (iZ ((0 : Nat) : Int)), .int (iZ ((0 : Nat) : Int)), .int (iZ ((0 : Nat) : Int)), .int (iZ ((0 : Nat) : Int)), .int (iZ ((0 : Nat) : Int)), .int (iZ ((0 : Nat) : Int)), .int (iZ ((0 : Nat) : Int))])), (w1, .inr (8, [.ref y1, .int (iZ ((0 : Nat) : Int))])), (y1, .inl (cJ, 14, .inr (.inl (LJ (fun _ => 0)))))] := hD
  refine va_putF (D := D) (ci := 5) (v := .ref w1) (ty := .object "BoundDraws$Wide") (C := RX6) (T := TX6) (N := 10) hx hb hts hh_10 tyX6 tyX6_ok nmX6 hown hK hP hD hS 0 rfl rfl 0 (by decide) hh_9 (fun _ h9 => h9) rfl hnm rfl (by decide +kernel) rfl rfl (Nat.le_of_ble_eq_true rfl) dX6_init_12 (fun H locs hP hD hS => ?_)
  have hP : va_P D vwCl [(h0, .inr (5, [.ref w1, .null, .int (iZ ((0 : Nat) : Int)), .int (iZ ((0 : Nat) : Int)), .int (iZ ((0 : Nat) : Int)), .int (iZ ((0 : Nat) : Int)), .int (iZ ((0 : Nat) : Int)), .int (iZ ((0 : Nat) : Int)), .int (iZ ((0 : Nat) : Int)), .int (iZ ((0 : Nat) : Int))])), (w1, .inr (8, [.ref y1, .int (iZ ((0 : Nat) : Int))])), (y1, .inl (cJ, 14, .inr (.inl (LJ (fun _ => 0)))))] H := hP
  have hD : va_D A [(h0, .inr (5, [.ref w1, .null, .int (iZ ((0 : Nat) : Int)), .int (iZ ((0 : Nat) : Int)), .int (iZ ((0 : Nat) : Int)), .int (iZ ((0 : Nat) : Int)), .int (iZ ((0 : Nat) : Int)), .int (iZ ((0 : Nat) : Int)), .int (iZ ((0 : Nat) : Int)), .int (iZ ((0 : Nat) : Int))])), (w1, .inr (8, [.ref y1, .int (iZ ((0 : Nat) : Int))])), (y1, .inl (cJ, 14, .inr (.inl (LJ (fun _ => 0)))))] := hD
  refine lv_aload_n hx hb dX6_init_15 rfl (lv_at hl 0 rfl) ?_
  refine va_new (ci := 8) (fs := [.null, .int (iZ ((0 : Nat) : Int))]) (C := RX9) (T := TX9) (N := 2) hx hb hts hh_3 tyX9 tyX9_ok hown hh_4 hh_5 hh_6 hK hP hD hS hA rfl (fun j hj => by rcases (show j = 0 ∨ j = 1 by omega) with rfl | rfl <;> rfl) (Nat.le_of_ble_eq_true rfl) (Nat.le_of_ble_eq_true rfl) dX6_init_16 (fun w2 H hP hD hS => ?_)
  have hP : va_P D vwCl [(h0, .inr (5, [.ref w1, .null, .int (iZ ((0 : Nat) : Int)), .int (iZ ((0 : Nat) : Int)), .int (iZ ((0 : Nat) : Int)), .int (iZ ((0 : Nat) : Int)), .int (iZ ((0 : Nat) : Int)), .int (iZ ((0 : Nat) : Int)), .int (iZ ((0 : Nat) : Int)), .int (iZ ((0 : Nat) : Int))])), (w1, .inr (8, [.ref y1, .int (iZ ((0 : Nat) : Int))])), (y1, .inl (cJ, 14, .inr (.inl (LJ (fun _ => 0))))), (w2, .inr (8, [.null, .int (iZ ((0 : Nat) : Int))]))] H := hP
  have hD : va_D A [(h0, .inr (5, [.ref w1, .null, .int (iZ ((0 : Nat) : Int)), .int (iZ ((0 : Nat) : Int)), .int (iZ ((0 : Nat) : Int)), .int (iZ ((0 : Nat) : Int)), .int (iZ ((0 : Nat) : Int)), .int (iZ ((0 : Nat) : Int)), .int (iZ ((0 : Nat) : Int)), .int (iZ ((0 : Nat) : Int))])), (w1, .inr (8, [.ref y1, .int (iZ ((0 : Nat) : Int))])), (y1, .inl (cJ, 14, .inr (.inl (LJ (fun _ => 0))))), (w2, .inr (8, [.null, .int (iZ ((0 : Nat) : Int))]))] := hD
  refine W.widen (k := 3) (n := 18) (Nat.le_of_ble_eq_true rfl) (Nat.le_of_ble_eq_true rfl) ?_
  refine lv_dup hx hb dX6_init_19 rfl ?_
  refine ca_vI (ret := none) [] [.ref w2, .ref h0] [(h0, .inr (5, [.ref w1, .null, .int (iZ ((0 : Nat) : Int)), .int (iZ ((0 : Nat) : Int)), .int (iZ ((0 : Nat) : Int)), .int (iZ ((0 : Nat) : Int)), .int (iZ ((0 : Nat) : Int)), .int (iZ ((0 : Nat) : Int)), .int (iZ ((0 : Nat) : Int)), .int (iZ ((0 : Nat) : Int))])), (w1, .inr (8, [.ref y1, .int (iZ ((0 : Nat) : Int))])), (y1, .inl (cJ, 14, .inr (.inl (LJ (fun _ => 0)))))] 4 32 ⟨hx, hb, hml, hown, hts⟩ (c_X9_init l D cI cJ w2) (cwI 0 hts gX6_init_X9_init rfl rfl rfl hh_6 hh_7 hh_8 rfl (by decide +kernel) ⟨(Nat.le_of_ble_eq_true rfl), (Nat.le_of_ble_eq_true rfl)⟩) hK hP hD hS hA [3] [0, 1, 2] rfl rfl rfl rfl (by decide) rfl hl.1 rfl (Nat.le_of_ble_eq_true rfl) dX6_init_20 ⟨(Nat.le_of_ble_eq_true rfl), (Nat.le_of_ble_eq_true rfl)⟩ (Nat.le_of_ble_eq_true rfl) (Nat.le_of_ble_eq_true rfl) (fun y2 H locs hw hP hD hS => ?_)
  try dsimp only at hw
  have hP : va_P D vwCl [(h0, .inr (5, [.ref w1, .null, .int (iZ ((0 : Nat) : Int)), .int (iZ ((0 : Nat) : Int)), .int (iZ ((0 : Nat) : Int)), .int (iZ ((0 : Nat) : Int)), .int (iZ ((0 : Nat) : Int)), .int (iZ ((0 : Nat) : Int)), .int (iZ ((0 : Nat) : Int)), .int (iZ ((0 : Nat) : Int))])), (w1, .inr (8, [.ref y1, .int (iZ ((0 : Nat) : Int))])), (y1, .inl (cJ, 14, .inr (.inl (LJ (fun _ => 0))))), (w2, .inr (8, [.ref y2, .int (iZ ((0 : Nat) : Int))])), (y2, .inl (cJ, 14, .inr (.inl (LJ (fun _ => 0)))))] H := hP
  have hD : va_D A [(h0, .inr (5, [.ref w1, .null, .int (iZ ((0 : Nat) : Int)), .int (iZ ((0 : Nat) : Int)), .int (iZ ((0 : Nat) : Int)), .int (iZ ((0 : Nat) : Int)), .int (iZ ((0 : Nat) : Int)), .int (iZ ((0 : Nat) : Int)), .int (iZ ((0 : Nat) : Int)), .int (iZ ((0 : Nat) : Int))])), (w1, .inr (8, [.ref y1, .int (iZ ((0 : Nat) : Int))])), (y1, .inl (cJ, 14, .inr (.inl (LJ (fun _ => 0))))), (w2, .inr (8, [.ref y2, .int (iZ ((0 : Nat) : Int))])), (y2, .inl (cJ, 14, .inr (.inl (LJ (fun _ => 0)))))] := hD
  refine va_putF (D := D) (ci := 5) (v := .ref w2) (ty := .object "BoundDraws$Wide") (C := RX6) (T := TX6) (N := 10) hx hb hts hh_10 tyX6 tyX6_ok nmX6 hown hK hP hD hS 0 rfl rfl 1 (by decide) hh_11 (fun _ h9 => h9) rfl hnm rfl (by decide +kernel) rfl rfl (Nat.le_of_ble_eq_true rfl) dX6_init_23 (fun H locs hP hD hS => ?_)
  have hP : va_P D vwCl [(h0, .inr (5, [.ref w1, .ref w2, .int (iZ ((0 : Nat) : Int)), .int (iZ ((0 : Nat) : Int)), .int (iZ ((0 : Nat) : Int)), .int (iZ ((0 : Nat) : Int)), .int (iZ ((0 : Nat) : Int)), .int (iZ ((0 : Nat) : Int)), .int (iZ ((0 : Nat) : Int)), .int (iZ ((0 : Nat) : Int))])), (w1, .inr (8, [.ref y1, .int (iZ ((0 : Nat) : Int))])), (y1, .inl (cJ, 14, .inr (.inl (LJ (fun _ => 0))))), (w2, .inr (8, [.ref y2, .int (iZ ((0 : Nat) : Int))])), (y2, .inl (cJ, 14, .inr (.inl (LJ (fun _ => 0)))))] H := hP
  have hD : va_D A [(h0, .inr (5, [.ref w1, .ref w2, .int (iZ ((0 : Nat) : Int)), .int (iZ ((0 : Nat) : Int)), .int (iZ ((0 : Nat) : Int)), .int (iZ ((0 : Nat) : Int)), .int (iZ ((0 : Nat) : Int)), .int (iZ ((0 : Nat) : Int)), .int (iZ ((0 : Nat) : Int)), .int (iZ ((0 : Nat) : Int))])), (w1, .inr (8, [.ref y1, .int (iZ ((0 : Nat) : Int))])), (y1, .inl (cJ, 14, .inr (.inl (LJ (fun _ => 0))))), (w2, .inr (8, [.ref y2, .int (iZ ((0 : Nat) : Int))])), (y2, .inl (cJ, 14, .inr (.inl (LJ (fun _ => 0)))))] := hD
  exact hret (w1, w2, y1, y2) _ _ _ _ _ _ (Nat.le_of_ble_eq_true rfl) (Nat.le_of_ble_eq_true rfl) dX6_init_26 (trivial) hP hD hS
def rmX6_start : Room := { frames := 0, cells := 0, slots := 0, locals := 0 }
set_option maxHeartbeats 4000000 in
set_option maxRecDepth 100000 in
theorem c_X6_start (l : Launch) (D : va_G) (cI cJ : ClassId) (h0 oa ot : Nat) (on up dn a b tr hi rj : Nat) (x1 x2 x3 x4 : Nat) : Cv l D vwCl (tyT cI cJ) yX6_start wsX6_start rmX6_start [.ref h0, .int (iZ ((x1 : Nat) : Int)), .int (iZ ((x2 : Nat) : Int)), .int (iZ ((x3 : Nat) : Int)), .int (iZ ((x4 : Nat) : Int))] [(h0, .inr (5, [.ref oa, .ref ot, .int (iZ ((on : Nat) : Int)), .int (iZ ((up : Nat) : Int)), .int (iZ ((dn : Nat) : Int)), .int (iZ ((a : Nat) : Int)), .int (iZ ((b : Nat) : Int)), .int (iZ ((tr : Nat) : Int)), .int (iZ ((hi : Nat) : Int)), .int (iZ ((rj : Nat) : Int))]))] (Unit) (fun _ => True) (fun _ => [(h0, .inr (5, [.ref oa, .ref ot, .int (iZ ((1 : Nat) : Int)), .int (iZ ((x1 : Nat) : Int)), .int (iZ ((x2 : Nat) : Int)), .int (iZ ((x3 : Nat) : Int)), .int (iZ ((x4 : Nat) : Int)), .int (iZ ((0 : Nat) : Int)), .int (iZ ((0 : Nat) : Int)), .int (iZ ((0 : Nat) : Int))]))]) := by
  refine en_v (cc := cX6_start) (maxL := 5) (by decide) rfl [(0, .ref h0), (1, .int (iZ ((x1 : Nat) : Int))), (2, .int (iZ ((x2 : Nat) : Int))), (3, .int (iZ ((x3 : Nat) : Int))), (4, .int (iZ ((x4 : Nat) : Int)))] (Nat.le_of_ble_eq_true rfl) rfl ?_
  intro p e s m args below meth c Q A hx hb hml hown hts hnm hK hP hD hA hS hret ls hl
  have hh_0 := hts (.fieldLink RX6 19 "BoundDraws$Trial" "on" "Z") (by decide +kernel)
  have hh_1 := (show ∀ w ∈ wsX60, w ∈ wsX6_start by decide +kernel)
  have hh_2 := hts (.fieldLink RX6 23 "BoundDraws$Trial" "up" "I") (by decide +kernel)
  have hh_3 := hts (.fieldLink RX6 27 "BoundDraws$Trial" "down" "I") (by decide +kernel)
  have hh_4 := hts (.fieldLink RX6 30 "BoundDraws$Trial" "a" "I") (by decide +kernel)
  have hh_5 := hts (.fieldLink RX6 33 "BoundDraws$Trial" "b" "I") (by decide +kernel)
  have hh_6 := hts (.fieldLink RX6 36 "BoundDraws$Trial" "tries" "I") (by decide +kernel)
  have hh_7 := hts (.fieldLink RX6 39 "BoundDraws$Trial" "hits" "I") (by decide +kernel)
  have hh_8 := hts (.fieldLink RX6 42 "BoundDraws$Trial" "rejectedBehind" "I") (by decide +kernel)
  refine lv_aload_n hx hb dX6_start_0 rfl (lv_at hl 0 rfl) ?_
  refine zc_iconst (z := ((1 : Nat) : Int)) hx hb dX6_start_1 (by decide) ?_
  refine va_put (D := D) (ci := 5) (v := .int (iZ ((1 : Nat) : Int))) (ty := .boolean) (C := RX6) (T := TX6) (N := 10) hx hb hts hh_1 tyX6 tyX6_ok nmX6 hown hK hP hD hS 0 rfl rfl 2 (by decide) hh_0 (fun _ h9 => h9) rfl (by decide +kernel) rfl rfl (Nat.le_of_ble_eq_true rfl) dX6_start_2 (fun H locs hP hD hS => ?_)
  have hP : va_P D vwCl [(h0, .inr (5, [.ref oa, .ref ot, .int (iZ ((1 : Nat) : Int)), .int (iZ ((up : Nat) : Int)), .int (iZ ((dn : Nat) : Int)), .int (iZ ((a : Nat) : Int)), .int (iZ ((b : Nat) : Int)), .int (iZ ((tr : Nat) : Int)), .int (iZ ((hi : Nat) : Int)), .int (iZ ((rj : Nat) : Int))]))] H := hP
  have hD : va_D A [(h0, .inr (5, [.ref oa, .ref ot, .int (iZ ((1 : Nat) : Int)), .int (iZ ((up : Nat) : Int)), .int (iZ ((dn : Nat) : Int)), .int (iZ ((a : Nat) : Int)), .int (iZ ((b : Nat) : Int)), .int (iZ ((tr : Nat) : Int)), .int (iZ ((hi : Nat) : Int)), .int (iZ ((rj : Nat) : Int))]))] := hD
  refine lv_aload_n hx hb dX6_start_5 rfl (lv_at hl 0 rfl) ?_
  refine lv_iload_n hx hb dX6_start_6 rfl (lv_at hl 1 rfl) ?_
  refine va_put (D := D) (ci := 5) (v := .int (iZ ((x1 : Nat) : Int))) (ty := .int) (C := RX6) (T := TX6) (N := 10) hx hb hts hh_1 tyX6 tyX6_ok nmX6 hown hK hP hD hS 0 rfl rfl 3 (by decide) hh_2 (fun _ h9 => h9) rfl (by decide +kernel) rfl rfl (Nat.le_of_ble_eq_true rfl) dX6_start_7 (fun H locs hP hD hS => ?_)
  have hP : va_P D vwCl [(h0, .inr (5, [.ref oa, .ref ot, .int (iZ ((1 : Nat) : Int)), .int (iZ ((x1 : Nat) : Int)), .int (iZ ((dn : Nat) : Int)), .int (iZ ((a : Nat) : Int)), .int (iZ ((b : Nat) : Int)), .int (iZ ((tr : Nat) : Int)), .int (iZ ((hi : Nat) : Int)), .int (iZ ((rj : Nat) : Int))]))] H := hP
  have hD : va_D A [(h0, .inr (5, [.ref oa, .ref ot, .int (iZ ((1 : Nat) : Int)), .int (iZ ((x1 : Nat) : Int)), .int (iZ ((dn : Nat) : Int)), .int (iZ ((a : Nat) : Int)), .int (iZ ((b : Nat) : Int)), .int (iZ ((tr : Nat) : Int)), .int (iZ ((hi : Nat) : Int)), .int (iZ ((rj : Nat) : Int))]))] := hD
  refine lv_aload_n hx hb dX6_start_10 rfl (lv_at hl 0 rfl) ?_
  refine lv_iload_n hx hb dX6_start_11 rfl (lv_at hl 2 rfl) ?_
  refine va_put (D := D) (ci := 5) (v := .int (iZ ((x2 : Nat) : Int))) (ty := .int) (C := RX6) (T := TX6) (N := 10) hx hb hts hh_1 tyX6 tyX6_ok nmX6 hown hK hP hD hS 0 rfl rfl 4 (by decide) hh_3 (fun _ h9 => h9) rfl (by decide +kernel) rfl rfl (Nat.le_of_ble_eq_true rfl) dX6_start_12 (fun H locs hP hD hS => ?_)
  have hP : va_P D vwCl [(h0, .inr (5, [.ref oa, .ref ot, .int (iZ ((1 : Nat) : Int)), .int (iZ ((x1 : Nat) : Int)), .int (iZ ((x2 : Nat) : Int)), .int (iZ ((a : Nat) : Int)), .int (iZ ((b : Nat) : Int)), .int (iZ ((tr : Nat) : Int)), .int (iZ ((hi : Nat) : Int)), .int (iZ ((rj : Nat) : Int))]))] H := hP
  have hD : va_D A [(h0, .inr (5, [.ref oa, .ref ot, .int (iZ ((1 : Nat) : Int)), .int (iZ ((x1 : Nat) : Int)), .int (iZ ((x2 : Nat) : Int)), .int (iZ ((a : Nat) : Int)), .int (iZ ((b : Nat) : Int)), .int (iZ ((tr : Nat) : Int)), .int (iZ ((hi : Nat) : Int)), .int (iZ ((rj : Nat) : Int))]))] := hD
  refine lv_aload_n hx hb dX6_start_15 rfl (lv_at hl 0 rfl) ?_
  refine lv_iload_n hx hb dX6_start_16 rfl (lv_at hl 3 rfl) ?_
  refine va_put (D := D) (ci := 5) (v := .int (iZ ((x3 : Nat) : Int))) (ty := .int) (C := RX6) (T := TX6) (N := 10) hx hb hts hh_1 tyX6 tyX6_ok nmX6 hown hK hP hD hS 0 rfl rfl 5 (by decide) hh_4 (fun _ h9 => h9) rfl (by decide +kernel) rfl rfl (Nat.le_of_ble_eq_true rfl) dX6_start_17 (fun H locs hP hD hS => ?_)
  have hP : va_P D vwCl [(h0, .inr (5, [.ref oa, .ref ot, .int (iZ ((1 : Nat) : Int)), .int (iZ ((x1 : Nat) : Int)), .int (iZ ((x2 : Nat) : Int)), .int (iZ ((x3 : Nat) : Int)), .int (iZ ((b : Nat) : Int)), .int (iZ ((tr : Nat) : Int)), .int (iZ ((hi : Nat) : Int)), .int (iZ ((rj : Nat) : Int))]))] H := hP
  have hD : va_D A [(h0, .inr (5, [.ref oa, .ref ot, .int (iZ ((1 : Nat) : Int)), .int (iZ ((x1 : Nat) : Int)), .int (iZ ((x2 : Nat) : Int)), .int (iZ ((x3 : Nat) : Int)), .int (iZ ((b : Nat) : Int)), .int (iZ ((tr : Nat) : Int)), .int (iZ ((hi : Nat) : Int)), .int (iZ ((rj : Nat) : Int))]))] := hD
  refine lv_aload_n hx hb dX6_start_20 rfl (lv_at hl 0 rfl) ?_
  refine lv_iload hx hb dX6_start_21 (lv_at hl 4 rfl) ?_
  refine va_put (D := D) (ci := 5) (v := .int (iZ ((x4 : Nat) : Int))) (ty := .int) (C := RX6) (T := TX6) (N := 10) hx hb hts hh_1 tyX6 tyX6_ok nmX6 hown hK hP hD hS 0 rfl rfl 6 (by decide) hh_5 (fun _ h9 => h9) rfl (by decide +kernel) rfl rfl (Nat.le_of_ble_eq_true rfl) dX6_start_23 (fun H locs hP hD hS => ?_)
  have hP : va_P D vwCl [(h0, .inr (5, [.ref oa, .ref ot, .int (iZ ((1 : Nat) : Int)), .int (iZ ((x1 : Nat) : Int)), .int (iZ ((x2 : Nat) : Int)), .int (iZ ((x3 : Nat) : Int)), .int (iZ ((x4 : Nat) : Int)), .int (iZ ((tr : Nat) : Int)), .int (iZ ((hi : Nat) : Int)), .int (iZ ((rj : Nat) : Int))]))] H := hP
  have hD : va_D A [(h0, .inr (5, [.ref oa, .ref ot, .int (iZ ((1 : Nat) : Int)), .int (iZ ((x1 : Nat) : Int)), .int (iZ ((x2 : Nat) : Int)), .int (iZ ((x3 : Nat) : Int)), .int (iZ ((x4 : Nat) : Int)), .int (iZ ((tr : Nat) : Int)), .int (iZ ((hi : Nat) : Int)), .int (iZ ((rj : Nat) : Int))]))] := hD
  refine lv_aload_n hx hb dX6_start_26 rfl (lv_at hl 0 rfl) ?_
  refine zc_iconst (z := ((0 : Nat) : Int)) hx hb dX6_start_27 (by decide) ?_
  refine va_put (D := D) (ci := 5) (v := .int (iZ ((0 : Nat) : Int))) (ty := .int) (C := RX6) (T := TX6) (N := 10) hx hb hts hh_1 tyX6 tyX6_ok nmX6 hown hK hP hD hS 0 rfl rfl 7 (by decide) hh_6 (fun _ h9 => h9) rfl (by decide +kernel) rfl rfl (Nat.le_of_ble_eq_true rfl) dX6_start_28 (fun H locs hP hD hS => ?_)
  have hP : va_P D vwCl [(h0, .inr (5, [.ref oa, .ref ot, .int (iZ ((1 : Nat) : Int)), .int (iZ ((x1 : Nat) : Int)), .int (iZ ((x2 : Nat) : Int)), .int (iZ ((x3 : Nat) : Int)), .int (iZ ((x4 : Nat) : Int)), .int (iZ ((0 : Nat) : Int)), .int (iZ ((hi : Nat) : Int)), .int (iZ ((rj : Nat) : Int))]))] H := hP
  have hD : va_D A [(h0, .inr (5, [.ref oa, .ref ot, .int (iZ ((1 : Nat) : Int)), .int (iZ ((x1 : Nat) : Int)), .int (iZ ((x2 : Nat) : Int)), .int (iZ ((x3 : Nat) : Int)), .int (iZ ((x4 : Nat) : Int)), .int (iZ ((0 : Nat) : Int)), .int (iZ ((hi : Nat) : Int)), .int (iZ ((rj : Nat) : Int))]))] := hD
  refine lv_aload_n hx hb dX6_start_31 rfl (lv_at hl 0 rfl) ?_
  refine zc_iconst (z := ((0 : Nat) : Int)) hx hb dX6_start_32 (by decide) ?_
  refine va_put (D := D) (ci := 5) (v := .int (iZ ((0 : Nat) : Int))) (ty := .int) (C := RX6) (T := TX6) (N := 10) hx hb hts hh_1 tyX6 tyX6_ok nmX6 hown hK hP hD hS 0 rfl rfl 8 (by decide) hh_7 (fun _ h9 => h9) rfl (by decide +kernel) rfl rfl (Nat.le_of_ble_eq_true rfl) dX6_start_33 (fun H locs hP hD hS => ?_)
  have hP : va_P D vwCl [(h0, .inr (5, [.ref oa, .ref ot, .int (iZ ((1 : Nat) : Int)), .int (iZ ((x1 : Nat) : Int)), .int (iZ ((x2 : Nat) : Int)), .int (iZ ((x3 : Nat) : Int)), .int (iZ ((x4 : Nat) : Int)), .int (iZ ((0 : Nat) : Int)), .int (iZ ((0 : Nat) : Int)), .int (iZ ((rj : Nat) : Int))]))] H := hP
  have hD : va_D A [(h0, .inr (5, [.ref oa, .ref ot, .int (iZ ((1 : Nat) : Int)), .int (iZ ((x1 : Nat) : Int)), .int (iZ ((x2 : Nat) : Int)), .int (iZ ((x3 : Nat) : Int)), .int (iZ ((x4 : Nat) : Int)), .int (iZ ((0 : Nat) : Int)), .int (iZ ((0 : Nat) : Int)), .int (iZ ((rj : Nat) : Int))]))] := hD
  refine lv_aload_n hx hb dX6_start_36 rfl (lv_at hl 0 rfl) ?_
  refine zc_iconst (z := ((0 : Nat) : Int)) hx hb dX6_start_37 (by decide) ?_
  refine va_put (D := D) (ci := 5) (v := .int (iZ ((0 : Nat) : Int))) (ty := .int) (C := RX6) (T := TX6) (N := 10) hx hb hts hh_1 tyX6 tyX6_ok nmX6 hown hK hP hD hS 0 rfl rfl 9 (by decide) hh_8 (fun _ h9 => h9) rfl (by decide +kernel) rfl rfl (Nat.le_of_ble_eq_true rfl) dX6_start_38 (fun H locs hP hD hS => ?_)
  have hP : va_P D vwCl [(h0, .inr (5, [.ref oa, .ref ot, .int (iZ ((1 : Nat) : Int)), .int (iZ ((x1 : Nat) : Int)), .int (iZ ((x2 : Nat) : Int)), .int (iZ ((x3 : Nat) : Int)), .int (iZ ((x4 : Nat) : Int)), .int (iZ ((0 : Nat) : Int)), .int (iZ ((0 : Nat) : Int)), .int (iZ ((0 : Nat) : Int))]))] H := hP
  have hD : va_D A [(h0, .inr (5, [.ref oa, .ref ot, .int (iZ ((1 : Nat) : Int)), .int (iZ ((x1 : Nat) : Int)), .int (iZ ((x2 : Nat) : Int)), .int (iZ ((x3 : Nat) : Int)), .int (iZ ((x4 : Nat) : Int)), .int (iZ ((0 : Nat) : Int)), .int (iZ ((0 : Nat) : Int)), .int (iZ ((0 : Nat) : Int))]))] := hD
  exact hret (()) _ _ _ _ _ _ (Nat.le_of_ble_eq_true rfl) (Nat.le_of_ble_eq_true rfl) dX6_start_41 (trivial) hP hD hS
def rmX6_stop : Room := { frames := 0, cells := 0, slots := 0, locals := 0 }
set_option maxHeartbeats 4000000 in
set_option maxRecDepth 100000 in
theorem c_X6_stop (l : Launch) (D : va_G) (cI cJ : ClassId) (h0 oa ot : Nat) (on up dn a b tr hi rj : Nat) : Cv l D vwCl (tyT cI cJ) yX6_stop wsX6_stop rmX6_stop [.ref h0] [(h0, .inr (5, [.ref oa, .ref ot, .int (iZ ((on : Nat) : Int)), .int (iZ ((up : Nat) : Int)), .int (iZ ((dn : Nat) : Int)), .int (iZ ((a : Nat) : Int)), .int (iZ ((b : Nat) : Int)), .int (iZ ((tr : Nat) : Int)), .int (iZ ((hi : Nat) : Int)), .int (iZ ((rj : Nat) : Int))]))] (Unit) (fun _ => True) (fun _ => [(h0, .inr (5, [.ref oa, .ref ot, .int (iZ ((0 : Nat) : Int)), .int (iZ ((up : Nat) : Int)), .int (iZ ((dn : Nat) : Int)), .int (iZ ((a : Nat) : Int)), .int (iZ ((b : Nat) : Int)), .int (iZ ((tr : Nat) : Int)), .int (iZ ((hi : Nat) : Int)), .int (iZ ((rj : Nat) : Int))]))]) := by
  refine en_v (cc := cX6_stop) (maxL := 1) (by decide) rfl [(0, .ref h0)] (Nat.le_of_ble_eq_true rfl) rfl ?_
  intro p e s m args below meth c Q A hx hb hml hown hts hnm hK hP hD hA hS hret ls hl
  have hh_0 := hts (.fieldLink RX6 19 "BoundDraws$Trial" "on" "Z") (by decide +kernel)
  have hh_1 := (show ∀ w ∈ wsX60, w ∈ wsX6_stop by decide +kernel)
  refine lv_aload_n hx hb dX6_stop_0 rfl (lv_at hl 0 rfl) ?_
  refine zc_iconst (z := ((0 : Nat) : Int)) hx hb dX6_stop_1 (by decide) ?_
  refine va_put (D := D) (ci := 5) (v := .int (iZ ((0 : Nat) : Int))) (ty := .boolean) (C := RX6) (T := TX6) (N := 10) hx hb hts hh_1 tyX6 tyX6_ok nmX6 hown hK hP hD hS 0 rfl rfl 2 (by decide) hh_0 (fun _ h9 => h9) rfl (by decide +kernel) rfl rfl (Nat.le_of_ble_eq_true rfl) dX6_stop_2 (fun H locs hP hD hS => ?_)
  have hP : va_P D vwCl [(h0, .inr (5, [.ref oa, .ref ot, .int (iZ ((0 : Nat) : Int)), .int (iZ ((up : Nat) : Int)), .int (iZ ((dn : Nat) : Int)), .int (iZ ((a : Nat) : Int)), .int (iZ ((b : Nat) : Int)), .int (iZ ((tr : Nat) : Int)), .int (iZ ((hi : Nat) : Int)), .int (iZ ((rj : Nat) : Int))]))] H := hP
  have hD : va_D A [(h0, .inr (5, [.ref oa, .ref ot, .int (iZ ((0 : Nat) : Int)), .int (iZ ((up : Nat) : Int)), .int (iZ ((dn : Nat) : Int)), .int (iZ ((a : Nat) : Int)), .int (iZ ((b : Nat) : Int)), .int (iZ ((tr : Nat) : Int)), .int (iZ ((hi : Nat) : Int)), .int (iZ ((rj : Nat) : Int))]))] := hD
  exact hret (()) _ _ _ _ _ _ (Nat.le_of_ble_eq_true rfl) (Nat.le_of_ble_eq_true rfl) dX6_stop_5 (trivial) hP hD hS
def rmX6_isOn : Room := { frames := 0, cells := 0, slots := 0, locals := 0 }
set_option maxHeartbeats 4000000 in
set_option maxRecDepth 100000 in
theorem c_X6_isOn (l : Launch) (D : va_G) (cI cJ : ClassId) (h0 oa ot : Nat) (on up dn a b tr hi rj : Nat) (hon : on ≤ 1) : Ci l D vwCl (tyT cI cJ) yX6_isOn wsX6_isOn rmX6_isOn [.ref h0] [(h0, .inr (5, [.ref oa, .ref ot, .int (iZ ((on : Nat) : Int)), .int (iZ ((up : Nat) : Int)), .int (iZ ((dn : Nat) : Int)), .int (iZ ((a : Nat) : Int)), .int (iZ ((b : Nat) : Int)), .int (iZ ((tr : Nat) : Int)), .int (iZ ((hi : Nat) : Int)), .int (iZ ((rj : Nat) : Int))]))] (Unit) (fun r _ => bres r (on = 1)) (fun _ => [(h0, .inr (5, [.ref oa, .ref ot, .int (iZ ((on : Nat) : Int)), .int (iZ ((up : Nat) : Int)), .int (iZ ((dn : Nat) : Int)), .int (iZ ((a : Nat) : Int)), .int (iZ ((b : Nat) : Int)), .int (iZ ((tr : Nat) : Int)), .int (iZ ((hi : Nat) : Int)), .int (iZ ((rj : Nat) : Int))]))]) := by
  refine en_i (cc := cX6_isOn) (maxL := 1) (by decide) rfl [(0, .ref h0)] (Nat.le_of_ble_eq_true rfl) rfl ?_
  intro p e s m args below meth c Q A hx hb hml hown hts hnm hK hP hD hA hS hret ls hl
  have hh_0 := hts (.fieldLink RX6 19 "BoundDraws$Trial" "on" "Z") (by decide +kernel)
  have hh_1 := (show ∀ w ∈ wsX60, w ∈ wsX6_isOn by decide +kernel)
  refine lv_aload_n hx hb dX6_isOn_0 rfl (lv_at hl 0 rfl) ?_
  refine va_get (D := D) (ci := 5) (v := .int (iZ ((on : Nat) : Int))) (C := RX6) (T := TX6) (N := 10) hx hb hts hh_1 hown hK hP 0 rfl rfl 2 (by decide) hh_0 (fun _ h9 => h9) rfl dX6_isOn_1 ?_
  exact hret _ (()) _ _ _ _ _ _ (Nat.le_of_ble_eq_true rfl) (Nat.le_of_ble_eq_true rfl) (by rcases (show on = 0 ∨ on = 1 by omega) with e | e <;> rw [e] <;> rfl) dX6_isOn_4 (⟨on, rfl, by omega, by omega⟩) hP hD hS
def rmX6_isFull : Room := { frames := 0, cells := 0, slots := 0, locals := 0 }
set_option maxHeartbeats 4000000 in
set_option maxRecDepth 100000 in
theorem c_X6_isFull (l : Launch) (D : va_G) (cI cJ : ClassId) (h0 oa ot : Nat) (on up dn a b tr hi rj : Nat) (htr : tr ≤ 60) : Ci l D vwCl (tyT cI cJ) yX6_isFull wsX6_isFull rmX6_isFull [.ref h0] [(h0, .inr (5, [.ref oa, .ref ot, .int (iZ ((on : Nat) : Int)), .int (iZ ((up : Nat) : Int)), .int (iZ ((dn : Nat) : Int)), .int (iZ ((a : Nat) : Int)), .int (iZ ((b : Nat) : Int)), .int (iZ ((tr : Nat) : Int)), .int (iZ ((hi : Nat) : Int)), .int (iZ ((rj : Nat) : Int))]))] (Unit) (fun r _ => bres r (60 ≤ tr)) (fun _ => [(h0, .inr (5, [.ref oa, .ref ot, .int (iZ ((on : Nat) : Int)), .int (iZ ((up : Nat) : Int)), .int (iZ ((dn : Nat) : Int)), .int (iZ ((a : Nat) : Int)), .int (iZ ((b : Nat) : Int)), .int (iZ ((tr : Nat) : Int)), .int (iZ ((hi : Nat) : Int)), .int (iZ ((rj : Nat) : Int))]))]) := by
  refine en_i (cc := cX6_isFull) (maxL := 1) (by decide) rfl [(0, .ref h0)] (Nat.le_of_ble_eq_true rfl) rfl ?_
  intro p e s m args below meth c Q A hx hb hml hown hts hnm hK hP hD hA hS hret ls hl
  have hh_0 := hts (.fieldLink RX6 36 "BoundDraws$Trial" "tries" "I") (by decide +kernel)
  have hh_1 := (show ∀ w ∈ wsX60, w ∈ wsX6_isFull by decide +kernel)
  refine lv_aload_n hx hb dX6_isFull_0 rfl (lv_at hl 0 rfl) ?_
  refine va_get (D := D) (ci := 5) (v := .int (iZ ((tr : Nat) : Int))) (C := RX6) (T := TX6) (N := 10) hx hb hts hh_1 hown hK hP 0 rfl rfl 7 (by decide) hh_0 (fun _ h9 => h9) rfl dX6_isFull_1 ?_
  refine zc_bipush (z := ((60 : Nat) : Int)) hx hb dX6_isFull_4 (by decide) ?_
  refine zb_icmp_lt (x := ((tr : Nat) : Int)) (y := ((60 : Nat) : Int)) (tgt := 13) hx hb dX6_isFull_6 (by decide) ⟨by omega, by omega⟩ ⟨by decide, by decide⟩ (fun c_6 => ?_) (fun c_6 => ?_)
  · refine zc_iconst (z := ((0 : Nat) : Int)) hx hb dX6_isFull_13 (by decide) ?_
    exact hret _ (()) _ _ _ _ _ _ (Nat.le_of_ble_eq_true rfl) (Nat.le_of_ble_eq_true rfl) rfl dX6_isFull_14 (bres_f (by omega)) hP hD hS
  · refine zc_iconst (z := ((1 : Nat) : Int)) hx hb dX6_isFull_9 (by decide) ?_
    refine lv_goto (tgt := 14) hx hb dX6_isFull_10 (by decide) ?_
    exact hret _ (()) _ _ _ _ _ _ (Nat.le_of_ble_eq_true rfl) (Nat.le_of_ble_eq_true rfl) rfl dX6_isFull_14 (bres_t (by omega)) hP hD hS
def rmX6_tries : Room := { frames := 0, cells := 0, slots := 0, locals := 0 }
set_option maxHeartbeats 4000000 in
set_option maxRecDepth 100000 in
theorem c_X6_tries (l : Launch) (D : va_G) (cI cJ : ClassId) (h0 oa ot : Nat) (on up dn a b tr hi rj : Nat) : Ci l D vwCl (tyT cI cJ) yX6_tries wsX6_tries rmX6_tries [.ref h0] [(h0, .inr (5, [.ref oa, .ref ot, .int (iZ ((on : Nat) : Int)), .int (iZ ((up : Nat) : Int)), .int (iZ ((dn : Nat) : Int)), .int (iZ ((a : Nat) : Int)), .int (iZ ((b : Nat) : Int)), .int (iZ ((tr : Nat) : Int)), .int (iZ ((hi : Nat) : Int)), .int (iZ ((rj : Nat) : Int))]))] (Unit) (fun r _ => r = iZ ((tr : Nat) : Int)) (fun _ => [(h0, .inr (5, [.ref oa, .ref ot, .int (iZ ((on : Nat) : Int)), .int (iZ ((up : Nat) : Int)), .int (iZ ((dn : Nat) : Int)), .int (iZ ((a : Nat) : Int)), .int (iZ ((b : Nat) : Int)), .int (iZ ((tr : Nat) : Int)), .int (iZ ((hi : Nat) : Int)), .int (iZ ((rj : Nat) : Int))]))]) := by
  refine en_i (cc := cX6_tries) (maxL := 1) (by decide) rfl [(0, .ref h0)] (Nat.le_of_ble_eq_true rfl) rfl ?_
  intro p e s m args below meth c Q A hx hb hml hown hts hnm hK hP hD hA hS hret ls hl
  have hh_0 := hts (.fieldLink RX6 36 "BoundDraws$Trial" "tries" "I") (by decide +kernel)
  have hh_1 := (show ∀ w ∈ wsX60, w ∈ wsX6_tries by decide +kernel)
  refine lv_aload_n hx hb dX6_tries_0 rfl (lv_at hl 0 rfl) ?_
  refine va_get (D := D) (ci := 5) (v := .int (iZ ((tr : Nat) : Int))) (C := RX6) (T := TX6) (N := 10) hx hb hts hh_1 hown hK hP 0 rfl rfl 7 (by decide) hh_0 (fun _ h9 => h9) rfl dX6_tries_1 ?_
  exact hret _ (()) _ _ _ _ _ _ (Nat.le_of_ble_eq_true rfl) (Nat.le_of_ble_eq_true rfl) rfl dX6_tries_4 (rfl) hP hD hS
def rmX6_hits : Room := { frames := 0, cells := 0, slots := 0, locals := 0 }
set_option maxHeartbeats 4000000 in
set_option maxRecDepth 100000 in
theorem c_X6_hits (l : Launch) (D : va_G) (cI cJ : ClassId) (h0 oa ot : Nat) (on up dn a b tr hi rj : Nat) : Ci l D vwCl (tyT cI cJ) yX6_hits wsX6_hits rmX6_hits [.ref h0] [(h0, .inr (5, [.ref oa, .ref ot, .int (iZ ((on : Nat) : Int)), .int (iZ ((up : Nat) : Int)), .int (iZ ((dn : Nat) : Int)), .int (iZ ((a : Nat) : Int)), .int (iZ ((b : Nat) : Int)), .int (iZ ((tr : Nat) : Int)), .int (iZ ((hi : Nat) : Int)), .int (iZ ((rj : Nat) : Int))]))] (Unit) (fun r _ => r = iZ ((hi : Nat) : Int)) (fun _ => [(h0, .inr (5, [.ref oa, .ref ot, .int (iZ ((on : Nat) : Int)), .int (iZ ((up : Nat) : Int)), .int (iZ ((dn : Nat) : Int)), .int (iZ ((a : Nat) : Int)), .int (iZ ((b : Nat) : Int)), .int (iZ ((tr : Nat) : Int)), .int (iZ ((hi : Nat) : Int)), .int (iZ ((rj : Nat) : Int))]))]) := by
  refine en_i (cc := cX6_hits) (maxL := 1) (by decide) rfl [(0, .ref h0)] (Nat.le_of_ble_eq_true rfl) rfl ?_
  intro p e s m args below meth c Q A hx hb hml hown hts hnm hK hP hD hA hS hret ls hl
  have hh_0 := hts (.fieldLink RX6 39 "BoundDraws$Trial" "hits" "I") (by decide +kernel)
  have hh_1 := (show ∀ w ∈ wsX60, w ∈ wsX6_hits by decide +kernel)
  refine lv_aload_n hx hb dX6_hits_0 rfl (lv_at hl 0 rfl) ?_
  refine va_get (D := D) (ci := 5) (v := .int (iZ ((hi : Nat) : Int))) (C := RX6) (T := TX6) (N := 10) hx hb hts hh_1 hown hK hP 0 rfl rfl 8 (by decide) hh_0 (fun _ h9 => h9) rfl dX6_hits_1 ?_
  exact hret _ (()) _ _ _ _ _ _ (Nat.le_of_ble_eq_true rfl) (Nat.le_of_ble_eq_true rfl) rfl dX6_hits_4 (rfl) hP hD hS
def rmX6_rejectedBehind : Room := { frames := 0, cells := 0, slots := 0, locals := 0 }
set_option maxHeartbeats 4000000 in
set_option maxRecDepth 100000 in
theorem c_X6_rejectedBehind (l : Launch) (D : va_G) (cI cJ : ClassId) (h0 oa ot : Nat) (on up dn a b tr hi rj : Nat) : Ci l D vwCl (tyT cI cJ) yX6_rejectedBehind wsX6_rejectedBehind rmX6_rejectedBehind [.ref h0] [(h0, .inr (5, [.ref oa, .ref ot, .int (iZ ((on : Nat) : Int)), .int (iZ ((up : Nat) : Int)), .int (iZ ((dn : Nat) : Int)), .int (iZ ((a : Nat) : Int)), .int (iZ ((b : Nat) : Int)), .int (iZ ((tr : Nat) : Int)), .int (iZ ((hi : Nat) : Int)), .int (iZ ((rj : Nat) : Int))]))] (Unit) (fun r _ => r = iZ ((rj : Nat) : Int)) (fun _ => [(h0, .inr (5, [.ref oa, .ref ot, .int (iZ ((on : Nat) : Int)), .int (iZ ((up : Nat) : Int)), .int (iZ ((dn : Nat) : Int)), .int (iZ ((a : Nat) : Int)), .int (iZ ((b : Nat) : Int)), .int (iZ ((tr : Nat) : Int)), .int (iZ ((hi : Nat) : Int)), .int (iZ ((rj : Nat) : Int))]))]) := by
  refine en_i (cc := cX6_rejectedBehind) (maxL := 1) (by decide) rfl [(0, .ref h0)] (Nat.le_of_ble_eq_true rfl) rfl ?_
  intro p e s m args below meth c Q A hx hb hml hown hts hnm hK hP hD hA hS hret ls hl
  have hh_0 := hts (.fieldLink RX6 42 "BoundDraws$Trial" "rejectedBehind" "I") (by decide +kernel)
  have hh_1 := (show ∀ w ∈ wsX60, w ∈ wsX6_rejectedBehind by decide +kernel)
  refine lv_aload_n hx hb dX6_rejectedBehind_0 rfl (lv_at hl 0 rfl) ?_
  refine va_get (D := D) (ci := 5) (v := .int (iZ ((rj : Nat) : Int))) (C := RX6) (T := TX6) (N := 10) hx hb hts hh_1 hown hK hP 0 rfl rfl 9 (by decide) hh_0 (fun _ h9 => h9) rfl dX6_rejectedBehind_1 ?_
  exact hret _ (()) _ _ _ _ _ _ (Nat.le_of_ble_eq_true rfl) (Nat.le_of_ble_eq_true rfl) rfl dX6_rejectedBehind_4 (rfl) hP hD hS
def rmX6_isRich : Room := { frames := 2, cells := 0, slots := 0, locals := 51 }
set_option maxHeartbeats 4000000 in
set_option maxRecDepth 100000 in
theorem c_X6_isRich (l : Launch) (D : va_G) (cI cJ : ClassId) (h0 oa ot la lb : Nat) (on up dn a b tr hi rj u1 u2 : Nat) (g1 g2 : Nat → Nat) (hI : trI up dn a b tr hi rj) : Ci l D vwCl (tyT cI cJ) yX6_isRich wsX6_isRich rmX6_isRich [.ref h0] [(h0, .inr (5, [.ref oa, .ref ot, .int (iZ ((on : Nat) : Int)), .int (iZ ((up : Nat) : Int)), .int (iZ ((dn : Nat) : Int)), .int (iZ ((a : Nat) : Int)), .int (iZ ((b : Nat) : Int)), .int (iZ ((tr : Nat) : Int)), .int (iZ ((hi : Nat) : Int)), .int (iZ ((rj : Nat) : Int))])), (oa, .inr (8, [.ref la, .int (iZ ((u1 : Nat) : Int))])), (la, .inl (cJ, 14, .inr (.inl (LJ g1)))), (ot, .inr (8, [.ref lb, .int (iZ ((u2 : Nat) : Int))])), (lb, .inl (cJ, 14, .inr (.inl (LJ g2))))] (((Nat → Nat) × Nat) × ((Nat → Nat) × Nat)) (fun r _ => bres r (rich up dn a b tr hi)) (fun r => [(h0, .inr (5, [.ref oa, .ref ot, .int (iZ ((on : Nat) : Int)), .int (iZ ((up : Nat) : Int)), .int (iZ ((dn : Nat) : Int)), .int (iZ ((a : Nat) : Int)), .int (iZ ((b : Nat) : Int)), .int (iZ ((tr : Nat) : Int)), .int (iZ ((hi : Nat) : Int)), .int (iZ ((rj : Nat) : Int))])), (oa, .inr (8, [.ref la, .int (iZ ((r.1.2 : Nat) : Int))])), (la, .inl (cJ, 14, .inr (.inl (LJ r.1.1)))), (ot, .inr (8, [.ref lb, .int (iZ ((r.2.2 : Nat) : Int))])), (lb, .inl (cJ, 14, .inr (.inl (LJ r.2.1))))]) := by
  obtain ⟨i1, i2, i3, i4, i5, i6, i7⟩ := hI
  refine en_i (cc := cX6_isRich) (maxL := 1) (by decide) rfl [(0, .ref h0)] (Nat.le_of_ble_eq_true rfl) rfl ?_
  intro p e s m args below meth c Q A hx hb hml hown hts hnm hK hP hD hA hS hret ls hl
  have hh_0 := hts (.fieldLink RX6 10 "BoundDraws$Trial" "ofAll" "LBoundDraws$Wide;") (by decide +kernel)
  have hh_1 := (show ∀ w ∈ wsX60, w ∈ wsX6_isRich by decide +kernel)
  have hh_2 := hts (.fieldLink RX6 30 "BoundDraws$Trial" "a" "I") (by decide +kernel)
  have hh_3 := hts (.fieldLink RX6 27 "BoundDraws$Trial" "down" "I") (by decide +kernel)
  have hh_4 := hts (.fieldLink RX6 36 "BoundDraws$Trial" "tries" "I") (by decide +kernel)
  have hh_5 := hts (.fieldLink RX6 16 "BoundDraws$Trial" "ofThese" "LBoundDraws$Wide;") (by decide +kernel)
  have hh_6 := hts (.fieldLink RX6 39 "BoundDraws$Trial" "hits" "I") (by decide +kernel)
  have hh_7 := hts (.fieldLink RX6 33 "BoundDraws$Trial" "b" "I") (by decide +kernel)
  have hh_8 := hts (.fieldLink RX6 23 "BoundDraws$Trial" "up" "I") (by decide +kernel)
  refine lv_aload_n hx hb dX6_isRich_0 rfl (lv_at hl 0 rfl) ?_
  refine va_get (D := D) (ci := 5) (v := .ref oa) (C := RX6) (T := TX6) (N := 10) hx hb hts hh_1 hown hK hP 0 rfl rfl 0 (by decide) hh_0 (fun _ h9 => h9) rfl dX6_isRich_1 ?_
  refine lv_aload_n hx hb dX6_isRich_4 rfl (lv_at hl 0 rfl) ?_
  refine va_get (D := D) (ci := 5) (v := .int (iZ ((a : Nat) : Int))) (C := RX6) (T := TX6) (N := 10) hx hb hts hh_1 hown hK hP 0 rfl rfl 5 (by decide) hh_2 (fun _ h9 => h9) rfl dX6_isRich_5 ?_
  refine z_i2l (z := ((a : Nat) : Int)) hx hb dX6_isRich_8 ⟨by omega, by omega⟩ rfl ?_
  refine ca_vV [.long (lZ ((a : Nat) : Int))] [] [(h0, .inr (5, [.ref oa, .ref ot, .int (iZ ((on : Nat) : Int)), .int (iZ ((up : Nat) : Int)), .int (iZ ((dn : Nat) : Int)), .int (iZ ((a : Nat) : Int)), .int (iZ ((b : Nat) : Int)), .int (iZ ((tr : Nat) : Int)), .int (iZ ((hi : Nat) : Int)), .int (iZ ((rj : Nat) : Int))])), (ot, .inr (8, [.ref lb, .int (iZ ((u2 : Nat) : Int))])), (lb, .inl (cJ, 14, .inr (.inl (LJ g2))))] 0 0 ⟨hx, hb, hml, hown, hts⟩ (c_X9_become l D cI cJ oa la g1 u1 a (by omega)) (cwV 1 hts gX6_isRich_X9_become rfl rfl rfl (by decide +kernel) ⟨(Nat.le_of_ble_eq_true rfl), (Nat.le_of_ble_eq_true rfl)⟩) hK hP hD hS hA [1, 2] [0, 3, 4] rfl rfl rfl rfl (by decide) 0 rfl rfl rfl hl.1 rfl (Nat.le_of_ble_eq_true rfl) dX6_isRich_9 ⟨(Nat.le_of_ble_eq_true rfl), (Nat.le_of_ble_eq_true rfl)⟩ (Nat.le_of_ble_eq_true rfl) (Nat.le_of_ble_eq_true rfl) (fun gA H locs hw hP hD hS => ?_)
  try dsimp only at hw
  have hw1 := hw
  have hP : va_P D vwCl [(h0, .inr (5, [.ref oa, .ref ot, .int (iZ ((on : Nat) : Int)), .int (iZ ((up : Nat) : Int)), .int (iZ ((dn : Nat) : Int)), .int (iZ ((a : Nat) : Int)), .int (iZ ((b : Nat) : Int)), .int (iZ ((tr : Nat) : Int)), .int (iZ ((hi : Nat) : Int)), .int (iZ ((rj : Nat) : Int))])), (ot, .inr (8, [.ref lb, .int (iZ ((u2 : Nat) : Int))])), (lb, .inl (cJ, 14, .inr (.inl (LJ g2)))), (oa, .inr (8, [.ref la, .int (iZ ((2 : Nat) : Int))])), (la, .inl (cJ, 14, .inr (.inl (LJ gA))))] H := hP
  have hD : va_D A [(h0, .inr (5, [.ref oa, .ref ot, .int (iZ ((on : Nat) : Int)), .int (iZ ((up : Nat) : Int)), .int (iZ ((dn : Nat) : Int)), .int (iZ ((a : Nat) : Int)), .int (iZ ((b : Nat) : Int)), .int (iZ ((tr : Nat) : Int)), .int (iZ ((hi : Nat) : Int)), .int (iZ ((rj : Nat) : Int))])), (ot, .inr (8, [.ref lb, .int (iZ ((u2 : Nat) : Int))])), (lb, .inl (cJ, 14, .inr (.inl (LJ g2)))), (oa, .inr (8, [.ref la, .int (iZ ((2 : Nat) : Int))])), (la, .inl (cJ, 14, .inr (.inl (LJ gA))))] := hD
  refine lv_aload_n hx hb dX6_isRich_12 rfl (lv_at hl 0 rfl) ?_
  refine va_get (D := D) (ci := 5) (v := .ref oa) (C := RX6) (T := TX6) (N := 10) hx hb hts hh_1 hown hK hP 0 rfl rfl 0 (by decide) hh_0 (fun _ h9 => h9) rfl dX6_isRich_13 ?_
  refine lv_aload_n hx hb dX6_isRich_16 rfl (lv_at hl 0 rfl) ?_
  refine va_get (D := D) (ci := 5) (v := .int (iZ ((dn : Nat) : Int))) (C := RX6) (T := TX6) (N := 10) hx hb hts hh_1 hown hK hP 0 rfl rfl 4 (by decide) hh_3 (fun _ h9 => h9) rfl dX6_isRich_17 ?_
  refine z_i2l (z := ((dn : Nat) : Int)) hx hb dX6_isRich_20 ⟨by omega, by omega⟩ rfl ?_
  refine lv_aload_n hx hb dX6_isRich_21 rfl (lv_at hl 0 rfl) ?_
  refine va_get (D := D) (ci := 5) (v := .int (iZ ((tr : Nat) : Int))) (C := RX6) (T := TX6) (N := 10) hx hb hts hh_1 hown hK hP 0 rfl rfl 7 (by decide) hh_4 (fun _ h9 => h9) rfl dX6_isRich_22 ?_
  refine ca_vV [.long (lZ ((dn : Nat) : Int)), .int (iZ ((tr : Nat) : Int))] [] [(h0, .inr (5, [.ref oa, .ref ot, .int (iZ ((on : Nat) : Int)), .int (iZ ((up : Nat) : Int)), .int (iZ ((dn : Nat) : Int)), .int (iZ ((a : Nat) : Int)), .int (iZ ((b : Nat) : Int)), .int (iZ ((tr : Nat) : Int)), .int (iZ ((hi : Nat) : Int)), .int (iZ ((rj : Nat) : Int))])), (ot, .inr (8, [.ref lb, .int (iZ ((u2 : Nat) : Int))])), (lb, .inl (cJ, 14, .inr (.inl (LJ g2))))] 0 0 ⟨hx, hb, hml, hown, hts⟩ (c_X9_multiplyOften l D cI cJ oa la gA 2 a dn tr hw1 (by omega) (by omega) (tr_b2 i2 i3 i5)) (cwV 2 hts gX6_isRich_X9_multiplyOften rfl rfl rfl (by decide +kernel) ⟨(Nat.le_of_ble_eq_true rfl), (Nat.le_of_ble_eq_true rfl)⟩) hK hP hD hS hA [3, 4] [0, 1, 2] rfl rfl rfl rfl (by decide) 0 rfl rfl rfl hl.1 rfl (Nat.le_of_ble_eq_true rfl) dX6_isRich_25 ⟨(Nat.le_of_ble_eq_true rfl), (Nat.le_of_ble_eq_true rfl)⟩ (Nat.le_of_ble_eq_true rfl) (Nat.le_of_ble_eq_true rfl) (fun u9 H locs hw hP hD hS => ?_)
  obtain ⟨gB, uB⟩ := u9
  try dsimp only at hw
  have hw2 := hw
  have hP : va_P D vwCl [(h0, .inr (5, [.ref oa, .ref ot, .int (iZ ((on : Nat) : Int)), .int (iZ ((up : Nat) : Int)), .int (iZ ((dn : Nat) : Int)), .int (iZ ((a : Nat) : Int)), .int (iZ ((b : Nat) : Int)), .int (iZ ((tr : Nat) : Int)), .int (iZ ((hi : Nat) : Int)), .int (iZ ((rj : Nat) : Int))])), (ot, .inr (8, [.ref lb, .int (iZ ((u2 : Nat) : Int))])), (lb, .inl (cJ, 14, .inr (.inl (LJ g2)))), (oa, .inr (8, [.ref la, .int (iZ ((uB : Nat) : Int))])), (la, .inl (cJ, 14, .inr (.inl (LJ gB))))] H := hP
  have hD : va_D A [(h0, .inr (5, [.ref oa, .ref ot, .int (iZ ((on : Nat) : Int)), .int (iZ ((up : Nat) : Int)), .int (iZ ((dn : Nat) : Int)), .int (iZ ((a : Nat) : Int)), .int (iZ ((b : Nat) : Int)), .int (iZ ((tr : Nat) : Int)), .int (iZ ((hi : Nat) : Int)), .int (iZ ((rj : Nat) : Int))])), (ot, .inr (8, [.ref lb, .int (iZ ((u2 : Nat) : Int))])), (lb, .inl (cJ, 14, .inr (.inl (LJ g2)))), (oa, .inr (8, [.ref la, .int (iZ ((uB : Nat) : Int))])), (la, .inl (cJ, 14, .inr (.inl (LJ gB))))] := hD
  refine lv_aload_n hx hb dX6_isRich_28 rfl (lv_at hl 0 rfl) ?_
  refine va_get (D := D) (ci := 5) (v := .ref ot) (C := RX6) (T := TX6) (N := 10) hx hb hts hh_1 hown hK hP 0 rfl rfl 1 (by decide) hh_5 (fun _ h9 => h9) rfl dX6_isRich_29 ?_
  refine lv_aload_n hx hb dX6_isRich_32 rfl (lv_at hl 0 rfl) ?_
  refine va_get (D := D) (ci := 5) (v := .int (iZ ((tr : Nat) : Int))) (C := RX6) (T := TX6) (N := 10) hx hb hts hh_1 hown hK hP 0 rfl rfl 7 (by decide) hh_4 (fun _ h9 => h9) rfl dX6_isRich_33 ?_
  refine lv_aload_n hx hb dX6_isRich_36 rfl (lv_at hl 0 rfl) ?_
  refine va_get (D := D) (ci := 5) (v := .int (iZ ((hi : Nat) : Int))) (C := RX6) (T := TX6) (N := 10) hx hb hts hh_1 hown hK hP 0 rfl rfl 8 (by decide) hh_6 (fun _ h9 => h9) rfl dX6_isRich_37 ?_
  refine ca_lS [.int (iZ ((tr : Nat) : Int)), .int (iZ ((hi : Nat) : Int))] [.ref ot] [(h0, .inr (5, [.ref oa, .ref ot, .int (iZ ((on : Nat) : Int)), .int (iZ ((up : Nat) : Int)), .int (iZ ((dn : Nat) : Int)), .int (iZ ((a : Nat) : Int)), .int (iZ ((b : Nat) : Int)), .int (iZ ((tr : Nat) : Int)), .int (iZ ((hi : Nat) : Int)), .int (iZ ((rj : Nat) : Int))])), (ot, .inr (8, [.ref lb, .int (iZ ((u2 : Nat) : Int))])), (lb, .inl (cJ, 14, .inr (.inl (LJ g2)))), (oa, .inr (8, [.ref la, .int (iZ ((uB : Nat) : Int))])), (la, .inl (cJ, 14, .inr (.inl (LJ gB))))] 0 0 ⟨hx, hb, hml, hown, hts⟩ (c_X3_setsOutOf l D cI cJ tr hi i5 i6) (va_cwS 2 hts gX6_isRich_X3_setsOutOf rfl rfl rfl (by decide +kernel) ⟨(Nat.le_of_ble_eq_true rfl), (Nat.le_of_ble_eq_true rfl)⟩) hK hP hD hS hA [] [0, 1, 2, 3, 4] rfl rfl rfl rfl (by decide) rfl hl.1 rfl (Nat.le_of_ble_eq_true rfl) dX6_isRich_40 ⟨(Nat.le_of_ble_eq_true rfl), (Nat.le_of_ble_eq_true rfl)⟩ (Nat.le_of_ble_eq_true rfl) (Nat.le_of_ble_eq_true rfl) (fun r_40 u9 H locs hw hP hD hS => ?_)
  obtain u9 := u9
  try dsimp only at hw
  have hP : va_P D vwCl [(h0, .inr (5, [.ref oa, .ref ot, .int (iZ ((on : Nat) : Int)), .int (iZ ((up : Nat) : Int)), .int (iZ ((dn : Nat) : Int)), .int (iZ ((a : Nat) : Int)), .int (iZ ((b : Nat) : Int)), .int (iZ ((tr : Nat) : Int)), .int (iZ ((hi : Nat) : Int)), .int (iZ ((rj : Nat) : Int))])), (ot, .inr (8, [.ref lb, .int (iZ ((u2 : Nat) : Int))])), (lb, .inl (cJ, 14, .inr (.inl (LJ g2)))), (oa, .inr (8, [.ref la, .int (iZ ((uB : Nat) : Int))])), (la, .inl (cJ, 14, .inr (.inl (LJ gB))))] H := hP
  have hD : va_D A [(h0, .inr (5, [.ref oa, .ref ot, .int (iZ ((on : Nat) : Int)), .int (iZ ((up : Nat) : Int)), .int (iZ ((dn : Nat) : Int)), .int (iZ ((a : Nat) : Int)), .int (iZ ((b : Nat) : Int)), .int (iZ ((tr : Nat) : Int)), .int (iZ ((hi : Nat) : Int)), .int (iZ ((rj : Nat) : Int))])), (ot, .inr (8, [.ref lb, .int (iZ ((u2 : Nat) : Int))])), (lb, .inl (cJ, 14, .inr (.inl (LJ g2)))), (oa, .inr (8, [.ref la, .int (iZ ((uB : Nat) : Int))])), (la, .inl (cJ, 14, .inr (.inl (LJ gB))))] := hD
  refine tp_l (y := (lZ ((ch tr hi : Nat) : Int))) (hw) ?_
  refine ca_vV [.long (lZ ((ch tr hi : Nat) : Int))] [] [(h0, .inr (5, [.ref oa, .ref ot, .int (iZ ((on : Nat) : Int)), .int (iZ ((up : Nat) : Int)), .int (iZ ((dn : Nat) : Int)), .int (iZ ((a : Nat) : Int)), .int (iZ ((b : Nat) : Int)), .int (iZ ((tr : Nat) : Int)), .int (iZ ((hi : Nat) : Int)), .int (iZ ((rj : Nat) : Int))])), (oa, .inr (8, [.ref la, .int (iZ ((uB : Nat) : Int))])), (la, .inl (cJ, 14, .inr (.inl (LJ gB))))] 0 0 ⟨hx, hb, hml, hown, hts⟩ (c_X9_become l D cI cJ ot lb g2 u2 (ch tr hi) (by have := ch_b2 (n := tr) (k := hi) i5; omega)) (cwV 1 hts gX6_isRich_X9_become rfl rfl rfl (by decide +kernel) ⟨(Nat.le_of_ble_eq_true rfl), (Nat.le_of_ble_eq_true rfl)⟩) hK hP hD hS hA [1, 2] [0, 3, 4] rfl rfl rfl rfl (by decide) 0 rfl rfl rfl hl.1 rfl (Nat.le_of_ble_eq_true rfl) dX6_isRich_43 ⟨(Nat.le_of_ble_eq_true rfl), (Nat.le_of_ble_eq_true rfl)⟩ (Nat.le_of_ble_eq_true rfl) (Nat.le_of_ble_eq_true rfl) (fun gC H locs hw hP hD hS => ?_)
  try dsimp only at hw
  have hw3 := hw
  have hP : va_P D vwCl [(h0, .inr (5, [.ref oa, .ref ot, .int (iZ ((on : Nat) : Int)), .int (iZ ((up : Nat) : Int)), .int (iZ ((dn : Nat) : Int)), .int (iZ ((a : Nat) : Int)), .int (iZ ((b : Nat) : Int)), .int (iZ ((tr : Nat) : Int)), .int (iZ ((hi : Nat) : Int)), .int (iZ ((rj : Nat) : Int))])), (oa, .inr (8, [.ref la, .int (iZ ((uB : Nat) : Int))])), (la, .inl (cJ, 14, .inr (.inl (LJ gB)))), (ot, .inr (8, [.ref lb, .int (iZ ((2 : Nat) : Int))])), (lb, .inl (cJ, 14, .inr (.inl (LJ gC))))] H := hP
  have hD : va_D A [(h0, .inr (5, [.ref oa, .ref ot, .int (iZ ((on : Nat) : Int)), .int (iZ ((up : Nat) : Int)), .int (iZ ((dn : Nat) : Int)), .int (iZ ((a : Nat) : Int)), .int (iZ ((b : Nat) : Int)), .int (iZ ((tr : Nat) : Int)), .int (iZ ((hi : Nat) : Int)), .int (iZ ((rj : Nat) : Int))])), (oa, .inr (8, [.ref la, .int (iZ ((uB : Nat) : Int))])), (la, .inl (cJ, 14, .inr (.inl (LJ gB)))), (ot, .inr (8, [.ref lb, .int (iZ ((2 : Nat) : Int))])), (lb, .inl (cJ, 14, .inr (.inl (LJ gC))))] := hD
  refine lv_aload_n hx hb dX6_isRich_46 rfl (lv_at hl 0 rfl) ?_
  refine va_get (D := D) (ci := 5) (v := .ref ot) (C := RX6) (T := TX6) (N := 10) hx hb hts hh_1 hown hK hP 0 rfl rfl 1 (by decide) hh_5 (fun _ h9 => h9) rfl dX6_isRich_47 ?_
  refine lv_aload_n hx hb dX6_isRich_50 rfl (lv_at hl 0 rfl) ?_
  refine va_get (D := D) (ci := 5) (v := .int (iZ ((tr : Nat) : Int))) (C := RX6) (T := TX6) (N := 10) hx hb hts hh_1 hown hK hP 0 rfl rfl 7 (by decide) hh_4 (fun _ h9 => h9) rfl dX6_isRich_51 ?_
  refine zc_iconst (z := ((1 : Nat) : Int)) hx hb dX6_isRich_54 (by decide) ?_
  refine zi_add (z := ((tr + 1 : Nat) : Int)) hx hb dX6_isRich_55 (by omega) ?_
  refine z_i2l (z := ((tr + 1 : Nat) : Int)) hx hb dX6_isRich_56 ⟨by omega, by omega⟩ rfl ?_
  refine ca_vV [.long (lZ ((tr + 1 : Nat) : Int))] [] [(h0, .inr (5, [.ref oa, .ref ot, .int (iZ ((on : Nat) : Int)), .int (iZ ((up : Nat) : Int)), .int (iZ ((dn : Nat) : Int)), .int (iZ ((a : Nat) : Int)), .int (iZ ((b : Nat) : Int)), .int (iZ ((tr : Nat) : Int)), .int (iZ ((hi : Nat) : Int)), .int (iZ ((rj : Nat) : Int))])), (oa, .inr (8, [.ref la, .int (iZ ((uB : Nat) : Int))])), (la, .inl (cJ, 14, .inr (.inl (LJ gB))))] 0 0 ⟨hx, hb, hml, hown, hts⟩ (c_X9_multiply l D cI cJ ot lb gC 2 (ch tr hi) (tr + 1) hw3 (by omega) (tr_b3 (hi := hi) i4 i5).1) (cwV 1 hts gX6_isRich_X9_multiply rfl rfl rfl (by decide +kernel) ⟨(Nat.le_of_ble_eq_true rfl), (Nat.le_of_ble_eq_true rfl)⟩) hK hP hD hS hA [3, 4] [0, 1, 2] rfl rfl rfl rfl (by decide) 0 rfl rfl rfl hl.1 rfl (Nat.le_of_ble_eq_true rfl) dX6_isRich_57 ⟨(Nat.le_of_ble_eq_true rfl), (Nat.le_of_ble_eq_true rfl)⟩ (Nat.le_of_ble_eq_true rfl) (Nat.le_of_ble_eq_true rfl) (fun u9 H locs hw hP hD hS => ?_)
  obtain ⟨gD, uD⟩ := u9
  try dsimp only at hw
  have hw4 := hw
  have hP : va_P D vwCl [(h0, .inr (5, [.ref oa, .ref ot, .int (iZ ((on : Nat) : Int)), .int (iZ ((up : Nat) : Int)), .int (iZ ((dn : Nat) : Int)), .int (iZ ((a : Nat) : Int)), .int (iZ ((b : Nat) : Int)), .int (iZ ((tr : Nat) : Int)), .int (iZ ((hi : Nat) : Int)), .int (iZ ((rj : Nat) : Int))])), (oa, .inr (8, [.ref la, .int (iZ ((uB : Nat) : Int))])), (la, .inl (cJ, 14, .inr (.inl (LJ gB)))), (ot, .inr (8, [.ref lb, .int (iZ ((uD : Nat) : Int))])), (lb, .inl (cJ, 14, .inr (.inl (LJ gD))))] H := hP
  have hD : va_D A [(h0, .inr (5, [.ref oa, .ref ot, .int (iZ ((on : Nat) : Int)), .int (iZ ((up : Nat) : Int)), .int (iZ ((dn : Nat) : Int)), .int (iZ ((a : Nat) : Int)), .int (iZ ((b : Nat) : Int)), .int (iZ ((tr : Nat) : Int)), .int (iZ ((hi : Nat) : Int)), .int (iZ ((rj : Nat) : Int))])), (oa, .inr (8, [.ref la, .int (iZ ((uB : Nat) : Int))])), (la, .inl (cJ, 14, .inr (.inl (LJ gB)))), (ot, .inr (8, [.ref lb, .int (iZ ((uD : Nat) : Int))])), (lb, .inl (cJ, 14, .inr (.inl (LJ gD))))] := hD
  refine lv_aload_n hx hb dX6_isRich_60 rfl (lv_at hl 0 rfl) ?_
  refine va_get (D := D) (ci := 5) (v := .ref ot) (C := RX6) (T := TX6) (N := 10) hx hb hts hh_1 hown hK hP 0 rfl rfl 1 (by decide) hh_5 (fun _ h9 => h9) rfl dX6_isRich_61 ?_
  refine lv_aload_n hx hb dX6_isRich_64 rfl (lv_at hl 0 rfl) ?_
  refine va_get (D := D) (ci := 5) (v := .int (iZ ((b : Nat) : Int))) (C := RX6) (T := TX6) (N := 10) hx hb hts hh_1 hown hK hP 0 rfl rfl 6 (by decide) hh_7 (fun _ h9 => h9) rfl dX6_isRich_65 ?_
  refine z_i2l (z := ((b : Nat) : Int)) hx hb dX6_isRich_68 ⟨by omega, by omega⟩ rfl ?_
  refine ca_vV [.long (lZ ((b : Nat) : Int))] [] [(h0, .inr (5, [.ref oa, .ref ot, .int (iZ ((on : Nat) : Int)), .int (iZ ((up : Nat) : Int)), .int (iZ ((dn : Nat) : Int)), .int (iZ ((a : Nat) : Int)), .int (iZ ((b : Nat) : Int)), .int (iZ ((tr : Nat) : Int)), .int (iZ ((hi : Nat) : Int)), .int (iZ ((rj : Nat) : Int))])), (oa, .inr (8, [.ref la, .int (iZ ((uB : Nat) : Int))])), (la, .inl (cJ, 14, .inr (.inl (LJ gB))))] 0 0 ⟨hx, hb, hml, hown, hts⟩ (c_X9_multiply l D cI cJ ot lb gD uD (ch tr hi * (tr + 1)) b hw4 (by omega) (tr_b3 (hi := hi) i4 i5).2) (cwV 1 hts gX6_isRich_X9_multiply rfl rfl rfl (by decide +kernel) ⟨(Nat.le_of_ble_eq_true rfl), (Nat.le_of_ble_eq_true rfl)⟩) hK hP hD hS hA [3, 4] [0, 1, 2] rfl rfl rfl rfl (by decide) 0 rfl rfl rfl hl.1 rfl (Nat.le_of_ble_eq_true rfl) dX6_isRich_69 ⟨(Nat.le_of_ble_eq_true rfl), (Nat.le_of_ble_eq_true rfl)⟩ (Nat.le_of_ble_eq_true rfl) (Nat.le_of_ble_eq_true rfl) (fun u9 H locs hw hP hD hS => ?_)
  obtain ⟨gE, uE⟩ := u9
  try dsimp only at hw
  have hw5 := hw
  have hP : va_P D vwCl [(h0, .inr (5, [.ref oa, .ref ot, .int (iZ ((on : Nat) : Int)), .int (iZ ((up : Nat) : Int)), .int (iZ ((dn : Nat) : Int)), .int (iZ ((a : Nat) : Int)), .int (iZ ((b : Nat) : Int)), .int (iZ ((tr : Nat) : Int)), .int (iZ ((hi : Nat) : Int)), .int (iZ ((rj : Nat) : Int))])), (oa, .inr (8, [.ref la, .int (iZ ((uB : Nat) : Int))])), (la, .inl (cJ, 14, .inr (.inl (LJ gB)))), (ot, .inr (8, [.ref lb, .int (iZ ((uE : Nat) : Int))])), (lb, .inl (cJ, 14, .inr (.inl (LJ gE))))] H := hP
  have hD : va_D A [(h0, .inr (5, [.ref oa, .ref ot, .int (iZ ((on : Nat) : Int)), .int (iZ ((up : Nat) : Int)), .int (iZ ((dn : Nat) : Int)), .int (iZ ((a : Nat) : Int)), .int (iZ ((b : Nat) : Int)), .int (iZ ((tr : Nat) : Int)), .int (iZ ((hi : Nat) : Int)), .int (iZ ((rj : Nat) : Int))])), (oa, .inr (8, [.ref la, .int (iZ ((uB : Nat) : Int))])), (la, .inl (cJ, 14, .inr (.inl (LJ gB)))), (ot, .inr (8, [.ref lb, .int (iZ ((uE : Nat) : Int))])), (lb, .inl (cJ, 14, .inr (.inl (LJ gE))))] := hD
  refine lv_aload_n hx hb dX6_isRich_72 rfl (lv_at hl 0 rfl) ?_
  refine va_get (D := D) (ci := 5) (v := .ref ot) (C := RX6) (T := TX6) (N := 10) hx hb hts hh_1 hown hK hP 0 rfl rfl 1 (by decide) hh_5 (fun _ h9 => h9) rfl dX6_isRich_73 ?_
  refine lv_aload_n hx hb dX6_isRich_76 rfl (lv_at hl 0 rfl) ?_
  refine va_get (D := D) (ci := 5) (v := .int (iZ ((up : Nat) : Int))) (C := RX6) (T := TX6) (N := 10) hx hb hts hh_1 hown hK hP 0 rfl rfl 3 (by decide) hh_8 (fun _ h9 => h9) rfl dX6_isRich_77 ?_
  refine z_i2l (z := ((up : Nat) : Int)) hx hb dX6_isRich_80 ⟨by omega, by omega⟩ rfl ?_
  refine lv_aload_n hx hb dX6_isRich_81 rfl (lv_at hl 0 rfl) ?_
  refine va_get (D := D) (ci := 5) (v := .int (iZ ((hi : Nat) : Int))) (C := RX6) (T := TX6) (N := 10) hx hb hts hh_1 hown hK hP 0 rfl rfl 8 (by decide) hh_6 (fun _ h9 => h9) rfl dX6_isRich_82 ?_
  refine ca_vV [.long (lZ ((up : Nat) : Int)), .int (iZ ((hi : Nat) : Int))] [] [(h0, .inr (5, [.ref oa, .ref ot, .int (iZ ((on : Nat) : Int)), .int (iZ ((up : Nat) : Int)), .int (iZ ((dn : Nat) : Int)), .int (iZ ((a : Nat) : Int)), .int (iZ ((b : Nat) : Int)), .int (iZ ((tr : Nat) : Int)), .int (iZ ((hi : Nat) : Int)), .int (iZ ((rj : Nat) : Int))])), (oa, .inr (8, [.ref la, .int (iZ ((uB : Nat) : Int))])), (la, .inl (cJ, 14, .inr (.inl (LJ gB))))] 0 0 ⟨hx, hb, hml, hown, hts⟩ (c_X9_multiplyOften l D cI cJ ot lb gE uE (ch tr hi * (tr + 1) * b) up hi hw5 (by omega) (by omega) (tr_b1 i1 i2 i4 i5 i6)) (cwV 2 hts gX6_isRich_X9_multiplyOften rfl rfl rfl (by decide +kernel) ⟨(Nat.le_of_ble_eq_true rfl), (Nat.le_of_ble_eq_true rfl)⟩) hK hP hD hS hA [3, 4] [0, 1, 2] rfl rfl rfl rfl (by decide) 0 rfl rfl rfl hl.1 rfl (Nat.le_of_ble_eq_true rfl) dX6_isRich_85 ⟨(Nat.le_of_ble_eq_true rfl), (Nat.le_of_ble_eq_true rfl)⟩ (Nat.le_of_ble_eq_true rfl) (Nat.le_of_ble_eq_true rfl) (fun u9 H locs hw hP hD hS => ?_)
  obtain ⟨gF, uF⟩ := u9
  try dsimp only at hw
  have hw6 := hw
  have hP : va_P D vwCl [(h0, .inr (5, [.ref oa, .ref ot, .int (iZ ((on : Nat) : Int)), .int (iZ ((up : Nat) : Int)), .int (iZ ((dn : Nat) : Int)), .int (iZ ((a : Nat) : Int)), .int (iZ ((b : Nat) : Int)), .int (iZ ((tr : Nat) : Int)), .int (iZ ((hi : Nat) : Int)), .int (iZ ((rj : Nat) : Int))])), (oa, .inr (8, [.ref la, .int (iZ ((uB : Nat) : Int))])), (la, .inl (cJ, 14, .inr (.inl (LJ gB)))), (ot, .inr (8, [.ref lb, .int (iZ ((uF : Nat) : Int))])), (lb, .inl (cJ, 14, .inr (.inl (LJ gF))))] H := hP
  have hD : va_D A [(h0, .inr (5, [.ref oa, .ref ot, .int (iZ ((on : Nat) : Int)), .int (iZ ((up : Nat) : Int)), .int (iZ ((dn : Nat) : Int)), .int (iZ ((a : Nat) : Int)), .int (iZ ((b : Nat) : Int)), .int (iZ ((tr : Nat) : Int)), .int (iZ ((hi : Nat) : Int)), .int (iZ ((rj : Nat) : Int))])), (oa, .inr (8, [.ref la, .int (iZ ((uB : Nat) : Int))])), (la, .inl (cJ, 14, .inr (.inl (LJ gB)))), (ot, .inr (8, [.ref lb, .int (iZ ((uF : Nat) : Int))])), (lb, .inl (cJ, 14, .inr (.inl (LJ gF))))] := hD
  refine lv_aload_n hx hb dX6_isRich_88 rfl (lv_at hl 0 rfl) ?_
  refine va_get (D := D) (ci := 5) (v := .ref ot) (C := RX6) (T := TX6) (N := 10) hx hb hts hh_1 hown hK hP 0 rfl rfl 1 (by decide) hh_5 (fun _ h9 => h9) rfl dX6_isRich_89 ?_
  refine lv_aload_n hx hb dX6_isRich_92 rfl (lv_at hl 0 rfl) ?_
  refine va_get (D := D) (ci := 5) (v := .int (iZ ((dn : Nat) : Int))) (C := RX6) (T := TX6) (N := 10) hx hb hts hh_1 hown hK hP 0 rfl rfl 4 (by decide) hh_3 (fun _ h9 => h9) rfl dX6_isRich_93 ?_
  refine lv_aload_n hx hb dX6_isRich_96 rfl (lv_at hl 0 rfl) ?_
  refine va_get (D := D) (ci := 5) (v := .int (iZ ((up : Nat) : Int))) (C := RX6) (T := TX6) (N := 10) hx hb hts hh_1 hown hK hP 0 rfl rfl 3 (by decide) hh_8 (fun _ h9 => h9) rfl dX6_isRich_97 ?_
  refine zi_sub (z := ((dn - up : Nat) : Int)) hx hb dX6_isRich_100 (by omega) ?_
  refine z_i2l (z := ((dn - up : Nat) : Int)) hx hb dX6_isRich_101 ⟨by omega, by omega⟩ rfl ?_
  refine lv_aload_n hx hb dX6_isRich_102 rfl (lv_at hl 0 rfl) ?_
  refine va_get (D := D) (ci := 5) (v := .int (iZ ((tr : Nat) : Int))) (C := RX6) (T := TX6) (N := 10) hx hb hts hh_1 hown hK hP 0 rfl rfl 7 (by decide) hh_4 (fun _ h9 => h9) rfl dX6_isRich_103 ?_
  refine lv_aload_n hx hb dX6_isRich_106 rfl (lv_at hl 0 rfl) ?_
  refine va_get (D := D) (ci := 5) (v := .int (iZ ((hi : Nat) : Int))) (C := RX6) (T := TX6) (N := 10) hx hb hts hh_1 hown hK hP 0 rfl rfl 8 (by decide) hh_6 (fun _ h9 => h9) rfl dX6_isRich_107 ?_
  refine zi_sub (z := ((tr - hi : Nat) : Int)) hx hb dX6_isRich_110 (by omega) ?_
  refine ca_vV [.long (lZ ((dn - up : Nat) : Int)), .int (iZ ((tr - hi : Nat) : Int))] [] [(h0, .inr (5, [.ref oa, .ref ot, .int (iZ ((on : Nat) : Int)), .int (iZ ((up : Nat) : Int)), .int (iZ ((dn : Nat) : Int)), .int (iZ ((a : Nat) : Int)), .int (iZ ((b : Nat) : Int)), .int (iZ ((tr : Nat) : Int)), .int (iZ ((hi : Nat) : Int)), .int (iZ ((rj : Nat) : Int))])), (oa, .inr (8, [.ref la, .int (iZ ((uB : Nat) : Int))])), (la, .inl (cJ, 14, .inr (.inl (LJ gB))))] 0 0 ⟨hx, hb, hml, hown, hts⟩ (c_X9_multiplyOften l D cI cJ ot lb gF uF (ch tr hi * (tr + 1) * b * up ^ hi) (dn - up) (tr - hi) hw6 (by omega) (by omega) (tr_b i1 i2 i4 i5 i6)) (cwV 2 hts gX6_isRich_X9_multiplyOften rfl rfl rfl (by decide +kernel) ⟨(Nat.le_of_ble_eq_true rfl), (Nat.le_of_ble_eq_true rfl)⟩) hK hP hD hS hA [3, 4] [0, 1, 2] rfl rfl rfl rfl (by decide) 0 rfl rfl rfl hl.1 rfl (Nat.le_of_ble_eq_true rfl) dX6_isRich_111 ⟨(Nat.le_of_ble_eq_true rfl), (Nat.le_of_ble_eq_true rfl)⟩ (Nat.le_of_ble_eq_true rfl) (Nat.le_of_ble_eq_true rfl) (fun u9 H locs hw hP hD hS => ?_)
  obtain ⟨gG, uG⟩ := u9
  try dsimp only at hw
  have hw7 := hw
  have hP : va_P D vwCl [(h0, .inr (5, [.ref oa, .ref ot, .int (iZ ((on : Nat) : Int)), .int (iZ ((up : Nat) : Int)), .int (iZ ((dn : Nat) : Int)), .int (iZ ((a : Nat) : Int)), .int (iZ ((b : Nat) : Int)), .int (iZ ((tr : Nat) : Int)), .int (iZ ((hi : Nat) : Int)), .int (iZ ((rj : Nat) : Int))])), (oa, .inr (8, [.ref la, .int (iZ ((uB : Nat) : Int))])), (la, .inl (cJ, 14, .inr (.inl (LJ gB)))), (ot, .inr (8, [.ref lb, .int (iZ ((uG : Nat) : Int))])), (lb, .inl (cJ, 14, .inr (.inl (LJ gG))))] H := hP
  have hD : va_D A [(h0, .inr (5, [.ref oa, .ref ot, .int (iZ ((on : Nat) : Int)), .int (iZ ((up : Nat) : Int)), .int (iZ ((dn : Nat) : Int)), .int (iZ ((a : Nat) : Int)), .int (iZ ((b : Nat) : Int)), .int (iZ ((tr : Nat) : Int)), .int (iZ ((hi : Nat) : Int)), .int (iZ ((rj : Nat) : Int))])), (oa, .inr (8, [.ref la, .int (iZ ((uB : Nat) : Int))])), (la, .inl (cJ, 14, .inr (.inl (LJ gB)))), (ot, .inr (8, [.ref lb, .int (iZ ((uG : Nat) : Int))])), (lb, .inl (cJ, 14, .inr (.inl (LJ gG))))] := hD
  refine lv_aload_n hx hb dX6_isRich_114 rfl (lv_at hl 0 rfl) ?_
  refine va_get (D := D) (ci := 5) (v := .ref oa) (C := RX6) (T := TX6) (N := 10) hx hb hts hh_1 hown hK hP 0 rfl rfl 0 (by decide) hh_0 (fun _ h9 => h9) rfl dX6_isRich_115 ?_
  refine lv_aload_n hx hb dX6_isRich_118 rfl (lv_at hl 0 rfl) ?_
  refine va_get (D := D) (ci := 5) (v := .ref ot) (C := RX6) (T := TX6) (N := 10) hx hb hts hh_1 hown hK hP 0 rfl rfl 1 (by decide) hh_5 (fun _ h9 => h9) rfl dX6_isRich_119 ?_
  refine ca_iV [.ref ot] [] [(h0, .inr (5, [.ref oa, .ref ot, .int (iZ ((on : Nat) : Int)), .int (iZ ((up : Nat) : Int)), .int (iZ ((dn : Nat) : Int)), .int (iZ ((a : Nat) : Int)), .int (iZ ((b : Nat) : Int)), .int (iZ ((tr : Nat) : Int)), .int (iZ ((hi : Nat) : Int)), .int (iZ ((rj : Nat) : Int))]))] 0 0 ⟨hx, hb, hml, hown, hts⟩ (c_X9_against l D cI cJ oa la ot lb gB gG uB (a * dn ^ tr) uG (trT up dn b tr hi) hw2 hw7) (cwV 1 hts gX6_isRich_X9_against rfl rfl rfl (by decide +kernel) ⟨(Nat.le_of_ble_eq_true rfl), (Nat.le_of_ble_eq_true rfl)⟩) hK hP hD hS hA [1, 2, 3, 4] [0] rfl rfl rfl rfl (by decide) 0 rfl rfl rfl hl.1 rfl (Nat.le_of_ble_eq_true rfl) dX6_isRich_122 ⟨(Nat.le_of_ble_eq_true rfl), (Nat.le_of_ble_eq_true rfl)⟩ (Nat.le_of_ble_eq_true rfl) (Nat.le_of_ble_eq_true rfl) (fun r_122 u9 H locs hw hP hD hS => ?_)
  obtain u9 := u9
  try dsimp only at hw
  have hP : va_P D vwCl [(h0, .inr (5, [.ref oa, .ref ot, .int (iZ ((on : Nat) : Int)), .int (iZ ((up : Nat) : Int)), .int (iZ ((dn : Nat) : Int)), .int (iZ ((a : Nat) : Int)), .int (iZ ((b : Nat) : Int)), .int (iZ ((tr : Nat) : Int)), .int (iZ ((hi : Nat) : Int)), .int (iZ ((rj : Nat) : Int))])), (oa, .inr (8, [.ref la, .int (iZ ((uB : Nat) : Int))])), (la, .inl (cJ, 14, .inr (.inl (LJ gB)))), (ot, .inr (8, [.ref lb, .int (iZ ((uG : Nat) : Int))])), (lb, .inl (cJ, 14, .inr (.inl (LJ gG))))] H := hP
  have hD : va_D A [(h0, .inr (5, [.ref oa, .ref ot, .int (iZ ((on : Nat) : Int)), .int (iZ ((up : Nat) : Int)), .int (iZ ((dn : Nat) : Int)), .int (iZ ((a : Nat) : Int)), .int (iZ ((b : Nat) : Int)), .int (iZ ((tr : Nat) : Int)), .int (iZ ((hi : Nat) : Int)), .int (iZ ((rj : Nat) : Int))])), (oa, .inr (8, [.ref la, .int (iZ ((uB : Nat) : Int))])), (la, .inl (cJ, 14, .inr (.inl (LJ gB)))), (ot, .inr (8, [.ref lb, .int (iZ ((uG : Nat) : Int))])), (lb, .inl (cJ, 14, .inr (.inl (LJ gG))))] := hD
  have hcr := cmpZ_r (a * dn ^ tr) (trT up dn b tr hi)
  refine tp_i (y := (iZ (cmpZ (a * dn ^ tr) (trT up dn b tr hi)))) (hw) ?_
  refine zb_if_lt (x := (cmpZ (a * dn ^ tr) (trT up dn b tr hi))) (tgt := 132) hx hb dX6_isRich_125 (by decide) ⟨by omega, by omega⟩ (fun c_125 => ?_) (fun c_125 => ?_)
  · refine zc_iconst (z := ((0 : Nat) : Int)) hx hb dX6_isRich_132 (by decide) ?_
    exact hret _ ((gB, uB), (gG, uG)) _ _ _ _ _ _ (Nat.le_of_ble_eq_true rfl) (Nat.le_of_ble_eq_true rfl) rfl dX6_isRich_133 (bres_f (fun h9 => by have := cmpZ_ge.mpr h9; omega)) hP hD hS
  · refine zc_iconst (z := ((1 : Nat) : Int)) hx hb dX6_isRich_128 (by decide) ?_
    refine lv_goto (tgt := 133) hx hb dX6_isRich_129 (by decide) ?_
    exact hret _ ((gB, uB), (gG, uG)) _ _ _ _ _ _ (Nat.le_of_ble_eq_true rfl) (Nat.le_of_ble_eq_true rfl) rfl dX6_isRich_133 (bres_t (cmpZ_ge.mp (by omega))) hP hD hS
def rmX6_take : Room := { frames := 3, cells := 0, slots := 0, locals := 71 }
set_option maxHeartbeats 4000000 in
set_option maxRecDepth 100000 in
theorem c_X6_take (l : Launch) (D : va_G) (cI cJ : ClassId) (h0 oa ot la lb : Nat) (on up dn a b tr hi rj u1 u2 : Nat) (g1 g2 : Nat → Nat) (x : Nat) (hx0 : x ≤ 1) (hI : trI up dn a b tr hi rj) (htr : tr < 60) : Cv l D vwCl (tyT cI cJ) yX6_take wsX6_take rmX6_take [.ref h0, .int (iZ ((x : Nat) : Int))] [(h0, .inr (5, [.ref oa, .ref ot, .int (iZ ((on : Nat) : Int)), .int (iZ ((up : Nat) : Int)), .int (iZ ((dn : Nat) : Int)), .int (iZ ((a : Nat) : Int)), .int (iZ ((b : Nat) : Int)), .int (iZ ((tr : Nat) : Int)), .int (iZ ((hi : Nat) : Int)), .int (iZ ((rj : Nat) : Int))])), (oa, .inr (8, [.ref la, .int (iZ ((u1 : Nat) : Int))])), (la, .inl (cJ, 14, .inr (.inl (LJ g1)))), (ot, .inr (8, [.ref lb, .int (iZ ((u2 : Nat) : Int))])), (lb, .inl (cJ, 14, .inr (.inl (LJ g2))))] (Nat × ((Nat → Nat) × Nat) × ((Nat → Nat) × Nat)) (fun r => (rj = 0 ∧ rich up dn a b (tr + 1) (hi + x) → r.1 = tr + 1) ∧ (¬ (rj = 0 ∧ rich up dn a b (tr + 1) (hi + x)) → r.1 = rj)) (fun r => [(h0, .inr (5, [.ref oa, .ref ot, .int (iZ ((on : Nat) : Int)), .int (iZ ((up : Nat) : Int)), .int (iZ ((dn : Nat) : Int)), .int (iZ ((a : Nat) : Int)), .int (iZ ((b : Nat) : Int)), .int (iZ ((tr + 1 : Nat) : Int)), .int (iZ ((hi + x : Nat) : Int)), .int (iZ ((r.1 : Nat) : Int))])), (oa, .inr (8, [.ref la, .int (iZ ((r.2.1.2 : Nat) : Int))])), (la, .inl (cJ, 14, .inr (.inl (LJ r.2.1.1)))), (ot, .inr (8, [.ref lb, .int (iZ ((r.2.2.2 : Nat) : Int))])), (lb, .inl (cJ, 14, .inr (.inl (LJ r.2.2.1))))]) := by
  obtain ⟨i1, i2, i3, i4, i5, i6, i7⟩ := hI
  refine en_v (cc := cX6_take) (maxL := 2) (by decide) rfl [(0, .ref h0), (1, .int (iZ ((x : Nat) : Int)))] (Nat.le_of_ble_eq_true rfl) rfl ?_
  intro p e s m args below meth c Q A hx hb hml hown hts hnm hK hP hD hA hS hret ls hl
  have hh_0 := hts (.fieldLink RX6 36 "BoundDraws$Trial" "tries" "I") (by decide +kernel)
  have hh_1 := (show ∀ w ∈ wsX60, w ∈ wsX6_take by decide +kernel)
  have hh_2 := hts (.fieldLink RX6 42 "BoundDraws$Trial" "rejectedBehind" "I") (by decide +kernel)
  have hh_3 := hts (.fieldLink RX6 39 "BoundDraws$Trial" "hits" "I") (by decide +kernel)
  refine lv_aload_n hx hb dX6_take_0 rfl (lv_at hl 0 rfl) ?_
  refine ca_iV [] [] [(oa, .inr (8, [.ref la, .int (iZ ((u1 : Nat) : Int))])), (la, .inl (cJ, 14, .inr (.inl (LJ g1)))), (ot, .inr (8, [.ref lb, .int (iZ ((u2 : Nat) : Int))])), (lb, .inl (cJ, 14, .inr (.inl (LJ g2))))] 0 0 ⟨hx, hb, hml, hown, hts⟩ (c_X6_isFull l D cI cJ h0 oa ot on up dn a b tr hi rj (by omega)) (cwV 0 hts gX6_take_X6_isFull rfl rfl rfl (by decide +kernel) ⟨(Nat.le_of_ble_eq_true rfl), (Nat.le_of_ble_eq_true rfl)⟩) hK hP hD hS hA [0] [1, 2, 3, 4] rfl rfl rfl rfl (by decide) 0 rfl rfl rfl hl.1 rfl (Nat.le_of_ble_eq_true rfl) dX6_take_1 ⟨(Nat.le_of_ble_eq_true rfl), (Nat.le_of_ble_eq_true rfl)⟩ (Nat.le_of_ble_eq_true rfl) (Nat.le_of_ble_eq_true rfl) (fun r_1 u9 H locs hw hP hD hS => ?_)
  obtain u9 := u9
  try dsimp only at hw
  obtain ⟨b1, hb1, hb2, hb3⟩ := hw
  have hP : va_P D vwCl [(oa, .inr (8, [.ref la, .int (iZ ((u1 : Nat) : Int))])), (la, .inl (cJ, 14, .inr (.inl (LJ g1)))), (ot, .inr (8, [.ref lb, .int (iZ ((u2 : Nat) : Int))])), (lb, .inl (cJ, 14, .inr (.inl (LJ g2)))), (h0, .inr (5, [.ref oa, .ref ot, .int (iZ ((on : Nat) : Int)), .int (iZ ((up : Nat) : Int)), .int (iZ ((dn : Nat) : Int)), .int (iZ ((a : Nat) : Int)), .int (iZ ((b : Nat) : Int)), .int (iZ ((tr : Nat) : Int)), .int (iZ ((hi : Nat) : Int)), .int (iZ ((rj : Nat) : Int))]))] H := hP
  have hD : va_D A [(oa, .inr (8, [.ref la, .int (iZ ((u1 : Nat) : Int))])), (la, .inl (cJ, 14, .inr (.inl (LJ g1)))), (ot, .inr (8, [.ref lb, .int (iZ ((u2 : Nat) : Int))])), (lb, .inl (cJ, 14, .inr (.inl (LJ g2)))), (h0, .inr (5, [.ref oa, .ref ot, .int (iZ ((on : Nat) : Int)), .int (iZ ((up : Nat) : Int)), .int (iZ ((dn : Nat) : Int)), .int (iZ ((a : Nat) : Int)), .int (iZ ((b : Nat) : Int)), .int (iZ ((tr : Nat) : Int)), .int (iZ ((hi : Nat) : Int)), .int (iZ ((rj : Nat) : Int))]))] := hD
  refine tp_i (y := (iZ (b1))) (hb1) ?_
  refine zb_if_eq (x := (b1)) (tgt := 8) hx hb dX6_take_4 (by decide) ⟨by omega, by omega⟩ (fun c_4 => ?_) (fun c_4 => ?_)
  · refine lv_aload_n hx hb dX6_take_8 rfl (lv_at hl 0 rfl) ?_
    refine lv_dup hx hb dX6_take_9 rfl ?_
    refine va_get (D := D) (ci := 5) (v := .int (iZ ((tr : Nat) : Int))) (C := RX6) (T := TX6) (N := 10) hx hb hts hh_1 hown hK hP 4 rfl rfl 7 (by decide) hh_0 (fun _ h9 => h9) rfl dX6_take_10 ?_
    refine zc_iconst (z := ((1 : Nat) : Int)) hx hb dX6_take_13 (by decide) ?_
    refine zi_add (z := ((tr + 1 : Nat) : Int)) hx hb dX6_take_14 (by omega) ?_
    refine va_put (D := D) (ci := 5) (v := .int (iZ ((tr + 1 : Nat) : Int))) (ty := .int) (C := RX6) (T := TX6) (N := 10) hx hb hts hh_1 tyX6 tyX6_ok nmX6 hown hK hP hD hS 4 rfl rfl 7 (by decide) hh_0 (fun _ h9 => h9) rfl (by decide +kernel) rfl rfl (Nat.le_of_ble_eq_true rfl) dX6_take_15 (fun H locs hP hD hS => ?_)
    have hP : va_P D vwCl [(oa, .inr (8, [.ref la, .int (iZ ((u1 : Nat) : Int))])), (la, .inl (cJ, 14, .inr (.inl (LJ g1)))), (ot, .inr (8, [.ref lb, .int (iZ ((u2 : Nat) : Int))])), (lb, .inl (cJ, 14, .inr (.inl (LJ g2)))), (h0, .inr (5, [.ref oa, .ref ot, .int (iZ ((on : Nat) : Int)), .int (iZ ((up : Nat) : Int)), .int (iZ ((dn : Nat) : Int)), .int (iZ ((a : Nat) : Int)), .int (iZ ((b : Nat) : Int)), .int (iZ ((tr + 1 : Nat) : Int)), .int (iZ ((hi : Nat) : Int)), .int (iZ ((rj : Nat) : Int))]))] H := hP
    have hD : va_D A [(oa, .inr (8, [.ref la, .int (iZ ((u1 : Nat) : Int))])), (la, .inl (cJ, 14, .inr (.inl (LJ g1)))), (ot, .inr (8, [.ref lb, .int (iZ ((u2 : Nat) : Int))])), (lb, .inl (cJ, 14, .inr (.inl (LJ g2)))), (h0, .inr (5, [.ref oa, .ref ot, .int (iZ ((on : Nat) : Int)), .int (iZ ((up : Nat) : Int)), .int (iZ ((dn : Nat) : Int)), .int (iZ ((a : Nat) : Int)), .int (iZ ((b : Nat) : Int)), .int (iZ ((tr + 1 : Nat) : Int)), .int (iZ ((hi : Nat) : Int)), .int (iZ ((rj : Nat) : Int))]))] := hD
    have pt_32 : ∀ (h2 : Nat), (e2 : h2 = hi + x) → (H : Heap) → (locs : List Loc) → va_P D vwCl [(h0, .inr (5, [.ref oa, .ref ot, .int (iZ ((on : Nat) : Int)), .int (iZ ((up : Nat) : Int)), .int (iZ ((dn : Nat) : Int)), .int (iZ ((a : Nat) : Int)), .int (iZ ((b : Nat) : Int)), .int (iZ ((tr + 1 : Nat) : Int)), .int (iZ ((h2 : Nat) : Int)), .int (iZ ((rj : Nat) : Int))])), (oa, .inr (8, [.ref la, .int (iZ ((u1 : Nat) : Int))])), (la, .inl (cJ, 14, .inr (.inl (LJ g1)))), (ot, .inr (8, [.ref lb, .int (iZ ((u2 : Nat) : Int))])), (lb, .inl (cJ, 14, .inr (.inl (LJ g2))))] H → va_D A [(h0, .inr (5, [.ref oa, .ref ot, .int (iZ ((on : Nat) : Int)), .int (iZ ((up : Nat) : Int)), .int (iZ ((dn : Nat) : Int)), .int (iZ ((a : Nat) : Int)), .int (iZ ((b : Nat) : Int)), .int (iZ ((tr + 1 : Nat) : Int)), .int (iZ ((h2 : Nat) : Int)), .int (iZ ((rj : Nat) : Int))])), (oa, .inr (8, [.ref la, .int (iZ ((u1 : Nat) : Int))])), (la, .inl (cJ, 14, .inr (.inl (LJ g1)))), (ot, .inr (8, [.ref lb, .int (iZ ((u2 : Nat) : Int))])), (lb, .inl (cJ, 14, .inr (.inl (LJ g2))))] → va_S A s.heap H locs → (ls : Array Slot) → lv_has ls 2 [(0, .ref h0)] → W p l e rmX6_take s m args below meth c H locs 0 0 Q (F0 m 32 ls []) := by
      intro h2 e2 H locs hP hD hS ls hl
      subst e2
      refine lv_aload_n hx hb dX6_take_32 rfl (lv_at hl 0 rfl) ?_
      refine va_get (D := D) (ci := 5) (v := .int (iZ ((rj : Nat) : Int))) (C := RX6) (T := TX6) (N := 10) hx hb hts hh_1 hown hK hP 0 rfl rfl 9 (by decide) hh_2 (fun _ h9 => h9) rfl dX6_take_33 ?_
      refine zb_if_ne (x := ((rj : Nat) : Int)) (tgt := 54) hx hb dX6_take_36 (by decide) ⟨by omega, by omega⟩ (fun c_36 => ?_) (fun c_36 => ?_)
      · exact hret (rj, (g1, u1), (g2, u2)) _ _ _ _ _ _ (Nat.le_of_ble_eq_true rfl) (Nat.le_of_ble_eq_true rfl) dX6_take_54 (⟨fun h9 => by first | rfl | (exfalso; have := h9.1; omega) | (exfalso; have := hc3.mpr h9.2; omega), fun h9 => by first | rfl | (exfalso; exact h9 ⟨by omega, hc3.mp (by omega)⟩)⟩) hP hD hS
      · refine lv_aload_n hx hb dX6_take_39 rfl (lv_at hl 0 rfl) ?_
        refine ca_iV [] [] [] 0 0 ⟨hx, hb, hml, hown, hts⟩ (c_X6_isRich l D cI cJ h0 oa ot la lb on up dn a b (tr + 1) (hi + x) rj u1 u2 g1 g2 ⟨i1, i2, i3, i4, by omega, by omega, by omega⟩) (cwV 0 hts gX6_take_X6_isRich rfl rfl rfl (by decide +kernel) ⟨(Nat.le_of_ble_eq_true rfl), (Nat.le_of_ble_eq_true rfl)⟩) hK hP hD hS hA [0, 1, 2, 3, 4] [] rfl rfl rfl rfl (by decide) 0 rfl rfl rfl hl.1 rfl (Nat.le_of_ble_eq_true rfl) dX6_take_40 ⟨(Nat.le_of_ble_eq_true rfl), (Nat.le_of_ble_eq_true rfl)⟩ (Nat.le_of_ble_eq_true rfl) (Nat.le_of_ble_eq_true rfl) (fun r_40 u9 H locs hw hP hD hS => ?_)
        obtain ⟨⟨gB, uB⟩, ⟨gG, uG⟩⟩ := u9
        try dsimp only at hw
        obtain ⟨b2, hc1, hc2, hc3⟩ := hw
        have hP : va_P D vwCl [(h0, .inr (5, [.ref oa, .ref ot, .int (iZ ((on : Nat) : Int)), .int (iZ ((up : Nat) : Int)), .int (iZ ((dn : Nat) : Int)), .int (iZ ((a : Nat) : Int)), .int (iZ ((b : Nat) : Int)), .int (iZ ((tr + 1 : Nat) : Int)), .int (iZ ((hi + x : Nat) : Int)), .int (iZ ((rj : Nat) : Int))])), (oa, .inr (8, [.ref la, .int (iZ ((uB : Nat) : Int))])), (la, .inl (cJ, 14, .inr (.inl (LJ gB)))), (ot, .inr (8, [.ref lb, .int (iZ ((uG : Nat) : Int))])), (lb, .inl (cJ, 14, .inr (.inl (LJ gG))))] H := hP
        have hD : va_D A [(h0, .inr (5, [.ref oa, .ref ot, .int (iZ ((on : Nat) : Int)), .int (iZ ((up : Nat) : Int)), .int (iZ ((dn : Nat) : Int)), .int (iZ ((a : Nat) : Int)), .int (iZ ((b : Nat) : Int)), .int (iZ ((tr + 1 : Nat) : Int)), .int (iZ ((hi + x : Nat) : Int)), .int (iZ ((rj : Nat) : Int))])), (oa, .inr (8, [.ref la, .int (iZ ((uB : Nat) : Int))])), (la, .inl (cJ, 14, .inr (.inl (LJ gB)))), (ot, .inr (8, [.ref lb, .int (iZ ((uG : Nat) : Int))])), (lb, .inl (cJ, 14, .inr (.inl (LJ gG))))] := hD
        refine tp_i (y := (iZ (b2))) (hc1) ?_
        refine zb_if_eq (x := (b2)) (tgt := 54) hx hb dX6_take_43 (by decide) ⟨by omega, by omega⟩ (fun c_43 => ?_) (fun c_43 => ?_)
        · exact hret (rj, (gB, uB), (gG, uG)) _ _ _ _ _ _ (Nat.le_of_ble_eq_true rfl) (Nat.le_of_ble_eq_true rfl) dX6_take_54 (⟨fun h9 => by first | rfl | (exfalso; have := h9.1; omega) | (exfalso; have := hc3.mpr h9.2; omega), fun h9 => by first | rfl | (exfalso; exact h9 ⟨by omega, hc3.mp (by omega)⟩)⟩) hP hD hS
        · refine lv_aload_n hx hb dX6_take_46 rfl (lv_at hl 0 rfl) ?_
          refine lv_aload_n hx hb dX6_take_47 rfl (lv_at hl 0 rfl) ?_
          refine va_get (D := D) (ci := 5) (v := .int (iZ ((tr + 1 : Nat) : Int))) (C := RX6) (T := TX6) (N := 10) hx hb hts hh_1 hown hK hP 0 rfl rfl 7 (by decide) hh_0 (fun _ h9 => h9) rfl dX6_take_48 ?_
          refine va_put (D := D) (ci := 5) (v := .int (iZ ((tr + 1 : Nat) : Int))) (ty := .int) (C := RX6) (T := TX6) (N := 10) hx hb hts hh_1 tyX6 tyX6_ok nmX6 hown hK hP hD hS 0 rfl rfl 9 (by decide) hh_2 (fun _ h9 => h9) rfl (by decide +kernel) rfl rfl (Nat.le_of_ble_eq_true rfl) dX6_take_51 (fun H locs hP hD hS => ?_)
          have hP : va_P D vwCl [(h0, .inr (5, [.ref oa, .ref ot, .int (iZ ((on : Nat) : Int)), .int (iZ ((up : Nat) : Int)), .int (iZ ((dn : Nat) : Int)), .int (iZ ((a : Nat) : Int)), .int (iZ ((b : Nat) : Int)), .int (iZ ((tr + 1 : Nat) : Int)), .int (iZ ((hi + x : Nat) : Int)), .int (iZ ((tr + 1 : Nat) : Int))])), (oa, .inr (8, [.ref la, .int (iZ ((uB : Nat) : Int))])), (la, .inl (cJ, 14, .inr (.inl (LJ gB)))), (ot, .inr (8, [.ref lb, .int (iZ ((uG : Nat) : Int))])), (lb, .inl (cJ, 14, .inr (.inl (LJ gG))))] H := hP
          have hD : va_D A [(h0, .inr (5, [.ref oa, .ref ot, .int (iZ ((on : Nat) : Int)), .int (iZ ((up : Nat) : Int)), .int (iZ ((dn : Nat) : Int)), .int (iZ ((a : Nat) : Int)), .int (iZ ((b : Nat) : Int)), .int (iZ ((tr + 1 : Nat) : Int)), .int (iZ ((hi + x : Nat) : Int)), .int (iZ ((tr + 1 : Nat) : Int))])), (oa, .inr (8, [.ref la, .int (iZ ((uB : Nat) : Int))])), (la, .inl (cJ, 14, .inr (.inl (LJ gB)))), (ot, .inr (8, [.ref lb, .int (iZ ((uG : Nat) : Int))])), (lb, .inl (cJ, 14, .inr (.inl (LJ gG))))] := hD
          exact hret (tr + 1, (gB, uB), (gG, uG)) _ _ _ _ _ _ (Nat.le_of_ble_eq_true rfl) (Nat.le_of_ble_eq_true rfl) dX6_take_54 (⟨fun h9 => by first | rfl | (exfalso; have := h9.1; omega) | (exfalso; have := hc3.mpr h9.2; omega), fun h9 => by first | rfl | (exfalso; exact h9 ⟨by omega, hc3.mp (by omega)⟩)⟩) hP hD hS
    refine lv_iload_n hx hb dX6_take_18 rfl (lv_at hl 1 rfl) ?_
    refine zb_if_eq (x := ((x : Nat) : Int)) (tgt := 32) hx hb dX6_take_19 (by decide) ⟨by omega, by omega⟩ (fun c_19 => ?_) (fun c_19 => ?_)
    · exact pt_32 hi (by omega) _ _ (hP.sub [4, 0, 1, 2, 3] rfl) (hD.sub [4, 0, 1, 2, 3] rfl rfl) hS ls (lv_sub hl [0] rfl)
    · refine lv_aload_n hx hb dX6_take_22 rfl (lv_at hl 0 rfl) ?_
      refine lv_dup hx hb dX6_take_23 rfl ?_
      refine va_get (D := D) (ci := 5) (v := .int (iZ ((hi : Nat) : Int))) (C := RX6) (T := TX6) (N := 10) hx hb hts hh_1 hown hK hP 4 rfl rfl 8 (by decide) hh_3 (fun _ h9 => h9) rfl dX6_take_24 ?_
      refine zc_iconst (z := ((1 : Nat) : Int)) hx hb dX6_take_27 (by decide) ?_
      refine zi_add (z := ((hi + 1 : Nat) : Int)) hx hb dX6_take_28 (by omega) ?_
      refine va_put (D := D) (ci := 5) (v := .int (iZ ((hi + 1 : Nat) : Int))) (ty := .int) (C := RX6) (T := TX6) (N := 10) hx hb hts hh_1 tyX6 tyX6_ok nmX6 hown hK hP hD hS 4 rfl rfl 8 (by decide) hh_3 (fun _ h9 => h9) rfl (by decide +kernel) rfl rfl (Nat.le_of_ble_eq_true rfl) dX6_take_29 (fun H locs hP hD hS => ?_)
      have hP : va_P D vwCl [(oa, .inr (8, [.ref la, .int (iZ ((u1 : Nat) : Int))])), (la, .inl (cJ, 14, .inr (.inl (LJ g1)))), (ot, .inr (8, [.ref lb, .int (iZ ((u2 : Nat) : Int))])), (lb, .inl (cJ, 14, .inr (.inl (LJ g2)))), (h0, .inr (5, [.ref oa, .ref ot, .int (iZ ((on : Nat) : Int)), .int (iZ ((up : Nat) : Int)), .int (iZ ((dn : Nat) : Int)), .int (iZ ((a : Nat) : Int)), .int (iZ ((b : Nat) : Int)), .int (iZ ((tr + 1 : Nat) : Int)), .int (iZ ((hi + 1 : Nat) : Int)), .int (iZ ((rj : Nat) : Int))]))] H := hP
      have hD : va_D A [(oa, .inr (8, [.ref la, .int (iZ ((u1 : Nat) : Int))])), (la, .inl (cJ, 14, .inr (.inl (LJ g1)))), (ot, .inr (8, [.ref lb, .int (iZ ((u2 : Nat) : Int))])), (lb, .inl (cJ, 14, .inr (.inl (LJ g2)))), (h0, .inr (5, [.ref oa, .ref ot, .int (iZ ((on : Nat) : Int)), .int (iZ ((up : Nat) : Int)), .int (iZ ((dn : Nat) : Int)), .int (iZ ((a : Nat) : Int)), .int (iZ ((b : Nat) : Int)), .int (iZ ((tr + 1 : Nat) : Int)), .int (iZ ((hi + 1 : Nat) : Int)), .int (iZ ((rj : Nat) : Int))]))] := hD
      exact pt_32 (hi + 1) (by omega) _ _ (hP.sub [4, 0, 1, 2, 3] rfl) (hD.sub [4, 0, 1, 2, 3] rfl rfl) hS ls (lv_sub hl [0] rfl)
  · exfalso; omega

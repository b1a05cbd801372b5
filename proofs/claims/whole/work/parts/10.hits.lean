/-- Horner's way: behind j steps -/
def hoS (n a b : Nat) : Nat → Nat
  | 0 => 0
  | j + 1 => hoS n a b j * a + b ^ j * ch n j
/-- the above of k or more hits, a of a hit, b of a miss -/
def hoA (n k a b : Nat) : Nat := hoS n a b (n - k + 1) * a ^ k
/-- THE ABOVE -/
def habv (n k up down side : Nat) : Nat := if side = 0 then hoA n k up (down - up) else hoA n (n - k) (down - up) up
theorem hoS_b {n a b : Nat} (hn : n ≤ 30) (ha : a ≤ 1000) (hb : b ≤ 1000) : ∀ j : Nat, hoS n a b j ≤ 2 ^ (28 + 11 * j)
  | 0 => by show 0 ≤ _; exact Nat.zero_le _
  | j + 1 => by
    have h1 := hoS_b (n := n) (a := a) (b := b) hn ha hb j
    have h2 : ch n j ≤ 2 ^ 28 := by have := ch_b30 (n := n) (k := j) hn; omega
    have h3 : b ^ j ≤ 2 ^ (10 * j) := by rw [Nat.pow_mul]; exact Nat.pow_le_pow_left (by omega) j
    have h4 : hoS n a b j * a ≤ 2 ^ (28 + 11 * j) * 1024 := Nat.mul_le_mul h1 (by omega)
    have h5 : b ^ j * ch n j ≤ 2 ^ (10 * j) * 2 ^ 28 := Nat.mul_le_mul h3 h2
    have h6 : 2 ^ (10 * j) * 2 ^ 28 ≤ 2 ^ (28 + 11 * j) := by rw [← Nat.pow_add]; exact Nat.pow_le_pow_right (by decide) (by omega)
    have h7 : 2 ^ (28 + 11 * (j + 1)) = 2 ^ (28 + 11 * j) * 2048 := by rw [show 28 + 11 * (j + 1) = 28 + 11 * j + 11 by omega, Nat.pow_add]
    rw [hoS, h7]
    omega
theorem B14 : B32 ^ 14 = 2 ^ 448 := by decide +kernel
theorem hoS_m {n a b j x : Nat} (hn : n ≤ 30) (ha : a ≤ 1000) (hb : b ≤ 1000) (hj : j ≤ 31) (hx : x ≤ 1000) : hoS n a b j * x < B32 ^ 14 := by
  have h1 := hoS_b (n := n) hn ha hb j
  have h2 : 2 ^ (28 + 11 * j) ≤ 2 ^ 369 := Nat.pow_le_pow_right (by decide) (by omega)
  have h3 : hoS n a b j * x ≤ 2 ^ 369 * 1024 := Nat.mul_le_mul (Nat.le_trans h1 h2) (by omega)
  rw [B14]
  exact Nat.lt_of_le_of_lt h3 (by decide +kernel)
theorem hoS_a {n a b j : Nat} (hn : n ≤ 30) (ha : a ≤ 1000) (hb : b ≤ 1000) (hj : j ≤ 30) : hoS n a b j * a + b ^ j * ch n j < B32 ^ 14 := by
  have h1 := hoS_b (n := n) (a := a) (b := b) hn ha hb (j + 1)
  rw [hoS] at h1
  have h2 : 2 ^ (28 + 11 * (j + 1)) ≤ 2 ^ 369 := Nat.pow_le_pow_right (by decide) (by omega)
  rw [B14]
  exact Nat.lt_of_le_of_lt (Nat.le_trans h1 h2) (by decide +kernel)
theorem pow_b {b j x : Nat} (hb : b ≤ 1000) (hj : j ≤ 31) (hx : x ≤ 1000) : b ^ j * x < B32 ^ 14 := by
  have h3 : b ^ j ≤ 2 ^ (10 * j) := by rw [Nat.pow_mul]; exact Nat.pow_le_pow_left (by omega) j
  have h2 : 2 ^ (10 * j) ≤ 2 ^ 310 := Nat.pow_le_pow_right (by decide) (by omega)
  have h4 : b ^ j * x ≤ 2 ^ 310 * 1024 := Nat.mul_le_mul (Nat.le_trans h3 h2) (by omega)
  rw [B14]
  exact Nat.lt_of_le_of_lt h4 (by decide +kernel)
theorem hoA_b {n k a b x : Nat} (hn : n ≤ 30) (hk : k ≤ n) (ha : a ≤ 1000) (hb : b ≤ 1000) (hx : x ≤ 1000) : hoA n k a b * x < B32 ^ 14 := by
  have h1 := hoS_b (n := n) hn ha hb (n - k + 1)
  have h3 : a ^ k ≤ 2 ^ (10 * k) := by rw [Nat.pow_mul]; exact Nat.pow_le_pow_left (by omega) k
  have h4 : hoA n k a b ≤ 2 ^ (28 + 11 * (n - k + 1)) * 2 ^ (10 * k) := Nat.mul_le_mul h1 h3
  rw [← Nat.pow_add] at h4
  have h2 : 2 ^ (28 + 11 * (n - k + 1) + 10 * k) ≤ 2 ^ 369 := Nat.pow_le_pow_right (by decide) (by omega)
  have h5 : hoA n k a b * x ≤ 2 ^ 369 * 1024 := Nat.mul_le_mul (Nat.le_trans h4 h2) (by omega)
  rw [B14]
  exact Nat.lt_of_le_of_lt h5 (by decide +kernel)
theorem hoA_b1 {n k a b : Nat} (hn : n ≤ 30) (hk : k ≤ n) (ha : a ≤ 1000) (hb : b ≤ 1000) : hoA n k a b < B32 ^ 14 := by
  have := hoA_b (x := 1) hn hk ha hb (by decide); rwa [Nat.mul_one] at this
theorem habv_b {n k up down side x : Nat} (hn : n ≤ 30) (hk : k ≤ n) (hd : down ≤ 1000) (hu : up ≤ down) (hx : x ≤ 1000) : habv n k up down side * x < B32 ^ 14 := by
  unfold habv
  split
  · exact hoA_b hn hk (by omega) (by omega) hx
  · exact hoA_b hn (by omega) (by omega) (by omega) hx
/-- halving: the place that is found from lo to hi -/
def bsr (good : Nat → Bool) : Nat → Nat → Nat → Nat
  | 0, lo, _ => lo
  | f + 1, lo, hi => if lo < hi then (if good ((lo + hi) / 2) then bsr good f lo ((lo + hi) / 2) else bsr good f ((lo + hi) / 2 + 1) hi) else lo
def goodU (n k a b q : Nat) : Bool := decide (habv n k q 1000 1 * b ≤ a * 1000 ^ n)
/-- THE UPPER -/
def upr (n k a b : Nat) : Nat := bsr (goodU n k a b) 1001 0 1000
theorem bsr_x {good : Nat → Bool} {f lo hi : Nat} (hf : 0 < f) (h : ¬ lo < hi) : bsr good f lo hi = lo := by
  cases f with
  | zero => omega
  | succ f => rw [bsr, if_neg h]
theorem bsr_t {good : Nat → Bool} {f lo hi : Nat} (hf : 0 < f) (h : lo < hi) (hg : good ((lo + hi) / 2) = true) : bsr good f lo hi = bsr good (f - 1) lo ((lo + hi) / 2) := by
  cases f with
  | zero => omega
  | succ f => rw [bsr, if_pos h, if_pos hg]; rfl
theorem bsr_f {good : Nat → Bool} {f lo hi : Nat} (hf : 0 < f) (h : lo < hi) (hg : good ((lo + hi) / 2) = false) : bsr good f lo hi = bsr good (f - 1) ((lo + hi) / 2 + 1) hi := by
  cases f with
  | zero => omega
  | succ f => rw [bsr, if_pos h, if_neg (by rw [hg]; decide)]; rfl
theorem bsr_le {good : Nat → Bool} : ∀ (f : Nat) {lo hi : Nat}, lo ≤ hi → lo ≤ bsr good f lo hi ∧ bsr good f lo hi ≤ hi
  | 0, lo, hi, h => ⟨Nat.le_refl _, h⟩
  | f + 1, lo, hi, h => by
    rw [bsr]
    split
    · split
      · have := bsr_le (good := good) f (lo := lo) (hi := (lo + hi) / 2) (by omega); omega
      · have := bsr_le (good := good) f (lo := (lo + hi) / 2 + 1) (hi := hi) (by omega); omega
    · omega
theorem cmpZ_le {v w : Nat} : cmpZ v w ≤ 0 ↔ v ≤ w := by
  unfold cmpZ; split
  · omega
  · split <;> omega
theorem cmpZ_r (v w : Nat) : -1 ≤ cmpZ v w ∧ cmpZ v w ≤ 1 := by
  unfold cmpZ; split
  · omega
  · split <;> omega
def rmX1_init : Room := { frames := 2, cells := 6, slots := 48, locals := 32 }
set_option maxHeartbeats 4000000 in
set_option maxRecDepth 100000 in
theorem c_X1_init (l : Launch) (D : va_G) (cI cJ : ClassId) (h0 : Nat) : Cv l D vwCl (tyT cI cJ) yX1_init wsX1_init rmX1_init [.ref h0] [(h0, .inr (1, [.null, .null, .null]))] (Nat × Nat × Nat × Nat × Nat × Nat) (fun _ => True) (fun q => [(h0, .inr (1, [.ref q.1, .ref q.2.1, .ref q.2.2.1])), (q.1, .inr (8, [.ref q.2.2.2.1, .int (iZ ((0 : Nat) : Int))])), (q.2.2.2.1, .inl (cJ, 14, .inr (.inl (LJ (fun _ => 0))))), (q.2.1, .inr (8, [.ref q.2.2.2.2.1, .int (iZ ((0 : Nat) : Int))])), (q.2.2.2.2.1, .inl (cJ, 14, .inr (.inl (LJ (fun _ => 0))))), (q.2.2.1, .inr (8, [.ref q.2.2.2.2.2, .int (iZ ((0 : Nat) : Int))])), (q.2.2.2.2.2, .inl (cJ, 14, .inr (.inl (LJ (fun _ => 0)))))]) := by
  refine en_v (cc := cX1_init) (maxL := 1) (by decide) rfl [(0, .ref h0)] (Nat.le_of_ble_eq_true rfl) rfl ?_
  intro p e s m args below meth c Q A hx hb hml hown hts hnm hK hP hD hA hS hret ls hl
  have hh_0 := hts (.methodLink RX1 1 objectInit) (by decide +kernel)
  have hh_1 := hts (.instanceMethod objectInit) (by decide +kernel)
  have hh_2 := hts (.code objectInit ⟨#[0xb1]⟩ 1 none) (by decide +kernel)
  have hh_3 := (show ∀ w ∈ wsX90, w ∈ wsX1_init by decide +kernel)
  have hh_4 := hts (.classLink RX1 7 RX9) (by decide +kernel)
  have hh_5 := hts (.instantiable RX9 2) (by decide +kernel)
  have hh_6 := hts (.initialized RX9) (by decide +kernel)
  have hh_7 := hts (.methodLink RX1 9 yX9_init) (by decide +kernel)
  have hh_8 := hts (.instanceMethod yX9_init) (by decide +kernel)
  have hh_9 := hts (.fieldLink RX1 10 "BoundDraws$Hits" "sum" "LBoundDraws$Wide;") (by decide +kernel)
  have hh_10 := (show ∀ w ∈ wsX10, w ∈ wsX1_init by decide +kernel)
  have hh_11 := hts (.fieldLink RX1 16 "BoundDraws$Hits" "power" "LBoundDraws$Wide;") (by decide +kernel)
  have hh_12 := hts (.fieldLink RX1 19 "BoundDraws$Hits" "measure" "LBoundDraws$Wide;") (by decide +kernel)
  refine lv_aload_n hx hb dX1_init_0 rfl (lv_at hl 0 rfl) ?_
  refine W.objInit hx hb hown hh_0 hh_1 hh_2 rfl (by rw [hml]; exact hl.1) rfl dX1_init_1 (Nat.le_of_ble_eq_true rfl) (Nat.le_of_ble_eq_true rfl) ?_
  refine W.eq (g2 := F0 m 4 ls []) rfl ?_
  refine lv_aload_n hx hb dX1_init_4 rfl (lv_at hl 0 rfl) ?_
  refine va_new (ci := 8) (fs := [.null, .int (iZ ((0 : Nat) : Int))]) (C := RX9) (T := TX9) (N := 2) hx hb hts hh_3 tyX9 tyX9_ok hown hh_4 hh_5 hh_6 hK hP hD hS hA rfl (fun j hj => by rcases (show j = 0 ∨ j = 1 by omega) with rfl | rfl <;> rfl) (Nat.le_of_ble_eq_true rfl) (Nat.le_of_ble_eq_true rfl) dX1_init_5 (fun w1 H hP hD hS => ?_)
  have hP : va_P D vwCl [(h0, .inr (1, [.null, .null, .null])), (w1, .inr (8, [.null, .int (iZ ((0 : Nat) : Int))]))] H := hP
  have hD : va_D A [(h0, .inr (1, [.null, .null, .null])), (w1, .inr (8, [.null, .int (iZ ((0 : Nat) : Int))]))] := hD
  refine W.widen (k := 1) (n := 2) (Nat.le_of_ble_eq_true rfl) (Nat.le_of_ble_eq_true rfl) ?_
  refine lv_dup hx hb dX1_init_8 rfl ?_
  refine ca_vI (ret := none) [] [.ref w1, .ref h0] [(h0, .inr (1, [.null, .null, .null]))] 2 16 ⟨hx, hb, hml, hown, hts⟩ (c_X9_init l D cI cJ w1) (cwI 0 hts gX1_init_X9_init rfl rfl rfl hh_6 hh_7 hh_8 rfl (by decide +kernel) ⟨(Nat.le_of_ble_eq_true rfl), (Nat.le_of_ble_eq_true rfl)⟩) hK hP hD hS hA [1] [0] rfl rfl rfl rfl (by decide) rfl hl.1 rfl (Nat.le_of_ble_eq_true rfl) dX1_init_9 ⟨(Nat.le_of_ble_eq_true rfl), (Nat.le_of_ble_eq_true rfl)⟩ (Nat.le_of_ble_eq_true rfl) (Nat.le_of_ble_eq_true rfl) (fun y1 H locs hw hP hD hS => ?_)
  try dsimp only at hw
  have hP : va_P D vwCl [(h0, .inr (1, [.null, .null, .null])), (w1, .inr (8, [.ref y1, .int (iZ ((0 : Nat) : Int))])), (y1, .inl (cJ, 14, .inr (.inl (LJ (fun _ => 0)))))] H := hP
  have hD : va_D A [(h0, .inr (1, [.null, .null, .null])), (w1, .inr (8, [.ref y1, .int (iZ ((0 : Nat) : Int))])), (y1, .inl (cJ, 14, .inr (.inl (LJ (fun _ => 0)))))] := hD
  refine va_putF (D := D) (ci := 1) (v := .ref w1) (ty := .object "BoundDraws$Wide") (C := RX1) (T := TX1) (N := 3) hx hb hts hh_10 tyX1 tyX1_ok nmX1 hown hK hP hD hS 0 rfl rfl 0 (by decide) hh_9 (fun _ h9 => h9) rfl hnm rfl (by decide +kernel) rfl rfl (Nat.le_of_ble_eq_true rfl) dX1_init_12 (fun H locs hP hD hS => ?_)
  have hP : va_P D vwCl [(h0, .inr (1, [.ref w1, .null, .null])), (w1, .inr (8, [.ref y1, .int (iZ ((0 : Nat) : Int))])), (y1, .inl (cJ, 14, .inr (.inl (LJ (fun _ => 0)))))] H := hP
  have hD : va_D A [(h0, .inr (1, [.ref w1, .null, .null])), (w1, .inr (8, [.ref y1, .int (iZ ((0 : Nat) : Int))])), (y1, .inl (cJ, 14, .inr (.inl (LJ (fun _ => 0)))))] := hD
  refine lv_aload_n hx hb dX1_init_15 rfl (lv_at hl 0 rfl) ?_
  refine va_new (ci := 8) (fs := [.null, .int (iZ ((0 : Nat) : Int))]) (C := RX9) (T := TX9) (N := 2) hx hb hts hh_3 tyX9 tyX9_ok hown hh_4 hh_5 hh_6 hK hP hD hS hA rfl (fun j hj => by rcases (show j = 0 ∨ j = 1 by omega) with rfl | rfl <;> rfl) (Nat.le_of_ble_eq_true rfl) (Nat.le_of_ble_eq_true rfl) dX1_init_16 (fun w2 H hP hD hS => ?_)
  have hP : va_P D vwCl [(h0, .inr (1, [.ref w1, .null, .null])), (w1, .inr (8, [.ref y1, .int (iZ ((0 : Nat) : Int))])), (y1, .inl (cJ, 14, .inr (.inl (LJ (fun _ => 0))))), (w2, .inr (8, [.null, .int (iZ ((0 : Nat) : Int))]))] H := hP
  have hD : va_D A [(h0, .inr (1, [.ref w1, .null, .null])), (w1, .inr (8, [.ref y1, .int (iZ ((0 : Nat) : Int))])), (y1, .inl (cJ, 14, .inr (.inl (LJ (fun _ => 0))))), (w2, .inr (8, [.null, .int (iZ ((0 : Nat) : Int))]))] := hD
  refine W.widen (k := 3) (n := 18) (Nat.le_of_ble_eq_true rfl) (Nat.le_of_ble_eq_true rfl) ?_
  refine lv_dup hx hb dX1_init_19 rfl ?_
  refine ca_vI (ret := none) [] [.ref w2, .ref h0] [(h0, .inr (1, [.ref w1, .null, .null])), (w1, .inr (8, [.ref y1, .int (iZ ((0 : Nat) : Int))])), (y1, .inl (cJ, 14, .inr (.inl (LJ (fun _ => 0)))))] 4 32 ⟨hx, hb, hml, hown, hts⟩ (c_X9_init l D cI cJ w2) (cwI 0 hts gX1_init_X9_init rfl rfl rfl hh_6 hh_7 hh_8 rfl (by decide +kernel) ⟨(Nat.le_of_ble_eq_true rfl), (Nat.le_of_ble_eq_true rfl)⟩) hK hP hD hS hA [3] [0, 1, 2] rfl rfl rfl rfl (by decide) rfl hl.1 rfl (Nat.le_of_ble_eq_true rfl) dX1_init_20 ⟨(Nat.le_of_ble_eq_true rfl), (Nat.le_of_ble_eq_true rfl)⟩ (Nat.le_of_ble_eq_true rfl) (Nat.le_of_ble_eq_true rfl) (fun y2 H locs hw hP hD hS => ?_)
  try dsimp only at hw
  have hP : va_P D vwCl [(h0, .inr (1, [.ref w1, .null, .null])), (w1, .inr (8, [.ref y1, .int (iZ ((0 : Nat) : Int))])), (y1, .inl (cJ, 14, .inr (.inl (LJ (fun _ => 0))))), (w2, .inr (8, [.ref y2, .int (iZ ((0 : Nat) : Int))])), (y2, .inl (cJ, 14, .inr (.inl (LJ (fun _ => 0)))))] H := hP
  have hD : va_D A [(h0, .inr (1, [.ref w1, .null, .null])), (w1, .inr (8, [.ref y1, .int (iZ ((0 : Nat) : Int))])), (y1, .inl (cJ, 14, .inr (.inl (LJ (fun _ => 0))))), (w2, .inr (8, [.ref y2, .int (iZ ((0 : Nat) : Int))])), (y2, .inl (cJ, 14, .inr (.inl (LJ (fun _ => 0)))))] := hD
  refine va_putF (D := D) (ci := 1) (v := .ref w2) (ty := .object "BoundDraws$Wide") (C := RX1) (T := TX1) (N := 3) hx hb hts hh_10 tyX1 tyX1_ok nmX1 hown hK hP hD hS 0 rfl rfl 1 (by decide) hh_11 (fun _ h9 => h9) rfl hnm rfl (by decide +kernel) rfl rfl (Nat.le_of_ble_eq_true rfl) dX1_init_23 (fun H locs hP hD hS => ?_)
  have hP : va_P D vwCl [(h0, .inr (1, [.ref w1, .ref w2, .null])), (w1, .inr (8, [.ref y1, .int (iZ ((0 : Nat) : Int))])), (y1, .inl (cJ, 14, .inr (.inl (LJ (fun _ => 0))))), (w2, .inr (8, [.ref y2, .int (iZ ((0 : Nat) : Int))])), (y2, .inl (cJ, 14, .inr (.inl (LJ (fun _ => 0)))))] H := hP
  have hD : va_D A [(h0, .inr (1, [.ref w1, .ref w2, .null])), (w1, .inr (8, [.ref y1, .int (iZ ((0 : Nat) : Int))])), (y1, .inl (cJ, 14, .inr (.inl (LJ (fun _ => 0))))), (w2, .inr (8, [.ref y2, .int (iZ ((0 : Nat) : Int))])), (y2, .inl (cJ, 14, .inr (.inl (LJ (fun _ => 0)))))] := hD
  refine lv_aload_n hx hb dX1_init_26 rfl (lv_at hl 0 rfl) ?_
  refine va_new (ci := 8) (fs := [.null, .int (iZ ((0 : Nat) : Int))]) (C := RX9) (T := TX9) (N := 2) hx hb hts hh_3 tyX9 tyX9_ok hown hh_4 hh_5 hh_6 hK hP hD hS hA rfl (fun j hj => by rcases (show j = 0 ∨ j = 1 by omega) with rfl | rfl <;> rfl) (Nat.le_of_ble_eq_true rfl) (Nat.le_of_ble_eq_true rfl) dX1_init_27 (fun w3 H hP hD hS => ?_)
  have hP : va_P D vwCl [(h0, .inr (1, [.ref w1, .ref w2, .null])), (w1, .inr (8, [.ref y1, .int (iZ ((0 : Nat) : Int))])), (y1, .inl (cJ, 14, .inr (.inl (LJ (fun _ => 0))))), (w2, .inr (8, [.ref y2, .int (iZ ((0 : Nat) : Int))])), (y2, .inl (cJ, 14, .inr (.inl (LJ (fun _ => 0))))), (w3, .inr (8, [.null, .int (iZ ((0 : Nat) : Int))]))] H := hP
  have hD : va_D A [(h0, .inr (1, [.ref w1, .ref w2, .null])), (w1, .inr (8, [.ref y1, .int (iZ ((0 : Nat) : Int))])), (y1, .inl (cJ, 14, .inr (.inl (LJ (fun _ => 0))))), (w2, .inr (8, [.ref y2, .int (iZ ((0 : Nat) : Int))])), (y2, .inl (cJ, 14, .inr (.inl (LJ (fun _ => 0))))), (w3, .inr (8, [.null, .int (iZ ((0 : Nat) : Int))]))] := hD
  refine W.widen (k := 5) (n := 34) (Nat.le_of_ble_eq_true rfl) (Nat.le_of_ble_eq_true rfl) ?_
  refine lv_dup hx hb dX1_init_30 rfl ?_
  refine ca_vI (ret := none) [] [.ref w3, .ref h0] [(h0, .inr (1, [.ref w1, .ref w2, .null])), (w1, .inr (8, [.ref y1, .int (iZ ((0 : Nat) : Int))])), (y1, .inl (cJ, 14, .inr (.inl (LJ (fun _ => 0))))), (w2, .inr (8, [.ref y2, .int (iZ ((0 : Nat) : Int))])), (y2, .inl (cJ, 14, .inr (.inl (LJ (fun _ => 0)))))] 6 48 ⟨hx, hb, hml, hown, hts⟩ (c_X9_init l D cI cJ w3) (cwI 0 hts gX1_init_X9_init rfl rfl rfl hh_6 hh_7 hh_8 rfl (by decide +kernel) ⟨(Nat.le_of_ble_eq_true rfl), (Nat.le_of_ble_eq_true rfl)⟩) hK hP hD hS hA [5] [0, 1, 2, 3, 4] rfl rfl rfl rfl (by decide) rfl hl.1 rfl (Nat.le_of_ble_eq_true rfl) dX1_init_31 ⟨(Nat.le_of_ble_eq_true rfl), (Nat.le_of_ble_eq_true rfl)⟩ (Nat.le_of_ble_eq_true rfl) (Nat.le_of_ble_eq_true rfl) (fun y3 H locs hw hP hD hS => ?_)
  try dsimp only at hw
  have hP : va_P D vwCl [(h0, .inr (1, [.ref w1, .ref w2, .null])), (w1, .inr (8, [.ref y1, .int (iZ ((0 : Nat) : Int))])), (y1, .inl (cJ, 14, .inr (.inl (LJ (fun _ => 0))))), (w2, .inr (8, [.ref y2, .int (iZ ((0 : Nat) : Int))])), (y2, .inl (cJ, 14, .inr (.inl (LJ (fun _ => 0))))), (w3, .inr (8, [.ref y3, .int (iZ ((0 : Nat) : Int))])), (y3, .inl (cJ, 14, .inr (.inl (LJ (fun _ => 0)))))] H := hP
  have hD : va_D A [(h0, .inr (1, [.ref w1, .ref w2, .null])), (w1, .inr (8, [.ref y1, .int (iZ ((0 : Nat) : Int))])), (y1, .inl (cJ, 14, .inr (.inl (LJ (fun _ => 0))))), (w2, .inr (8, [.ref y2, .int (iZ ((0 : Nat) : Int))])), (y2, .inl (cJ, 14, .inr (.inl (LJ (fun _ => 0))))), (w3, .inr (8, [.ref y3, .int (iZ ((0 : Nat) : Int))])), (y3, .inl (cJ, 14, .inr (.inl (LJ (fun _ => 0)))))] := hD
  refine va_putF (D := D) (ci := 1) (v := .ref w3) (ty := .object "BoundDraws$Wide") (C := RX1) (T := TX1) (N := 3) hx hb hts hh_10 tyX1 tyX1_ok nmX1 hown hK hP hD hS 0 rfl rfl 2 (by decide) hh_12 (fun _ h9 => h9) rfl hnm rfl (by decide +kernel) rfl rfl (Nat.le_of_ble_eq_true rfl) dX1_init_34 (fun H locs hP hD hS => ?_)
  have hP : va_P D vwCl [(h0, .inr (1, [.ref w1, .ref w2, .ref w3])), (w1, .inr (8, [.ref y1, .int (iZ ((0 : Nat) : Int))])), (y1, .inl (cJ, 14, .inr (.inl (LJ (fun _ => 0))))), (w2, .inr (8, [.ref y2, .int (iZ ((0 : Nat) : Int))])), (y2, .inl (cJ, 14, .inr (.inl (LJ (fun _ => 0))))), (w3, .inr (8, [.ref y3, .int (iZ ((0 : Nat) : Int))])), (y3, .inl (cJ, 14, .inr (.inl (LJ (fun _ => 0)))))] H := hP
  have hD : va_D A [(h0, .inr (1, [.ref w1, .ref w2, .ref w3])), (w1, .inr (8, [.ref y1, .int (iZ ((0 : Nat) : Int))])), (y1, .inl (cJ, 14, .inr (.inl (LJ (fun _ => 0))))), (w2, .inr (8, [.ref y2, .int (iZ ((0 : Nat) : Int))])), (y2, .inl (cJ, 14, .inr (.inl (LJ (fun _ => 0))))), (w3, .inr (8, [.ref y3, .int (iZ ((0 : Nat) : Int))])), (y3, .inl (cJ, 14, .inr (.inl (LJ (fun _ => 0)))))] := hD
  exact hret (w1, w2, w3, y1, y2, y3) _ _ _ _ _ _ (Nat.le_of_ble_eq_true rfl) (Nat.le_of_ble_eq_true rfl) dX1_init_37 (trivial) hP hD hS
def rmX1_sumOfAtLeast : Room := { frames := 2, cells := 0, slots := 0, locals := 51 }
set_option maxHeartbeats 4000000 in
set_option maxRecDepth 100000 in
theorem c_X1_sumOfAtLeast (l : Launch) (D : va_G) (cI cJ : ClassId) (h0 hs hp hm la lb : Nat) (g1 g2 : Nat → Nat) (u1 u2 n k a b : Nat) (hn : n ≤ 30) (hk : k ≤ n) (ha : a ≤ 1000) (hb0 : b ≤ 1000) : Cv l D vwCl (tyT cI cJ) yX1_sumOfAtLeast wsX1_sumOfAtLeast rmX1_sumOfAtLeast [.ref h0, .int (iZ ((n : Nat) : Int)), .int (iZ ((k : Nat) : Int)), .int (iZ ((a : Nat) : Int)), .int (iZ ((b : Nat) : Int))] [(h0, .inr (1, [.ref hs, .ref hp, .ref hm])), (hs, .inr (8, [.ref la, .int (iZ ((u1 : Nat) : Int))])), (la, .inl (cJ, 14, .inr (.inl (LJ g1)))), (hp, .inr (8, [.ref lb, .int (iZ ((u2 : Nat) : Int))])), (lb, .inl (cJ, 14, .inr (.inl (LJ g2))))] (((Nat → Nat) × Nat) × ((Nat → Nat) × Nat)) (fun r => wok r.1.1 r.1.2 (hoA n k a b)) (fun r => [(h0, .inr (1, [.ref hs, .ref hp, .ref hm])), (hs, .inr (8, [.ref la, .int (iZ ((r.1.2 : Nat) : Int))])), (la, .inl (cJ, 14, .inr (.inl (LJ r.1.1)))), (hp, .inr (8, [.ref lb, .int (iZ ((r.2.2 : Nat) : Int))])), (lb, .inl (cJ, 14, .inr (.inl (LJ r.2.1))))]) := by
  refine en_v (cc := cX1_sumOfAtLeast) (maxL := 8) (by decide) rfl [(0, .ref h0), (1, .int (iZ ((n : Nat) : Int))), (2, .int (iZ ((k : Nat) : Int))), (3, .int (iZ ((a : Nat) : Int))), (4, .int (iZ ((b : Nat) : Int)))] (Nat.le_of_ble_eq_true rfl) rfl ?_
  intro p e s m args below meth c Q A hx hb hml hown hts hnm hK hP hD hA hS hret ls hl
  have hh_0 := hts (.fieldLink RX1 10 "BoundDraws$Hits" "sum" "LBoundDraws$Wide;") (by decide +kernel)
  have hh_1 := (show ∀ w ∈ wsX10, w ∈ wsX1_sumOfAtLeast by decide +kernel)
  have hh_2 := hts (.fieldLink RX1 16 "BoundDraws$Hits" "power" "LBoundDraws$Wide;") (by decide +kernel)
  refine lv_aload_n hx hb dX1_sumOfAtLeast_0 rfl (lv_at hl 0 rfl) ?_
  refine va_get (D := D) (ci := 1) (v := .ref hs) (C := RX1) (T := TX1) (N := 3) hx hb hts hh_1 hown hK hP 0 rfl rfl 0 (by decide) hh_0 (fun _ h9 => h9) rfl dX1_sumOfAtLeast_1 ?_
  refine zc_lconst (z := ((0 : Nat) : Int)) hx hb dX1_sumOfAtLeast_4 (by decide) ?_
  refine ca_vV [.long (lZ ((0 : Nat) : Int))] [] [(h0, .inr (1, [.ref hs, .ref hp, .ref hm])), (hp, .inr (8, [.ref lb, .int (iZ ((u2 : Nat) : Int))])), (lb, .inl (cJ, 14, .inr (.inl (LJ g2))))] 0 0 ⟨hx, hb, hml, hown, hts⟩ (c_X9_become l D cI cJ hs la g1 u1 0 (by decide)) (cwV 1 hts gX1_sumOfAtLeast_X9_become rfl rfl rfl (by decide +kernel) ⟨(Nat.le_of_ble_eq_true rfl), (Nat.le_of_ble_eq_true rfl)⟩) hK hP hD hS hA [1, 2] [0, 3, 4] rfl rfl rfl rfl (by decide) 0 rfl rfl rfl hl.1 rfl (Nat.le_of_ble_eq_true rfl) dX1_sumOfAtLeast_5 ⟨(Nat.le_of_ble_eq_true rfl), (Nat.le_of_ble_eq_true rfl)⟩ (Nat.le_of_ble_eq_true rfl) (Nat.le_of_ble_eq_true rfl) (fun gA H locs hw hP hD hS => ?_)
  try dsimp only at hw
  have hw1 := hw
  have hP : va_P D vwCl [(h0, .inr (1, [.ref hs, .ref hp, .ref hm])), (hp, .inr (8, [.ref lb, .int (iZ ((u2 : Nat) : Int))])), (lb, .inl (cJ, 14, .inr (.inl (LJ g2)))), (hs, .inr (8, [.ref la, .int (iZ ((2 : Nat) : Int))])), (la, .inl (cJ, 14, .inr (.inl (LJ gA))))] H := hP
  have hD : va_D A [(h0, .inr (1, [.ref hs, .ref hp, .ref hm])), (hp, .inr (8, [.ref lb, .int (iZ ((u2 : Nat) : Int))])), (lb, .inl (cJ, 14, .inr (.inl (LJ g2)))), (hs, .inr (8, [.ref la, .int (iZ ((2 : Nat) : Int))])), (la, .inl (cJ, 14, .inr (.inl (LJ gA))))] := hD
  refine lv_aload_n hx hb dX1_sumOfAtLeast_8 rfl (lv_at hl 0 rfl) ?_
  refine va_get (D := D) (ci := 1) (v := .ref hp) (C := RX1) (T := TX1) (N := 3) hx hb hts hh_1 hown hK hP 0 rfl rfl 1 (by decide) hh_2 (fun _ h9 => h9) rfl dX1_sumOfAtLeast_9 ?_
  refine zc_lconst (z := ((1 : Nat) : Int)) hx hb dX1_sumOfAtLeast_12 (by decide) ?_
  refine ca_vV [.long (lZ ((1 : Nat) : Int))] [] [(h0, .inr (1, [.ref hs, .ref hp, .ref hm])), (hs, .inr (8, [.ref la, .int (iZ ((2 : Nat) : Int))])), (la, .inl (cJ, 14, .inr (.inl (LJ gA))))] 0 0 ⟨hx, hb, hml, hown, hts⟩ (c_X9_become l D cI cJ hp lb g2 u2 1 (by decide)) (cwV 1 hts gX1_sumOfAtLeast_X9_become rfl rfl rfl (by decide +kernel) ⟨(Nat.le_of_ble_eq_true rfl), (Nat.le_of_ble_eq_true rfl)⟩) hK hP hD hS hA [1, 2] [0, 3, 4] rfl rfl rfl rfl (by decide) 0 rfl rfl rfl hl.1 rfl (Nat.le_of_ble_eq_true rfl) dX1_sumOfAtLeast_13 ⟨(Nat.le_of_ble_eq_true rfl), (Nat.le_of_ble_eq_true rfl)⟩ (Nat.le_of_ble_eq_true rfl) (Nat.le_of_ble_eq_true rfl) (fun gB H locs hw hP hD hS => ?_)
  try dsimp only at hw
  have hw2 := hw
  have hP : va_P D vwCl [(h0, .inr (1, [.ref hs, .ref hp, .ref hm])), (hs, .inr (8, [.ref la, .int (iZ ((2 : Nat) : Int))])), (la, .inl (cJ, 14, .inr (.inl (LJ gA)))), (hp, .inr (8, [.ref lb, .int (iZ ((2 : Nat) : Int))])), (lb, .inl (cJ, 14, .inr (.inl (LJ gB))))] H := hP
  have hD : va_D A [(h0, .inr (1, [.ref hs, .ref hp, .ref hm])), (hs, .inr (8, [.ref la, .int (iZ ((2 : Nat) : Int))])), (la, .inl (cJ, 14, .inr (.inl (LJ gA)))), (hp, .inr (8, [.ref lb, .int (iZ ((2 : Nat) : Int))])), (lb, .inl (cJ, 14, .inr (.inl (LJ gB))))] := hD
  refine zc_lconst (z := ((1 : Nat) : Int)) hx hb dX1_sumOfAtLeast_16 (by decide) ?_
  refine tp_l (y := (lZ ((ch n 0 : Nat) : Int))) (by rw [ch_0]) ?_
  refine lv_lstore (lv' := [(5, .long (lZ ((ch n 0 : Nat) : Int))), (0, .ref h0), (1, .int (iZ ((n : Nat) : Int))), (2, .int (iZ ((k : Nat) : Int))), (3, .int (iZ ((a : Nat) : Int))), (4, .int (iZ ((b : Nat) : Int)))]) hx hb dX1_sumOfAtLeast_17 hl (by decide) rfl (fun ls hl => ?_)
  refine zc_iconst (z := ((0 : Nat) : Int)) hx hb dX1_sumOfAtLeast_19 (by decide) ?_
  refine lv_istore (lv' := [(7, .int (iZ ((0 : Nat) : Int))), (5, .long (lZ ((ch n 0 : Nat) : Int))), (0, .ref h0), (1, .int (iZ ((n : Nat) : Int))), (2, .int (iZ ((k : Nat) : Int))), (3, .int (iZ ((a : Nat) : Int))), (4, .int (iZ ((b : Nat) : Int)))]) hx hb dX1_sumOfAtLeast_20 hl (by decide) rfl (fun ls hl => ?_)
  have pt_22 : ∀ f : Nat, ∀ (j u1 u2 : Nat) (g1 g2 : Nat → Nat), (hj : j ≤ n - k + 1) → (h1 : wok g1 u1 (hoS n a b j)) → (h2 : wok g2 u2 (b ^ j)) → (hf : n - k + 1 < j + f) → (H : Heap) → (locs : List Loc) → va_P D vwCl [(h0, .inr (1, [.ref hs, .ref hp, .ref hm])), (hs, .inr (8, [.ref la, .int (iZ ((u1 : Nat) : Int))])), (la, .inl (cJ, 14, .inr (.inl (LJ g1)))), (hp, .inr (8, [.ref lb, .int (iZ ((u2 : Nat) : Int))])), (lb, .inl (cJ, 14, .inr (.inl (LJ g2))))] H → va_D A [(h0, .inr (1, [.ref hs, .ref hp, .ref hm])), (hs, .inr (8, [.ref la, .int (iZ ((u1 : Nat) : Int))])), (la, .inl (cJ, 14, .inr (.inl (LJ g1)))), (hp, .inr (8, [.ref lb, .int (iZ ((u2 : Nat) : Int))])), (lb, .inl (cJ, 14, .inr (.inl (LJ g2))))] → va_S A s.heap H locs → (ls : Array Slot) → lv_has ls 8 [(7, .int (iZ ((j : Nat) : Int))), (5, .long (lZ ((ch n j : Nat) : Int))), (0, .ref h0), (1, .int (iZ ((n : Nat) : Int))), (2, .int (iZ ((k : Nat) : Int))), (3, .int (iZ ((a : Nat) : Int))), (4, .int (iZ ((b : Nat) : Int)))] → W p l e rmX1_sumOfAtLeast s m args below meth c H locs 0 0 Q (F0 m 22 ls []) := by
    intro f
    induction f with
    | zero =>
      intro j u1 u2 g1 g2 hj h1 h2 hf H locs hP hD hS ls hl
      exfalso; omega
    | succ f ih =>
      intro j u1 u2 g1 g2 hj h1 h2 hf H locs hP hD hS ls hl
      refine lv_iload hx hb dX1_sumOfAtLeast_22 (lv_at hl 0 rfl) ?_
      refine lv_iload_n hx hb dX1_sumOfAtLeast_24 rfl (lv_at hl 3 rfl) ?_
      refine lv_iload_n hx hb dX1_sumOfAtLeast_25 rfl (lv_at hl 4 rfl) ?_
      refine zi_sub (z := ((n - k : Nat) : Int)) hx hb dX1_sumOfAtLeast_26 (by omega) ?_
      refine zb_icmp_gt (x := ((j : Nat) : Int)) (y := ((n - k : Nat) : Int)) (tgt := 84) hx hb dX1_sumOfAtLeast_27 (by decide) ⟨by omega, by omega⟩ ⟨by omega, by omega⟩ (fun c_27 => ?_) (fun c_27 => ?_)
      · have e9 : j = n - k + 1 := by omega
        refine lv_aload_n hx hb dX1_sumOfAtLeast_84 rfl (lv_at hl 2 rfl) ?_
        refine va_get (D := D) (ci := 1) (v := .ref hs) (C := RX1) (T := TX1) (N := 3) hx hb hts hh_1 hown hK hP 0 rfl rfl 0 (by decide) hh_0 (fun _ h9 => h9) rfl dX1_sumOfAtLeast_85 ?_
        refine lv_iload_n hx hb dX1_sumOfAtLeast_88 rfl (lv_at hl 5 rfl) ?_
        refine z_i2l (z := ((a : Nat) : Int)) hx hb dX1_sumOfAtLeast_89 ⟨by omega, by omega⟩ rfl ?_
        refine lv_iload_n hx hb dX1_sumOfAtLeast_90 rfl (lv_at hl 4 rfl) ?_
        refine ca_vV [.long (lZ ((a : Nat) : Int)), .int (iZ ((k : Nat) : Int))] [] [(h0, .inr (1, [.ref hs, .ref hp, .ref hm])), (hp, .inr (8, [.ref lb, .int (iZ ((u2 : Nat) : Int))])), (lb, .inl (cJ, 14, .inr (.inl (LJ g2))))] 0 0 ⟨hx, hb, hml, hown, hts⟩ (c_X9_multiplyOften l D cI cJ hs la g1 u1 (hoS n a b j) a k h1 (by omega) (by omega) (by rw [e9]; exact hoA_b1 hn hk ha hb0)) (cwV 2 hts gX1_sumOfAtLeast_X9_multiplyOften rfl rfl rfl (by decide +kernel) ⟨(Nat.le_of_ble_eq_true rfl), (Nat.le_of_ble_eq_true rfl)⟩) hK hP hD hS hA [1, 2] [0, 3, 4] rfl rfl rfl rfl (by decide) 0 rfl rfl rfl hl.1 rfl (Nat.le_of_ble_eq_true rfl) dX1_sumOfAtLeast_91 ⟨(Nat.le_of_ble_eq_true rfl), (Nat.le_of_ble_eq_true rfl)⟩ (Nat.le_of_ble_eq_true rfl) (Nat.le_of_ble_eq_true rfl) (fun u9 H locs hw hP hD hS => ?_)
        obtain ⟨g4, u4⟩ := u9
        try dsimp only at hw
        have hw3 := hw
        have hP : va_P D vwCl [(h0, .inr (1, [.ref hs, .ref hp, .ref hm])), (hp, .inr (8, [.ref lb, .int (iZ ((u2 : Nat) : Int))])), (lb, .inl (cJ, 14, .inr (.inl (LJ g2)))), (hs, .inr (8, [.ref la, .int (iZ ((u4 : Nat) : Int))])), (la, .inl (cJ, 14, .inr (.inl (LJ g4))))] H := hP
        have hD : va_D A [(h0, .inr (1, [.ref hs, .ref hp, .ref hm])), (hp, .inr (8, [.ref lb, .int (iZ ((u2 : Nat) : Int))])), (lb, .inl (cJ, 14, .inr (.inl (LJ g2)))), (hs, .inr (8, [.ref la, .int (iZ ((u4 : Nat) : Int))])), (la, .inl (cJ, 14, .inr (.inl (LJ g4))))] := hD
        exact hret ((g4, u4), (g2, u2)) _ _ _ _ _ _ (Nat.le_of_ble_eq_true rfl) (Nat.le_of_ble_eq_true rfl) dX1_sumOfAtLeast_94 (by rw [e9] at hw3; exact hw3) (hP.sub [0, 3, 4, 1, 2] rfl) (hD.sub [0, 3, 4, 1, 2] rfl rfl) hS
      · refine lv_aload_n hx hb dX1_sumOfAtLeast_30 rfl (lv_at hl 2 rfl) ?_
        refine va_get (D := D) (ci := 1) (v := .ref hs) (C := RX1) (T := TX1) (N := 3) hx hb hts hh_1 hown hK hP 0 rfl rfl 0 (by decide) hh_0 (fun _ h9 => h9) rfl dX1_sumOfAtLeast_31 ?_
        refine lv_iload_n hx hb dX1_sumOfAtLeast_34 rfl (lv_at hl 5 rfl) ?_
        refine z_i2l (z := ((a : Nat) : Int)) hx hb dX1_sumOfAtLeast_35 ⟨by omega, by omega⟩ rfl ?_
        refine ca_vV [.long (lZ ((a : Nat) : Int))] [] [(h0, .inr (1, [.ref hs, .ref hp, .ref hm])), (hp, .inr (8, [.ref lb, .int (iZ ((u2 : Nat) : Int))])), (lb, .inl (cJ, 14, .inr (.inl (LJ g2))))] 0 0 ⟨hx, hb, hml, hown, hts⟩ (c_X9_multiply l D cI cJ hs la g1 u1 (hoS n a b j) a h1 (by omega) (hoS_m hn ha hb0 (by omega) ha)) (cwV 1 hts gX1_sumOfAtLeast_X9_multiply rfl rfl rfl (by decide +kernel) ⟨(Nat.le_of_ble_eq_true rfl), (Nat.le_of_ble_eq_true rfl)⟩) hK hP hD hS hA [1, 2] [0, 3, 4] rfl rfl rfl rfl (by decide) 0 rfl rfl rfl hl.1 rfl (Nat.le_of_ble_eq_true rfl) dX1_sumOfAtLeast_36 ⟨(Nat.le_of_ble_eq_true rfl), (Nat.le_of_ble_eq_true rfl)⟩ (Nat.le_of_ble_eq_true rfl) (Nat.le_of_ble_eq_true rfl) (fun u9 H locs hw hP hD hS => ?_)
        obtain ⟨g4, u4⟩ := u9
        try dsimp only at hw
        have hw3 := hw
        have hP : va_P D vwCl [(h0, .inr (1, [.ref hs, .ref hp, .ref hm])), (hp, .inr (8, [.ref lb, .int (iZ ((u2 : Nat) : Int))])), (lb, .inl (cJ, 14, .inr (.inl (LJ g2)))), (hs, .inr (8, [.ref la, .int (iZ ((u4 : Nat) : Int))])), (la, .inl (cJ, 14, .inr (.inl (LJ g4))))] H := hP
        have hD : va_D A [(h0, .inr (1, [.ref hs, .ref hp, .ref hm])), (hp, .inr (8, [.ref lb, .int (iZ ((u2 : Nat) : Int))])), (lb, .inl (cJ, 14, .inr (.inl (LJ g2)))), (hs, .inr (8, [.ref la, .int (iZ ((u4 : Nat) : Int))])), (la, .inl (cJ, 14, .inr (.inl (LJ g4))))] := hD
        refine lv_aload_n hx hb dX1_sumOfAtLeast_39 rfl (lv_at hl 2 rfl) ?_
        refine va_get (D := D) (ci := 1) (v := .ref hs) (C := RX1) (T := TX1) (N := 3) hx hb hts hh_1 hown hK hP 0 rfl rfl 0 (by decide) hh_0 (fun _ h9 => h9) rfl dX1_sumOfAtLeast_40 ?_
        refine lv_aload_n hx hb dX1_sumOfAtLeast_43 rfl (lv_at hl 2 rfl) ?_
        refine va_get (D := D) (ci := 1) (v := .ref hp) (C := RX1) (T := TX1) (N := 3) hx hb hts hh_1 hown hK hP 0 rfl rfl 1 (by decide) hh_2 (fun _ h9 => h9) rfl dX1_sumOfAtLeast_44 ?_
        refine lv_lload hx hb dX1_sumOfAtLeast_47 (lv_at hl 1 rfl) ?_
        refine ca_vV [.ref hp, .long (lZ ((ch n j : Nat) : Int))] [] [(h0, .inr (1, [.ref hs, .ref hp, .ref hm]))] 0 0 ⟨hx, hb, hml, hown, hts⟩ (c_X9_addTimes l D cI cJ hs la hp lb g4 g2 u4 (hoS n a b j * a) u2 (b ^ j) (ch n j) hw3 h2 (by have := ch_b30 (n := n) (k := j) hn; omega) (hoS_a hn ha hb0 (by omega))) (cwV 2 hts gX1_sumOfAtLeast_X9_addTimes rfl rfl rfl (by decide +kernel) ⟨(Nat.le_of_ble_eq_true rfl), (Nat.le_of_ble_eq_true rfl)⟩) hK hP hD hS hA [3, 4, 1, 2] [0] rfl rfl rfl rfl (by decide) 0 rfl rfl rfl hl.1 rfl (Nat.le_of_ble_eq_true rfl) dX1_sumOfAtLeast_49 ⟨(Nat.le_of_ble_eq_true rfl), (Nat.le_of_ble_eq_true rfl)⟩ (Nat.le_of_ble_eq_true rfl) (Nat.le_of_ble_eq_true rfl) (fun u9 H locs hw hP hD hS => ?_)
        obtain ⟨g5, u5⟩ := u9
        try dsimp only at hw
        have hw4 := hw
        have hP : va_P D vwCl [(h0, .inr (1, [.ref hs, .ref hp, .ref hm])), (hs, .inr (8, [.ref la, .int (iZ ((u5 : Nat) : Int))])), (la, .inl (cJ, 14, .inr (.inl (LJ g5)))), (hp, .inr (8, [.ref lb, .int (iZ ((u2 : Nat) : Int))])), (lb, .inl (cJ, 14, .inr (.inl (LJ g2))))] H := hP
        have hD : va_D A [(h0, .inr (1, [.ref hs, .ref hp, .ref hm])), (hs, .inr (8, [.ref la, .int (iZ ((u5 : Nat) : Int))])), (la, .inl (cJ, 14, .inr (.inl (LJ g5)))), (hp, .inr (8, [.ref lb, .int (iZ ((u2 : Nat) : Int))])), (lb, .inl (cJ, 14, .inr (.inl (LJ g2))))] := hD
        refine lv_aload_n hx hb dX1_sumOfAtLeast_52 rfl (lv_at hl 2 rfl) ?_
        refine va_get (D := D) (ci := 1) (v := .ref hp) (C := RX1) (T := TX1) (N := 3) hx hb hts hh_1 hown hK hP 0 rfl rfl 1 (by decide) hh_2 (fun _ h9 => h9) rfl dX1_sumOfAtLeast_53 ?_
        refine lv_iload hx hb dX1_sumOfAtLeast_56 (lv_at hl 6 rfl) ?_
        refine z_i2l (z := ((b : Nat) : Int)) hx hb dX1_sumOfAtLeast_58 ⟨by omega, by omega⟩ rfl ?_
        refine ca_vV [.long (lZ ((b : Nat) : Int))] [] [(h0, .inr (1, [.ref hs, .ref hp, .ref hm])), (hs, .inr (8, [.ref la, .int (iZ ((u5 : Nat) : Int))])), (la, .inl (cJ, 14, .inr (.inl (LJ g5))))] 0 0 ⟨hx, hb, hml, hown, hts⟩ (c_X9_multiply l D cI cJ hp lb g2 u2 (b ^ j) b h2 (by omega) (pow_b hb0 (by omega) hb0)) (cwV 1 hts gX1_sumOfAtLeast_X9_multiply rfl rfl rfl (by decide +kernel) ⟨(Nat.le_of_ble_eq_true rfl), (Nat.le_of_ble_eq_true rfl)⟩) hK hP hD hS hA [3, 4] [0, 1, 2] rfl rfl rfl rfl (by decide) 0 rfl rfl rfl hl.1 rfl (Nat.le_of_ble_eq_true rfl) dX1_sumOfAtLeast_59 ⟨(Nat.le_of_ble_eq_true rfl), (Nat.le_of_ble_eq_true rfl)⟩ (Nat.le_of_ble_eq_true rfl) (Nat.le_of_ble_eq_true rfl) (fun u9 H locs hw hP hD hS => ?_)
        obtain ⟨g6, u6⟩ := u9
        try dsimp only at hw
        have hw5 := hw
        have hP : va_P D vwCl [(h0, .inr (1, [.ref hs, .ref hp, .ref hm])), (hs, .inr (8, [.ref la, .int (iZ ((u5 : Nat) : Int))])), (la, .inl (cJ, 14, .inr (.inl (LJ g5)))), (hp, .inr (8, [.ref lb, .int (iZ ((u6 : Nat) : Int))])), (lb, .inl (cJ, 14, .inr (.inl (LJ g6))))] H := hP
        have hD : va_D A [(h0, .inr (1, [.ref hs, .ref hp, .ref hm])), (hs, .inr (8, [.ref la, .int (iZ ((u5 : Nat) : Int))])), (la, .inl (cJ, 14, .inr (.inl (LJ g5)))), (hp, .inr (8, [.ref lb, .int (iZ ((u6 : Nat) : Int))])), (lb, .inl (cJ, 14, .inr (.inl (LJ g6))))] := hD
        refine lv_lload hx hb dX1_sumOfAtLeast_62 (lv_at hl 1 rfl) ?_
        refine lv_iload_n hx hb dX1_sumOfAtLeast_64 rfl (lv_at hl 3 rfl) ?_
        refine lv_iload hx hb dX1_sumOfAtLeast_65 (lv_at hl 0 rfl) ?_
        refine zi_sub (z := ((n - j : Nat) : Int)) hx hb dX1_sumOfAtLeast_67 (by omega) ?_
        refine z_i2l (z := ((n - j : Nat) : Int)) hx hb dX1_sumOfAtLeast_68 ⟨by omega, by omega⟩ rfl ?_
        refine zl_mul (z := ((ch n j * (n - j) : Nat) : Int)) hx hb dX1_sumOfAtLeast_69 (Int.natCast_mul _ _).symm ?_
        refine lv_iload hx hb dX1_sumOfAtLeast_70 (lv_at hl 0 rfl) ?_
        refine zc_iconst (z := ((1 : Nat) : Int)) hx hb dX1_sumOfAtLeast_72 (by decide) ?_
        refine zi_add (z := ((j + 1 : Nat) : Int)) hx hb dX1_sumOfAtLeast_73 (by omega) ?_
        refine z_i2l (z := ((j + 1 : Nat) : Int)) hx hb dX1_sumOfAtLeast_74 ⟨by omega, by omega⟩ rfl ?_
        refine zl_div (z := ((ch n (j + 1) : Nat) : Int)) hx hb dX1_sumOfAtLeast_75 (by omega) (by have h8 := ch_b (n := n) (k := j + 1) (by omega); rw [ch_mul] at h8; omega) (by omega) (by omega) ch_stepZ ?_
        refine lv_lstore (lv' := [(5, .long (lZ ((ch n (j + 1) : Nat) : Int))), (7, .int (iZ ((j : Nat) : Int))), (0, .ref h0), (1, .int (iZ ((n : Nat) : Int))), (2, .int (iZ ((k : Nat) : Int))), (3, .int (iZ ((a : Nat) : Int))), (4, .int (iZ ((b : Nat) : Int)))]) hx hb dX1_sumOfAtLeast_76 hl (by decide) rfl (fun ls hl => ?_)
        refine lv_iinc (v := iZ ((j + 1 : Nat) : Int)) (lv' := [(7, .int (iZ ((j + 1 : Nat) : Int))), (5, .long (lZ ((ch n (j + 1) : Nat) : Int))), (0, .ref h0), (1, .int (iZ ((n : Nat) : Int))), (2, .int (iZ ((k : Nat) : Int))), (3, .int (iZ ((a : Nat) : Int))), (4, .int (iZ ((b : Nat) : Int)))]) hx hb dX1_sumOfAtLeast_78 hl (k := 1) rfl (zi_inc (by omega)) (by decide) rfl (fun ls hl => ?_)
        refine lv_goto (tgt := 22) hx hb dX1_sumOfAtLeast_81 (by decide) ?_
        exact ih (j + 1) _ _ _ _ (by omega) hw4 (by rw [Nat.pow_succ]; exact hw5) (by omega) _ _ hP hD hS ls (lv_sub hl [0, 1, 2, 3, 4, 5, 6] rfl)
  exact pt_22 (n - k + 2) 0 _ _ _ _ (by omega) hw1 (by rw [Nat.pow_zero]; exact hw2) (by omega) _ _ hP hD hS ls (lv_sub hl [0, 1, 2, 3, 4, 5, 6] rfl)
def rmX1_sumUp : Room := { frames := 3, cells := 0, slots := 0, locals := 78 }
set_option maxHeartbeats 4000000 in
set_option maxRecDepth 100000 in
theorem c_X1_sumUp (l : Launch) (D : va_G) (cI cJ : ClassId) (h0 hs hp hm la lb : Nat) (g1 g2 : Nat → Nat) (u1 u2 n k up down side : Nat) (hn : n ≤ 30) (hk : k ≤ n) (hd : down ≤ 1000) (hu : up ≤ down) (hsd : side ≤ 1) : Cv l D vwCl (tyT cI cJ) yX1_sumUp wsX1_sumUp rmX1_sumUp [.ref h0, .int (iZ ((n : Nat) : Int)), .int (iZ ((k : Nat) : Int)), .int (iZ ((up : Nat) : Int)), .int (iZ ((down : Nat) : Int)), .int (iZ ((side : Nat) : Int))] [(h0, .inr (1, [.ref hs, .ref hp, .ref hm])), (hs, .inr (8, [.ref la, .int (iZ ((u1 : Nat) : Int))])), (la, .inl (cJ, 14, .inr (.inl (LJ g1)))), (hp, .inr (8, [.ref lb, .int (iZ ((u2 : Nat) : Int))])), (lb, .inl (cJ, 14, .inr (.inl (LJ g2))))] (((Nat → Nat) × Nat) × ((Nat → Nat) × Nat)) (fun r => wok r.1.1 r.1.2 (habv n k up down side)) (fun r => [(h0, .inr (1, [.ref hs, .ref hp, .ref hm])), (hs, .inr (8, [.ref la, .int (iZ ((r.1.2 : Nat) : Int))])), (la, .inl (cJ, 14, .inr (.inl (LJ r.1.1)))), (hp, .inr (8, [.ref lb, .int (iZ ((r.2.2 : Nat) : Int))])), (lb, .inl (cJ, 14, .inr (.inl (LJ r.2.1))))]) := by
  refine en_v (cc := cX1_sumUp) (maxL := 6) (by decide) rfl [(0, .ref h0), (1, .int (iZ ((n : Nat) : Int))), (2, .int (iZ ((k : Nat) : Int))), (3, .int (iZ ((up : Nat) : Int))), (4, .int (iZ ((down : Nat) : Int))), (5, .int (iZ ((side : Nat) : Int)))] (Nat.le_of_ble_eq_true rfl) rfl ?_
  intro p e s m args below meth c Q A hx hb hml hown hts hnm hK hP hD hA hS hret ls hl
  refine lv_iload hx hb dX1_sumUp_0 (lv_at hl 5 rfl) ?_
  refine zb_if_ne (x := ((side : Nat) : Int)) (tgt := 19) hx hb dX1_sumUp_2 (by decide) ⟨by omega, by omega⟩ (fun c_2 => ?_) (fun c_2 => ?_)
  · refine lv_aload_n hx hb dX1_sumUp_19 rfl (lv_at hl 0 rfl) ?_
    refine lv_iload_n hx hb dX1_sumUp_20 rfl (lv_at hl 1 rfl) ?_
    refine lv_iload_n hx hb dX1_sumUp_21 rfl (lv_at hl 1 rfl) ?_
    refine lv_iload_n hx hb dX1_sumUp_22 rfl (lv_at hl 2 rfl) ?_
    refine zi_sub (z := ((n - k : Nat) : Int)) hx hb dX1_sumUp_23 (by omega) ?_
    refine lv_iload hx hb dX1_sumUp_24 (lv_at hl 4 rfl) ?_
    refine lv_iload_n hx hb dX1_sumUp_26 rfl (lv_at hl 3 rfl) ?_
    refine zi_sub (z := ((down - up : Nat) : Int)) hx hb dX1_sumUp_27 (by omega) ?_
    refine lv_iload_n hx hb dX1_sumUp_28 rfl (lv_at hl 3 rfl) ?_
    refine ca_vV [.int (iZ ((n : Nat) : Int)), .int (iZ ((n - k : Nat) : Int)), .int (iZ ((down - up : Nat) : Int)), .int (iZ ((up : Nat) : Int))] [] [] 0 0 ⟨hx, hb, hml, hown, hts⟩ (c_X1_sumOfAtLeast l D cI cJ h0 hs hp hm la lb g1 g2 u1 u2 n (n - k) (down - up) up hn (by omega) (by omega) (by omega)) (cwV 4 hts gX1_sumUp_X1_sumOfAtLeast rfl rfl rfl (by decide +kernel) ⟨(Nat.le_of_ble_eq_true rfl), (Nat.le_of_ble_eq_true rfl)⟩) hK hP hD hS hA [0, 1, 2, 3, 4] [] rfl rfl rfl rfl (by decide) 0 rfl rfl rfl hl.1 rfl (Nat.le_of_ble_eq_true rfl) dX1_sumUp_29 ⟨(Nat.le_of_ble_eq_true rfl), (Nat.le_of_ble_eq_true rfl)⟩ (Nat.le_of_ble_eq_true rfl) (Nat.le_of_ble_eq_true rfl) (fun u9 H locs hw hP hD hS => ?_)
    obtain ⟨⟨g4, u4⟩, ⟨g5, u5⟩⟩ := u9
    try dsimp only at hw
    have hP : va_P D vwCl [(h0, .inr (1, [.ref hs, .ref hp, .ref hm])), (hs, .inr (8, [.ref la, .int (iZ ((u4 : Nat) : Int))])), (la, .inl (cJ, 14, .inr (.inl (LJ g4)))), (hp, .inr (8, [.ref lb, .int (iZ ((u5 : Nat) : Int))])), (lb, .inl (cJ, 14, .inr (.inl (LJ g5))))] H := hP
    have hD : va_D A [(h0, .inr (1, [.ref hs, .ref hp, .ref hm])), (hs, .inr (8, [.ref la, .int (iZ ((u4 : Nat) : Int))])), (la, .inl (cJ, 14, .inr (.inl (LJ g4)))), (hp, .inr (8, [.ref lb, .int (iZ ((u5 : Nat) : Int))])), (lb, .inl (cJ, 14, .inr (.inl (LJ g5))))] := hD
    exact hret ((g4, u4), (g5, u5)) _ _ _ _ _ _ (Nat.le_of_ble_eq_true rfl) (Nat.le_of_ble_eq_true rfl) dX1_sumUp_32 (by unfold habv; first | (rw [if_pos (by omega)]; exact hw) | (rw [if_neg (by omega)]; exact hw)) hP hD hS
  · refine lv_aload_n hx hb dX1_sumUp_5 rfl (lv_at hl 0 rfl) ?_
    refine lv_iload_n hx hb dX1_sumUp_6 rfl (lv_at hl 1 rfl) ?_
    refine lv_iload_n hx hb dX1_sumUp_7 rfl (lv_at hl 2 rfl) ?_
    refine lv_iload_n hx hb dX1_sumUp_8 rfl (lv_at hl 3 rfl) ?_
    refine lv_iload hx hb dX1_sumUp_9 (lv_at hl 4 rfl) ?_
    refine lv_iload_n hx hb dX1_sumUp_11 rfl (lv_at hl 3 rfl) ?_
    refine zi_sub (z := ((down - up : Nat) : Int)) hx hb dX1_sumUp_12 (by omega) ?_
    refine ca_vV [.int (iZ ((n : Nat) : Int)), .int (iZ ((k : Nat) : Int)), .int (iZ ((up : Nat) : Int)), .int (iZ ((down - up : Nat) : Int))] [] [] 0 0 ⟨hx, hb, hml, hown, hts⟩ (c_X1_sumOfAtLeast l D cI cJ h0 hs hp hm la lb g1 g2 u1 u2 n k up (down - up) hn hk (by omega) (by omega)) (cwV 4 hts gX1_sumUp_X1_sumOfAtLeast rfl rfl rfl (by decide +kernel) ⟨(Nat.le_of_ble_eq_true rfl), (Nat.le_of_ble_eq_true rfl)⟩) hK hP hD hS hA [0, 1, 2, 3, 4] [] rfl rfl rfl rfl (by decide) 0 rfl rfl rfl hl.1 rfl (Nat.le_of_ble_eq_true rfl) dX1_sumUp_13 ⟨(Nat.le_of_ble_eq_true rfl), (Nat.le_of_ble_eq_true rfl)⟩ (Nat.le_of_ble_eq_true rfl) (Nat.le_of_ble_eq_true rfl) (fun u9 H locs hw hP hD hS => ?_)
    obtain ⟨⟨g4, u4⟩, ⟨g5, u5⟩⟩ := u9
    try dsimp only at hw
    have hP : va_P D vwCl [(h0, .inr (1, [.ref hs, .ref hp, .ref hm])), (hs, .inr (8, [.ref la, .int (iZ ((u4 : Nat) : Int))])), (la, .inl (cJ, 14, .inr (.inl (LJ g4)))), (hp, .inr (8, [.ref lb, .int (iZ ((u5 : Nat) : Int))])), (lb, .inl (cJ, 14, .inr (.inl (LJ g5))))] H := hP
    have hD : va_D A [(h0, .inr (1, [.ref hs, .ref hp, .ref hm])), (hs, .inr (8, [.ref la, .int (iZ ((u4 : Nat) : Int))])), (la, .inl (cJ, 14, .inr (.inl (LJ g4)))), (hp, .inr (8, [.ref lb, .int (iZ ((u5 : Nat) : Int))])), (lb, .inl (cJ, 14, .inr (.inl (LJ g5))))] := hD
    refine lv_goto (tgt := 32) hx hb dX1_sumUp_16 (by decide) ?_
    exact hret ((g4, u4), (g5, u5)) _ _ _ _ _ _ (Nat.le_of_ble_eq_true rfl) (Nat.le_of_ble_eq_true rfl) dX1_sumUp_32 (by unfold habv; first | (rw [if_pos (by omega)]; exact hw) | (rw [if_neg (by omega)]; exact hw)) hP hD hS
def rmX1_limbOfAbove : Room := { frames := 4, cells := 0, slots := 0, locals := 103 }
set_option maxHeartbeats 4000000 in
set_option maxRecDepth 100000 in
theorem c_X1_limbOfAbove (l : Launch) (D : va_G) (cI cJ : ClassId) (h0 hs hp hm la lb : Nat) (g1 g2 : Nat → Nat) (u1 u2 n k up down side : Nat) (hn : n ≤ 30) (hk : k ≤ n) (hd : down ≤ 1000) (hu : up ≤ down) (hsd : side ≤ 1) (i : Nat) (hi : i ≤ 10) : Cl l D vwCl (tyT cI cJ) yX1_limbOfAbove wsX1_limbOfAbove rmX1_limbOfAbove [.ref h0, .int (iZ ((n : Nat) : Int)), .int (iZ ((k : Nat) : Int)), .int (iZ ((up : Nat) : Int)), .int (iZ ((down : Nat) : Int)), .int (iZ ((side : Nat) : Int)), .int (iZ ((i : Nat) : Int))] [(h0, .inr (1, [.ref hs, .ref hp, .ref hm])), (hs, .inr (8, [.ref la, .int (iZ ((u1 : Nat) : Int))])), (la, .inl (cJ, 14, .inr (.inl (LJ g1)))), (hp, .inr (8, [.ref lb, .int (iZ ((u2 : Nat) : Int))])), (lb, .inl (cJ, 14, .inr (.inl (LJ g2))))] (((Nat → Nat) × Nat) × ((Nat → Nat) × Nat)) (fun a _ => a = lZ ((habv n k up down side / B32 ^ i % B32 : Nat) : Int)) (fun r => [(h0, .inr (1, [.ref hs, .ref hp, .ref hm])), (hs, .inr (8, [.ref la, .int (iZ ((r.1.2 : Nat) : Int))])), (la, .inl (cJ, 14, .inr (.inl (LJ r.1.1)))), (hp, .inr (8, [.ref lb, .int (iZ ((r.2.2 : Nat) : Int))])), (lb, .inl (cJ, 14, .inr (.inl (LJ r.2.1))))]) := by
  refine en_l (cc := cX1_limbOfAbove) (maxL := 7) (by decide) rfl [(0, .ref h0), (1, .int (iZ ((n : Nat) : Int))), (2, .int (iZ ((k : Nat) : Int))), (3, .int (iZ ((up : Nat) : Int))), (4, .int (iZ ((down : Nat) : Int))), (5, .int (iZ ((side : Nat) : Int))), (6, .int (iZ ((i : Nat) : Int)))] (Nat.le_of_ble_eq_true rfl) rfl ?_
  intro p e s m args below meth c Q A hx hb hml hown hts hnm hK hP hD hA hS hret ls hl
  have hh_0 := hts (.fieldLink RX1 10 "BoundDraws$Hits" "sum" "LBoundDraws$Wide;") (by decide +kernel)
  have hh_1 := (show ∀ w ∈ wsX10, w ∈ wsX1_limbOfAbove by decide +kernel)
  refine lv_aload_n hx hb dX1_limbOfAbove_0 rfl (lv_at hl 0 rfl) ?_
  refine lv_iload_n hx hb dX1_limbOfAbove_1 rfl (lv_at hl 1 rfl) ?_
  refine lv_iload_n hx hb dX1_limbOfAbove_2 rfl (lv_at hl 2 rfl) ?_
  refine lv_iload_n hx hb dX1_limbOfAbove_3 rfl (lv_at hl 3 rfl) ?_
  refine lv_iload hx hb dX1_limbOfAbove_4 (lv_at hl 4 rfl) ?_
  refine lv_iload hx hb dX1_limbOfAbove_6 (lv_at hl 5 rfl) ?_
  refine ca_vV [.int (iZ ((n : Nat) : Int)), .int (iZ ((k : Nat) : Int)), .int (iZ ((up : Nat) : Int)), .int (iZ ((down : Nat) : Int)), .int (iZ ((side : Nat) : Int))] [] [] 0 0 ⟨hx, hb, hml, hown, hts⟩ (c_X1_sumUp l D cI cJ h0 hs hp hm la lb g1 g2 u1 u2 n k up down side hn hk hd hu hsd) (cwV 5 hts gX1_limbOfAbove_X1_sumUp rfl rfl rfl (by decide +kernel) ⟨(Nat.le_of_ble_eq_true rfl), (Nat.le_of_ble_eq_true rfl)⟩) hK hP hD hS hA [0, 1, 2, 3, 4] [] rfl rfl rfl rfl (by decide) 0 rfl rfl rfl hl.1 rfl (Nat.le_of_ble_eq_true rfl) dX1_limbOfAbove_8 ⟨(Nat.le_of_ble_eq_true rfl), (Nat.le_of_ble_eq_true rfl)⟩ (Nat.le_of_ble_eq_true rfl) (Nat.le_of_ble_eq_true rfl) (fun u9 H locs hw hP hD hS => ?_)
  obtain ⟨⟨g4, u4⟩, ⟨g5, u5⟩⟩ := u9
  try dsimp only at hw
  have hw1 := hw
  have hP : va_P D vwCl [(h0, .inr (1, [.ref hs, .ref hp, .ref hm])), (hs, .inr (8, [.ref la, .int (iZ ((u4 : Nat) : Int))])), (la, .inl (cJ, 14, .inr (.inl (LJ g4)))), (hp, .inr (8, [.ref lb, .int (iZ ((u5 : Nat) : Int))])), (lb, .inl (cJ, 14, .inr (.inl (LJ g5))))] H := hP
  have hD : va_D A [(h0, .inr (1, [.ref hs, .ref hp, .ref hm])), (hs, .inr (8, [.ref la, .int (iZ ((u4 : Nat) : Int))])), (la, .inl (cJ, 14, .inr (.inl (LJ g4)))), (hp, .inr (8, [.ref lb, .int (iZ ((u5 : Nat) : Int))])), (lb, .inl (cJ, 14, .inr (.inl (LJ g5))))] := hD
  refine lv_aload_n hx hb dX1_limbOfAbove_11 rfl (lv_at hl 0 rfl) ?_
  refine va_get (D := D) (ci := 1) (v := .ref hs) (C := RX1) (T := TX1) (N := 3) hx hb hts hh_1 hown hK hP 0 rfl rfl 0 (by decide) hh_0 (fun _ h9 => h9) rfl dX1_limbOfAbove_12 ?_
  refine lv_iload hx hb dX1_limbOfAbove_15 (lv_at hl 6 rfl) ?_
  refine ca_lV [.int (iZ ((i : Nat) : Int))] [] [(h0, .inr (1, [.ref hs, .ref hp, .ref hm])), (hp, .inr (8, [.ref lb, .int (iZ ((u5 : Nat) : Int))])), (lb, .inl (cJ, 14, .inr (.inl (LJ g5))))] 0 0 ⟨hx, hb, hml, hown, hts⟩ (c_X9_limb l D cI cJ hs la g4 u4 (habv n k up down side) i hw1 (by omega)) (cwV 1 hts gX1_limbOfAbove_X9_limb rfl rfl rfl (by decide +kernel) ⟨(Nat.le_of_ble_eq_true rfl), (Nat.le_of_ble_eq_true rfl)⟩) hK hP hD hS hA [1, 2] [0, 3, 4] rfl rfl rfl rfl (by decide) 0 rfl rfl rfl hl.1 rfl (Nat.le_of_ble_eq_true rfl) dX1_limbOfAbove_17 ⟨(Nat.le_of_ble_eq_true rfl), (Nat.le_of_ble_eq_true rfl)⟩ (Nat.le_of_ble_eq_true rfl) (Nat.le_of_ble_eq_true rfl) (fun r_17 u9 H locs hw hP hD hS => ?_)
  obtain u9 := u9
  try dsimp only at hw
  have hP : va_P D vwCl [(h0, .inr (1, [.ref hs, .ref hp, .ref hm])), (hp, .inr (8, [.ref lb, .int (iZ ((u5 : Nat) : Int))])), (lb, .inl (cJ, 14, .inr (.inl (LJ g5)))), (hs, .inr (8, [.ref la, .int (iZ ((u4 : Nat) : Int))])), (la, .inl (cJ, 14, .inr (.inl (LJ g4))))] H := hP
  have hD : va_D A [(h0, .inr (1, [.ref hs, .ref hp, .ref hm])), (hp, .inr (8, [.ref lb, .int (iZ ((u5 : Nat) : Int))])), (lb, .inl (cJ, 14, .inr (.inl (LJ g5)))), (hs, .inr (8, [.ref la, .int (iZ ((u4 : Nat) : Int))])), (la, .inl (cJ, 14, .inr (.inl (LJ g4))))] := hD
  exact hret _ ((g4, u4), (g5, u5)) _ _ _ _ _ _ (Nat.le_of_ble_eq_true rfl) (Nat.le_of_ble_eq_true rfl) dX1_limbOfAbove_20 (hw) (hP.sub [0, 3, 4, 1, 2] rfl) (hD.sub [0, 3, 4, 1, 2] rfl rfl) hS
def rmX1_oddsAgainst : Room := { frames := 4, cells := 0, slots := 0, locals := 103 }
set_option maxHeartbeats 4000000 in
set_option maxRecDepth 100000 in
theorem c_X1_oddsAgainst (l : Launch) (D : va_G) (cI cJ : ClassId) (h0 hs hp hm la lb lc : Nat) (g1 g2 g3 : Nat → Nat) (u1 u2 u3 n k up down side : Nat) (hn : n ≤ 30) (hk : k ≤ n) (hd : down ≤ 1000) (hu : up ≤ down) (hsd : side ≤ 1) (a b : Nat) (hb0 : b ≤ 1000) (ha : a ≤ 1000) : Ci l D vwCl (tyT cI cJ) yX1_oddsAgainst wsX1_oddsAgainst rmX1_oddsAgainst [.ref h0, .int (iZ ((n : Nat) : Int)), .int (iZ ((k : Nat) : Int)), .int (iZ ((up : Nat) : Int)), .int (iZ ((down : Nat) : Int)), .int (iZ ((side : Nat) : Int)), .int (iZ ((a : Nat) : Int)), .int (iZ ((b : Nat) : Int))] [(h0, .inr (1, [.ref hs, .ref hp, .ref hm])), (hs, .inr (8, [.ref la, .int (iZ ((u1 : Nat) : Int))])), (la, .inl (cJ, 14, .inr (.inl (LJ g1)))), (hp, .inr (8, [.ref lb, .int (iZ ((u2 : Nat) : Int))])), (lb, .inl (cJ, 14, .inr (.inl (LJ g2)))), (hm, .inr (8, [.ref lc, .int (iZ ((u3 : Nat) : Int))])), (lc, .inl (cJ, 14, .inr (.inl (LJ g3))))] (((Nat → Nat) × Nat) × ((Nat → Nat) × Nat) × ((Nat → Nat) × Nat)) (fun r _ => r = iZ (cmpZ (habv n k up down side * b) (a * down ^ n))) (fun r => [(h0, .inr (1, [.ref hs, .ref hp, .ref hm])), (hs, .inr (8, [.ref la, .int (iZ ((r.1.2 : Nat) : Int))])), (la, .inl (cJ, 14, .inr (.inl (LJ r.1.1)))), (hp, .inr (8, [.ref lb, .int (iZ ((r.2.1.2 : Nat) : Int))])), (lb, .inl (cJ, 14, .inr (.inl (LJ r.2.1.1)))), (hm, .inr (8, [.ref lc, .int (iZ ((r.2.2.2 : Nat) : Int))])), (lc, .inl (cJ, 14, .inr (.inl (LJ r.2.2.1))))]) := by
  refine en_i (cc := cX1_oddsAgainst) (maxL := 8) (by decide) rfl [(0, .ref h0), (1, .int (iZ ((n : Nat) : Int))), (2, .int (iZ ((k : Nat) : Int))), (3, .int (iZ ((up : Nat) : Int))), (4, .int (iZ ((down : Nat) : Int))), (5, .int (iZ ((side : Nat) : Int))), (6, .int (iZ ((a : Nat) : Int))), (7, .int (iZ ((b : Nat) : Int)))] (Nat.le_of_ble_eq_true rfl) rfl ?_
  intro p e s m args below meth c Q A hx hb hml hown hts hnm hK hP hD hA hS hret ls hl
  have hh_0 := hts (.fieldLink RX1 19 "BoundDraws$Hits" "measure" "LBoundDraws$Wide;") (by decide +kernel)
  have hh_1 := (show ∀ w ∈ wsX10, w ∈ wsX1_oddsAgainst by decide +kernel)
  have hh_2 := hts (.fieldLink RX1 10 "BoundDraws$Hits" "sum" "LBoundDraws$Wide;") (by decide +kernel)
  refine lv_aload_n hx hb dX1_oddsAgainst_0 rfl (lv_at hl 0 rfl) ?_
  refine va_get (D := D) (ci := 1) (v := .ref hm) (C := RX1) (T := TX1) (N := 3) hx hb hts hh_1 hown hK hP 0 rfl rfl 2 (by decide) hh_0 (fun _ h9 => h9) rfl dX1_oddsAgainst_1 ?_
  refine lv_iload hx hb dX1_oddsAgainst_4 (lv_at hl 6 rfl) ?_
  refine z_i2l (z := ((a : Nat) : Int)) hx hb dX1_oddsAgainst_6 ⟨by omega, by omega⟩ rfl ?_
  refine ca_vV [.long (lZ ((a : Nat) : Int))] [] [(h0, .inr (1, [.ref hs, .ref hp, .ref hm])), (hs, .inr (8, [.ref la, .int (iZ ((u1 : Nat) : Int))])), (la, .inl (cJ, 14, .inr (.inl (LJ g1)))), (hp, .inr (8, [.ref lb, .int (iZ ((u2 : Nat) : Int))])), (lb, .inl (cJ, 14, .inr (.inl (LJ g2))))] 0 0 ⟨hx, hb, hml, hown, hts⟩ (c_X9_become l D cI cJ hm lc g3 u3 a (by omega)) (cwV 1 hts gX1_oddsAgainst_X9_become rfl rfl rfl (by decide +kernel) ⟨(Nat.le_of_ble_eq_true rfl), (Nat.le_of_ble_eq_true rfl)⟩) hK hP hD hS hA [5, 6] [0, 1, 2, 3, 4] rfl rfl rfl rfl (by decide) 0 rfl rfl rfl hl.1 rfl (Nat.le_of_ble_eq_true rfl) dX1_oddsAgainst_7 ⟨(Nat.le_of_ble_eq_true rfl), (Nat.le_of_ble_eq_true rfl)⟩ (Nat.le_of_ble_eq_true rfl) (Nat.le_of_ble_eq_true rfl) (fun gA H locs hw hP hD hS => ?_)
  try dsimp only at hw
  have hw1 := hw
  have hP : va_P D vwCl [(h0, .inr (1, [.ref hs, .ref hp, .ref hm])), (hs, .inr (8, [.ref la, .int (iZ ((u1 : Nat) : Int))])), (la, .inl (cJ, 14, .inr (.inl (LJ g1)))), (hp, .inr (8, [.ref lb, .int (iZ ((u2 : Nat) : Int))])), (lb, .inl (cJ, 14, .inr (.inl (LJ g2)))), (hm, .inr (8, [.ref lc, .int (iZ ((2 : Nat) : Int))])), (lc, .inl (cJ, 14, .inr (.inl (LJ gA))))] H := hP
  have hD : va_D A [(h0, .inr (1, [.ref hs, .ref hp, .ref hm])), (hs, .inr (8, [.ref la, .int (iZ ((u1 : Nat) : Int))])), (la, .inl (cJ, 14, .inr (.inl (LJ g1)))), (hp, .inr (8, [.ref lb, .int (iZ ((u2 : Nat) : Int))])), (lb, .inl (cJ, 14, .inr (.inl (LJ g2)))), (hm, .inr (8, [.ref lc, .int (iZ ((2 : Nat) : Int))])), (lc, .inl (cJ, 14, .inr (.inl (LJ gA))))] := hD
  refine lv_aload_n hx hb dX1_oddsAgainst_10 rfl (lv_at hl 0 rfl) ?_
  refine va_get (D := D) (ci := 1) (v := .ref hm) (C := RX1) (T := TX1) (N := 3) hx hb hts hh_1 hown hK hP 0 rfl rfl 2 (by decide) hh_0 (fun _ h9 => h9) rfl dX1_oddsAgainst_11 ?_
  refine lv_iload hx hb dX1_oddsAgainst_14 (lv_at hl 4 rfl) ?_
  refine z_i2l (z := ((down : Nat) : Int)) hx hb dX1_oddsAgainst_16 ⟨by omega, by omega⟩ rfl ?_
  refine lv_iload_n hx hb dX1_oddsAgainst_17 rfl (lv_at hl 1 rfl) ?_
  refine ca_vV [.long (lZ ((down : Nat) : Int)), .int (iZ ((n : Nat) : Int))] [] [(h0, .inr (1, [.ref hs, .ref hp, .ref hm])), (hs, .inr (8, [.ref la, .int (iZ ((u1 : Nat) : Int))])), (la, .inl (cJ, 14, .inr (.inl (LJ g1)))), (hp, .inr (8, [.ref lb, .int (iZ ((u2 : Nat) : Int))])), (lb, .inl (cJ, 14, .inr (.inl (LJ g2))))] 0 0 ⟨hx, hb, hml, hown, hts⟩ (c_X9_multiplyOften l D cI cJ hm lc gA 2 a down n hw1 (by omega) (by omega) (by rw [Nat.mul_comm]; exact pow_b hd (by omega) ha)) (cwV 2 hts gX1_oddsAgainst_X9_multiplyOften rfl rfl rfl (by decide +kernel) ⟨(Nat.le_of_ble_eq_true rfl), (Nat.le_of_ble_eq_true rfl)⟩) hK hP hD hS hA [5, 6] [0, 1, 2, 3, 4] rfl rfl rfl rfl (by decide) 0 rfl rfl rfl hl.1 rfl (Nat.le_of_ble_eq_true rfl) dX1_oddsAgainst_18 ⟨(Nat.le_of_ble_eq_true rfl), (Nat.le_of_ble_eq_true rfl)⟩ (Nat.le_of_ble_eq_true rfl) (Nat.le_of_ble_eq_true rfl) (fun u9 H locs hw hP hD hS => ?_)
  obtain ⟨gB, uB⟩ := u9
  try dsimp only at hw
  have hw2 := hw
  have hP : va_P D vwCl [(h0, .inr (1, [.ref hs, .ref hp, .ref hm])), (hs, .inr (8, [.ref la, .int (iZ ((u1 : Nat) : Int))])), (la, .inl (cJ, 14, .inr (.inl (LJ g1)))), (hp, .inr (8, [.ref lb, .int (iZ ((u2 : Nat) : Int))])), (lb, .inl (cJ, 14, .inr (.inl (LJ g2)))), (hm, .inr (8, [.ref lc, .int (iZ ((uB : Nat) : Int))])), (lc, .inl (cJ, 14, .inr (.inl (LJ gB))))] H := hP
  have hD : va_D A [(h0, .inr (1, [.ref hs, .ref hp, .ref hm])), (hs, .inr (8, [.ref la, .int (iZ ((u1 : Nat) : Int))])), (la, .inl (cJ, 14, .inr (.inl (LJ g1)))), (hp, .inr (8, [.ref lb, .int (iZ ((u2 : Nat) : Int))])), (lb, .inl (cJ, 14, .inr (.inl (LJ g2)))), (hm, .inr (8, [.ref lc, .int (iZ ((uB : Nat) : Int))])), (lc, .inl (cJ, 14, .inr (.inl (LJ gB))))] := hD
  refine lv_aload_n hx hb dX1_oddsAgainst_21 rfl (lv_at hl 0 rfl) ?_
  refine lv_iload_n hx hb dX1_oddsAgainst_22 rfl (lv_at hl 1 rfl) ?_
  refine lv_iload_n hx hb dX1_oddsAgainst_23 rfl (lv_at hl 2 rfl) ?_
  refine lv_iload_n hx hb dX1_oddsAgainst_24 rfl (lv_at hl 3 rfl) ?_
  refine lv_iload hx hb dX1_oddsAgainst_25 (lv_at hl 4 rfl) ?_
  refine lv_iload hx hb dX1_oddsAgainst_27 (lv_at hl 5 rfl) ?_
  refine ca_vV [.int (iZ ((n : Nat) : Int)), .int (iZ ((k : Nat) : Int)), .int (iZ ((up : Nat) : Int)), .int (iZ ((down : Nat) : Int)), .int (iZ ((side : Nat) : Int))] [] [(hm, .inr (8, [.ref lc, .int (iZ ((uB : Nat) : Int))])), (lc, .inl (cJ, 14, .inr (.inl (LJ gB))))] 0 0 ⟨hx, hb, hml, hown, hts⟩ (c_X1_sumUp l D cI cJ h0 hs hp hm la lb g1 g2 u1 u2 n k up down side hn hk hd hu hsd) (cwV 5 hts gX1_oddsAgainst_X1_sumUp rfl rfl rfl (by decide +kernel) ⟨(Nat.le_of_ble_eq_true rfl), (Nat.le_of_ble_eq_true rfl)⟩) hK hP hD hS hA [0, 1, 2, 3, 4] [5, 6] rfl rfl rfl rfl (by decide) 0 rfl rfl rfl hl.1 rfl (Nat.le_of_ble_eq_true rfl) dX1_oddsAgainst_29 ⟨(Nat.le_of_ble_eq_true rfl), (Nat.le_of_ble_eq_true rfl)⟩ (Nat.le_of_ble_eq_true rfl) (Nat.le_of_ble_eq_true rfl) (fun u9 H locs hw hP hD hS => ?_)
  obtain ⟨⟨g4, u4⟩, ⟨g5, u5⟩⟩ := u9
  try dsimp only at hw
  have hw3 := hw
  have hP : va_P D vwCl [(hm, .inr (8, [.ref lc, .int (iZ ((uB : Nat) : Int))])), (lc, .inl (cJ, 14, .inr (.inl (LJ gB)))), (h0, .inr (1, [.ref hs, .ref hp, .ref hm])), (hs, .inr (8, [.ref la, .int (iZ ((u4 : Nat) : Int))])), (la, .inl (cJ, 14, .inr (.inl (LJ g4)))), (hp, .inr (8, [.ref lb, .int (iZ ((u5 : Nat) : Int))])), (lb, .inl (cJ, 14, .inr (.inl (LJ g5))))] H := hP
  have hD : va_D A [(hm, .inr (8, [.ref lc, .int (iZ ((uB : Nat) : Int))])), (lc, .inl (cJ, 14, .inr (.inl (LJ gB)))), (h0, .inr (1, [.ref hs, .ref hp, .ref hm])), (hs, .inr (8, [.ref la, .int (iZ ((u4 : Nat) : Int))])), (la, .inl (cJ, 14, .inr (.inl (LJ g4)))), (hp, .inr (8, [.ref lb, .int (iZ ((u5 : Nat) : Int))])), (lb, .inl (cJ, 14, .inr (.inl (LJ g5))))] := hD
  refine lv_aload_n hx hb dX1_oddsAgainst_32 rfl (lv_at hl 0 rfl) ?_
  refine va_get (D := D) (ci := 1) (v := .ref hs) (C := RX1) (T := TX1) (N := 3) hx hb hts hh_1 hown hK hP 2 rfl rfl 0 (by decide) hh_2 (fun _ h9 => h9) rfl dX1_oddsAgainst_33 ?_
  refine lv_iload hx hb dX1_oddsAgainst_36 (lv_at hl 7 rfl) ?_
  refine z_i2l (z := ((b : Nat) : Int)) hx hb dX1_oddsAgainst_38 ⟨by omega, by omega⟩ rfl ?_
  refine ca_vV [.long (lZ ((b : Nat) : Int))] [] [(hm, .inr (8, [.ref lc, .int (iZ ((uB : Nat) : Int))])), (lc, .inl (cJ, 14, .inr (.inl (LJ gB)))), (h0, .inr (1, [.ref hs, .ref hp, .ref hm])), (hp, .inr (8, [.ref lb, .int (iZ ((u5 : Nat) : Int))])), (lb, .inl (cJ, 14, .inr (.inl (LJ g5))))] 0 0 ⟨hx, hb, hml, hown, hts⟩ (c_X9_multiply l D cI cJ hs la g4 u4 (habv n k up down side) b hw3 (by omega) (habv_b hn hk hd hu hb0)) (cwV 1 hts gX1_oddsAgainst_X9_multiply rfl rfl rfl (by decide +kernel) ⟨(Nat.le_of_ble_eq_true rfl), (Nat.le_of_ble_eq_true rfl)⟩) hK hP hD hS hA [3, 4] [0, 1, 2, 5, 6] rfl rfl rfl rfl (by decide) 0 rfl rfl rfl hl.1 rfl (Nat.le_of_ble_eq_true rfl) dX1_oddsAgainst_39 ⟨(Nat.le_of_ble_eq_true rfl), (Nat.le_of_ble_eq_true rfl)⟩ (Nat.le_of_ble_eq_true rfl) (Nat.le_of_ble_eq_true rfl) (fun u9 H locs hw hP hD hS => ?_)
  obtain ⟨g6, u6⟩ := u9
  try dsimp only at hw
  have hw4 := hw
  have hP : va_P D vwCl [(hm, .inr (8, [.ref lc, .int (iZ ((uB : Nat) : Int))])), (lc, .inl (cJ, 14, .inr (.inl (LJ gB)))), (h0, .inr (1, [.ref hs, .ref hp, .ref hm])), (hp, .inr (8, [.ref lb, .int (iZ ((u5 : Nat) : Int))])), (lb, .inl (cJ, 14, .inr (.inl (LJ g5)))), (hs, .inr (8, [.ref la, .int (iZ ((u6 : Nat) : Int))])), (la, .inl (cJ, 14, .inr (.inl (LJ g6))))] H := hP
  have hD : va_D A [(hm, .inr (8, [.ref lc, .int (iZ ((uB : Nat) : Int))])), (lc, .inl (cJ, 14, .inr (.inl (LJ gB)))), (h0, .inr (1, [.ref hs, .ref hp, .ref hm])), (hp, .inr (8, [.ref lb, .int (iZ ((u5 : Nat) : Int))])), (lb, .inl (cJ, 14, .inr (.inl (LJ g5)))), (hs, .inr (8, [.ref la, .int (iZ ((u6 : Nat) : Int))])), (la, .inl (cJ, 14, .inr (.inl (LJ g6))))] := hD
  refine lv_aload_n hx hb dX1_oddsAgainst_42 rfl (lv_at hl 0 rfl) ?_
  refine va_get (D := D) (ci := 1) (v := .ref hs) (C := RX1) (T := TX1) (N := 3) hx hb hts hh_1 hown hK hP 2 rfl rfl 0 (by decide) hh_2 (fun _ h9 => h9) rfl dX1_oddsAgainst_43 ?_
  refine lv_aload_n hx hb dX1_oddsAgainst_46 rfl (lv_at hl 0 rfl) ?_
  refine va_get (D := D) (ci := 1) (v := .ref hm) (C := RX1) (T := TX1) (N := 3) hx hb hts hh_1 hown hK hP 2 rfl rfl 2 (by decide) hh_0 (fun _ h9 => h9) rfl dX1_oddsAgainst_47 ?_
  refine ca_iV [.ref hm] [] [(h0, .inr (1, [.ref hs, .ref hp, .ref hm])), (hp, .inr (8, [.ref lb, .int (iZ ((u5 : Nat) : Int))])), (lb, .inl (cJ, 14, .inr (.inl (LJ g5))))] 0 0 ⟨hx, hb, hml, hown, hts⟩ (c_X9_against l D cI cJ hs la hm lc g6 gB u6 (habv n k up down side * b) uB (a * down ^ n) hw4 hw2) (cwV 1 hts gX1_oddsAgainst_X9_against rfl rfl rfl (by decide +kernel) ⟨(Nat.le_of_ble_eq_true rfl), (Nat.le_of_ble_eq_true rfl)⟩) hK hP hD hS hA [5, 6, 0, 1] [2, 3, 4] rfl rfl rfl rfl (by decide) 0 rfl rfl rfl hl.1 rfl (Nat.le_of_ble_eq_true rfl) dX1_oddsAgainst_50 ⟨(Nat.le_of_ble_eq_true rfl), (Nat.le_of_ble_eq_true rfl)⟩ (Nat.le_of_ble_eq_true rfl) (Nat.le_of_ble_eq_true rfl) (fun r_50 u9 H locs hw hP hD hS => ?_)
  obtain u9 := u9
  try dsimp only at hw
  have hw5 := hw
  have hP : va_P D vwCl [(h0, .inr (1, [.ref hs, .ref hp, .ref hm])), (hp, .inr (8, [.ref lb, .int (iZ ((u5 : Nat) : Int))])), (lb, .inl (cJ, 14, .inr (.inl (LJ g5)))), (hs, .inr (8, [.ref la, .int (iZ ((u6 : Nat) : Int))])), (la, .inl (cJ, 14, .inr (.inl (LJ g6)))), (hm, .inr (8, [.ref lc, .int (iZ ((uB : Nat) : Int))])), (lc, .inl (cJ, 14, .inr (.inl (LJ gB))))] H := hP
  have hD : va_D A [(h0, .inr (1, [.ref hs, .ref hp, .ref hm])), (hp, .inr (8, [.ref lb, .int (iZ ((u5 : Nat) : Int))])), (lb, .inl (cJ, 14, .inr (.inl (LJ g5)))), (hs, .inr (8, [.ref la, .int (iZ ((u6 : Nat) : Int))])), (la, .inl (cJ, 14, .inr (.inl (LJ g6)))), (hm, .inr (8, [.ref lc, .int (iZ ((uB : Nat) : Int))])), (lc, .inl (cJ, 14, .inr (.inl (LJ gB))))] := hD
  exact hret _ ((g6, u6), (g5, u5), (gB, uB)) _ _ _ _ _ _ (Nat.le_of_ble_eq_true rfl) (Nat.le_of_ble_eq_true rfl) rfl dX1_oddsAgainst_53 (hw5) (hP.sub [0, 3, 4, 1, 2, 5, 6] rfl) (hD.sub [0, 3, 4, 1, 2, 5, 6] rfl rfl) hS
def rmX1_upper : Room := { frames := 4, cells := 0, slots := 0, locals := 103 }
set_option maxHeartbeats 4000000 in
set_option maxRecDepth 100000 in
theorem c_X1_upper (l : Launch) (D : va_G) (cI cJ : ClassId) (h0 hs hp hm la lb lc : Nat) (g1 g2 g3 : Nat → Nat) (u1 u2 u3 n k a b : Nat) (hn : n ≤ 30) (hk : k ≤ n) (ha : a ≤ 1000) (hb0 : b ≤ 1000) : Ci l D vwCl (tyT cI cJ) yX1_upper wsX1_upper rmX1_upper [.ref h0, .int (iZ ((n : Nat) : Int)), .int (iZ ((k : Nat) : Int)), .int (iZ ((a : Nat) : Int)), .int (iZ ((b : Nat) : Int))] [(h0, .inr (1, [.ref hs, .ref hp, .ref hm])), (hs, .inr (8, [.ref la, .int (iZ ((u1 : Nat) : Int))])), (la, .inl (cJ, 14, .inr (.inl (LJ g1)))), (hp, .inr (8, [.ref lb, .int (iZ ((u2 : Nat) : Int))])), (lb, .inl (cJ, 14, .inr (.inl (LJ g2)))), (hm, .inr (8, [.ref lc, .int (iZ ((u3 : Nat) : Int))])), (lc, .inl (cJ, 14, .inr (.inl (LJ g3))))] (((Nat → Nat) × Nat) × ((Nat → Nat) × Nat) × ((Nat → Nat) × Nat)) (fun r _ => r = iZ ((upr n k a b : Nat) : Int)) (fun r => [(h0, .inr (1, [.ref hs, .ref hp, .ref hm])), (hs, .inr (8, [.ref la, .int (iZ ((r.1.2 : Nat) : Int))])), (la, .inl (cJ, 14, .inr (.inl (LJ r.1.1)))), (hp, .inr (8, [.ref lb, .int (iZ ((r.2.1.2 : Nat) : Int))])), (lb, .inl (cJ, 14, .inr (.inl (LJ r.2.1.1)))), (hm, .inr (8, [.ref lc, .int (iZ ((r.2.2.2 : Nat) : Int))])), (lc, .inl (cJ, 14, .inr (.inl (LJ r.2.2.1))))]) := by
  refine en_i (cc := cX1_upper) (maxL := 9) (by decide) rfl [(0, .ref h0), (1, .int (iZ ((n : Nat) : Int))), (2, .int (iZ ((k : Nat) : Int))), (3, .int (iZ ((a : Nat) : Int))), (4, .int (iZ ((b : Nat) : Int)))] (Nat.le_of_ble_eq_true rfl) rfl ?_
  intro p e s m args below meth c Q A hx hb hml hown hts hnm hK hP hD hA hS hret ls hl
  have hh_0 := hts (.fieldLink RX1 19 "BoundDraws$Hits" "measure" "LBoundDraws$Wide;") (by decide +kernel)
  have hh_1 := (show ∀ w ∈ wsX10, w ∈ wsX1_upper by decide +kernel)
  have hh_2 := hts (.constantLong RX1 45 (1000)) (by decide +kernel)
  have hh_3 := hts (.fieldLink RX1 10 "BoundDraws$Hits" "sum" "LBoundDraws$Wide;") (by decide +kernel)
  refine lv_aload_n hx hb dX1_upper_0 rfl (lv_at hl 0 rfl) ?_
  refine va_get (D := D) (ci := 1) (v := .ref hm) (C := RX1) (T := TX1) (N := 3) hx hb hts hh_1 hown hK hP 0 rfl rfl 2 (by decide) hh_0 (fun _ h9 => h9) rfl dX1_upper_1 ?_
  refine lv_iload_n hx hb dX1_upper_4 rfl (lv_at hl 3 rfl) ?_
  refine z_i2l (z := ((a : Nat) : Int)) hx hb dX1_upper_5 ⟨by omega, by omega⟩ rfl ?_
  refine ca_vV [.long (lZ ((a : Nat) : Int))] [] [(h0, .inr (1, [.ref hs, .ref hp, .ref hm])), (hs, .inr (8, [.ref la, .int (iZ ((u1 : Nat) : Int))])), (la, .inl (cJ, 14, .inr (.inl (LJ g1)))), (hp, .inr (8, [.ref lb, .int (iZ ((u2 : Nat) : Int))])), (lb, .inl (cJ, 14, .inr (.inl (LJ g2))))] 0 0 ⟨hx, hb, hml, hown, hts⟩ (c_X9_become l D cI cJ hm lc g3 u3 a (by omega)) (cwV 1 hts gX1_upper_X9_become rfl rfl rfl (by decide +kernel) ⟨(Nat.le_of_ble_eq_true rfl), (Nat.le_of_ble_eq_true rfl)⟩) hK hP hD hS hA [5, 6] [0, 1, 2, 3, 4] rfl rfl rfl rfl (by decide) 0 rfl rfl rfl hl.1 rfl (Nat.le_of_ble_eq_true rfl) dX1_upper_6 ⟨(Nat.le_of_ble_eq_true rfl), (Nat.le_of_ble_eq_true rfl)⟩ (Nat.le_of_ble_eq_true rfl) (Nat.le_of_ble_eq_true rfl) (fun gA H locs hw hP hD hS => ?_)
  try dsimp only at hw
  have hw1 := hw
  have hP : va_P D vwCl [(h0, .inr (1, [.ref hs, .ref hp, .ref hm])), (hs, .inr (8, [.ref la, .int (iZ ((u1 : Nat) : Int))])), (la, .inl (cJ, 14, .inr (.inl (LJ g1)))), (hp, .inr (8, [.ref lb, .int (iZ ((u2 : Nat) : Int))])), (lb, .inl (cJ, 14, .inr (.inl (LJ g2)))), (hm, .inr (8, [.ref lc, .int (iZ ((2 : Nat) : Int))])), (lc, .inl (cJ, 14, .inr (.inl (LJ gA))))] H := hP
  have hD : va_D A [(h0, .inr (1, [.ref hs, .ref hp, .ref hm])), (hs, .inr (8, [.ref la, .int (iZ ((u1 : Nat) : Int))])), (la, .inl (cJ, 14, .inr (.inl (LJ g1)))), (hp, .inr (8, [.ref lb, .int (iZ ((u2 : Nat) : Int))])), (lb, .inl (cJ, 14, .inr (.inl (LJ g2)))), (hm, .inr (8, [.ref lc, .int (iZ ((2 : Nat) : Int))])), (lc, .inl (cJ, 14, .inr (.inl (LJ gA))))] := hD
  refine lv_aload_n hx hb dX1_upper_9 rfl (lv_at hl 0 rfl) ?_
  refine va_get (D := D) (ci := 1) (v := .ref hm) (C := RX1) (T := TX1) (N := 3) hx hb hts hh_1 hown hK hP 0 rfl rfl 2 (by decide) hh_0 (fun _ h9 => h9) rfl dX1_upper_10 ?_
  refine lv_ldc2 hx hb hown hh_2 dX1_upper_13 (tp_l (y := lZ ((1000 : Nat) : Int)) (by decide) ?_)
  refine lv_iload_n hx hb dX1_upper_16 rfl (lv_at hl 1 rfl) ?_
  refine ca_vV [.long (lZ ((1000 : Nat) : Int)), .int (iZ ((n : Nat) : Int))] [] [(h0, .inr (1, [.ref hs, .ref hp, .ref hm])), (hs, .inr (8, [.ref la, .int (iZ ((u1 : Nat) : Int))])), (la, .inl (cJ, 14, .inr (.inl (LJ g1)))), (hp, .inr (8, [.ref lb, .int (iZ ((u2 : Nat) : Int))])), (lb, .inl (cJ, 14, .inr (.inl (LJ g2))))] 0 0 ⟨hx, hb, hml, hown, hts⟩ (c_X9_multiplyOften l D cI cJ hm lc gA 2 a 1000 n hw1 (by omega) (by omega) (by rw [Nat.mul_comm]; exact pow_b (by decide) (by omega) ha)) (cwV 2 hts gX1_upper_X9_multiplyOften rfl rfl rfl (by decide +kernel) ⟨(Nat.le_of_ble_eq_true rfl), (Nat.le_of_ble_eq_true rfl)⟩) hK hP hD hS hA [5, 6] [0, 1, 2, 3, 4] rfl rfl rfl rfl (by decide) 0 rfl rfl rfl hl.1 rfl (Nat.le_of_ble_eq_true rfl) dX1_upper_17 ⟨(Nat.le_of_ble_eq_true rfl), (Nat.le_of_ble_eq_true rfl)⟩ (Nat.le_of_ble_eq_true rfl) (Nat.le_of_ble_eq_true rfl) (fun u9 H locs hw hP hD hS => ?_)
  obtain ⟨gB, uB⟩ := u9
  try dsimp only at hw
  have hw2 := hw
  have hP : va_P D vwCl [(h0, .inr (1, [.ref hs, .ref hp, .ref hm])), (hs, .inr (8, [.ref la, .int (iZ ((u1 : Nat) : Int))])), (la, .inl (cJ, 14, .inr (.inl (LJ g1)))), (hp, .inr (8, [.ref lb, .int (iZ ((u2 : Nat) : Int))])), (lb, .inl (cJ, 14, .inr (.inl (LJ g2)))), (hm, .inr (8, [.ref lc, .int (iZ ((uB : Nat) : Int))])), (lc, .inl (cJ, 14, .inr (.inl (LJ gB))))] H := hP
  have hD : va_D A [(h0, .inr (1, [.ref hs, .ref hp, .ref hm])), (hs, .inr (8, [.ref la, .int (iZ ((u1 : Nat) : Int))])), (la, .inl (cJ, 14, .inr (.inl (LJ g1)))), (hp, .inr (8, [.ref lb, .int (iZ ((u2 : Nat) : Int))])), (lb, .inl (cJ, 14, .inr (.inl (LJ g2)))), (hm, .inr (8, [.ref lc, .int (iZ ((uB : Nat) : Int))])), (lc, .inl (cJ, 14, .inr (.inl (LJ gB))))] := hD
  refine zc_iconst (z := ((0 : Nat) : Int)) hx hb dX1_upper_20 (by decide) ?_
  refine lv_istore (lv' := [(5, .int (iZ ((0 : Nat) : Int))), (0, .ref h0), (1, .int (iZ ((n : Nat) : Int))), (2, .int (iZ ((k : Nat) : Int))), (3, .int (iZ ((a : Nat) : Int))), (4, .int (iZ ((b : Nat) : Int)))]) hx hb dX1_upper_21 hl (by decide) rfl (fun ls hl => ?_)
  refine zc_sipush (z := ((1000 : Nat) : Int)) hx hb dX1_upper_23 (by decide) ?_
  refine lv_istore (lv' := [(6, .int (iZ ((1000 : Nat) : Int))), (5, .int (iZ ((0 : Nat) : Int))), (0, .ref h0), (1, .int (iZ ((n : Nat) : Int))), (2, .int (iZ ((k : Nat) : Int))), (3, .int (iZ ((a : Nat) : Int))), (4, .int (iZ ((b : Nat) : Int)))]) hx hb dX1_upper_26 hl (by decide) rfl (fun ls hl => ?_)
  refine zc_iconst (z := ((0 : Nat) : Int)) hx hb dX1_upper_28 (by decide) ?_
  refine lv_istore (lv' := [(7, .int (iZ ((0 : Nat) : Int))), (6, .int (iZ ((1000 : Nat) : Int))), (5, .int (iZ ((0 : Nat) : Int))), (0, .ref h0), (1, .int (iZ ((n : Nat) : Int))), (2, .int (iZ ((k : Nat) : Int))), (3, .int (iZ ((a : Nat) : Int))), (4, .int (iZ ((b : Nat) : Int)))]) hx hb dX1_upper_29 hl (by decide) rfl (fun ls hl => ?_)
  have pt_31 : ∀ f : Nat, ∀ (lo hi st u1 u2 u3 : Nat) (g1 g2 g3 : Nat → Nat), (h3 : wok g3 u3 (a * 1000 ^ n)) → (hlh : lo ≤ hi) → (hst : hi + st ≤ lo + 1000) → (hh : hi ≤ 1000) → (hR : bsr (goodU n k a b) (1001 - st) lo hi = upr n k a b) → (hf : 1000 < st + f) → (H : Heap) → (locs : List Loc) → va_P D vwCl [(h0, .inr (1, [.ref hs, .ref hp, .ref hm])), (hs, .inr (8, [.ref la, .int (iZ ((u1 : Nat) : Int))])), (la, .inl (cJ, 14, .inr (.inl (LJ g1)))), (hp, .inr (8, [.ref lb, .int (iZ ((u2 : Nat) : Int))])), (lb, .inl (cJ, 14, .inr (.inl (LJ g2)))), (hm, .inr (8, [.ref lc, .int (iZ ((u3 : Nat) : Int))])), (lc, .inl (cJ, 14, .inr (.inl (LJ g3))))] H → va_D A [(h0, .inr (1, [.ref hs, .ref hp, .ref hm])), (hs, .inr (8, [.ref la, .int (iZ ((u1 : Nat) : Int))])), (la, .inl (cJ, 14, .inr (.inl (LJ g1)))), (hp, .inr (8, [.ref lb, .int (iZ ((u2 : Nat) : Int))])), (lb, .inl (cJ, 14, .inr (.inl (LJ g2)))), (hm, .inr (8, [.ref lc, .int (iZ ((u3 : Nat) : Int))])), (lc, .inl (cJ, 14, .inr (.inl (LJ g3))))] → va_S A s.heap H locs → (ls : Array Slot) → lv_has ls 9 [(7, .int (iZ ((st : Nat) : Int))), (6, .int (iZ ((hi : Nat) : Int))), (5, .int (iZ ((lo : Nat) : Int))), (0, .ref h0), (1, .int (iZ ((n : Nat) : Int))), (2, .int (iZ ((k : Nat) : Int))), (3, .int (iZ ((a : Nat) : Int))), (4, .int (iZ ((b : Nat) : Int)))] → W p l e rmX1_upper s m args below meth c H locs 0 0 Q (F0 m 31 ls []) := by
    intro f
    induction f with
    | zero =>
      intro lo hi st u1 u2 u3 g1 g2 g3 h3 hlh hst hh hR hf H locs hP hD hS ls hl
      exfalso; omega
    | succ f ih =>
      intro lo hi st u1 u2 u3 g1 g2 g3 h3 hlh hst hh hR hf H locs hP hD hS ls hl
      refine lv_iload hx hb dX1_upper_31 (lv_at hl 2 rfl) ?_
      refine lv_iload hx hb dX1_upper_33 (lv_at hl 1 rfl) ?_
      refine zb_icmp_ge (x := ((lo : Nat) : Int)) (y := ((hi : Nat) : Int)) (tgt := 110) hx hb dX1_upper_35 (by decide) ⟨by omega, by omega⟩ ⟨by omega, by omega⟩ (fun c_35 => ?_) (fun c_35 => ?_)
      · refine lv_iload hx hb dX1_upper_110 (lv_at hl 2 rfl) ?_
        exact hret _ ((g1, u1), (g2, u2), (g3, u3)) _ _ _ _ _ _ (Nat.le_of_ble_eq_true rfl) (Nat.le_of_ble_eq_true rfl) rfl dX1_upper_112 (by rw [← hR, bsr_x (by omega) (by omega)]) hP hD hS
      · refine lv_iload hx hb dX1_upper_38 (lv_at hl 0 rfl) ?_
        refine zc_sipush (z := ((1000 : Nat) : Int)) hx hb dX1_upper_40 (by decide) ?_
        refine zb_icmp_ge (x := ((st : Nat) : Int)) (y := ((1000 : Nat) : Int)) (tgt := 110) hx hb dX1_upper_43 (by decide) ⟨by omega, by omega⟩ ⟨by decide, by decide⟩ (fun c_43 => ?_) (fun c_43 => ?_)
        · exfalso; omega
        · refine lv_iload hx hb dX1_upper_46 (lv_at hl 2 rfl) ?_
          refine lv_iload hx hb dX1_upper_48 (lv_at hl 1 rfl) ?_
          refine zi_add (z := ((lo + hi : Nat) : Int)) hx hb dX1_upper_50 (by omega) ?_
          refine zc_iconst (z := ((2 : Nat) : Int)) hx hb dX1_upper_51 (by decide) ?_
          refine zi_div (z := (((lo + hi) / 2 : Nat) : Int)) hx hb dX1_upper_52 (by omega) (by omega) (by omega) (by omega) (by omega) ?_
          refine lv_istore (lv' := [(8, .int (iZ (((lo + hi) / 2 : Nat) : Int))), (7, .int (iZ ((st : Nat) : Int))), (6, .int (iZ ((hi : Nat) : Int))), (5, .int (iZ ((lo : Nat) : Int))), (0, .ref h0), (1, .int (iZ ((n : Nat) : Int))), (2, .int (iZ ((k : Nat) : Int))), (3, .int (iZ ((a : Nat) : Int))), (4, .int (iZ ((b : Nat) : Int)))]) hx hb dX1_upper_53 hl (by decide) rfl (fun ls hl => ?_)
          refine lv_aload_n hx hb dX1_upper_55 rfl (lv_at hl 4 rfl) ?_
          refine lv_iload_n hx hb dX1_upper_56 rfl (lv_at hl 5 rfl) ?_
          refine lv_iload_n hx hb dX1_upper_57 rfl (lv_at hl 6 rfl) ?_
          refine lv_iload hx hb dX1_upper_58 (lv_at hl 0 rfl) ?_
          refine zc_sipush (z := ((1000 : Nat) : Int)) hx hb dX1_upper_60 (by decide) ?_
          refine zc_iconst (z := ((1 : Nat) : Int)) hx hb dX1_upper_63 (by decide) ?_
          refine ca_vV [.int (iZ ((n : Nat) : Int)), .int (iZ ((k : Nat) : Int)), .int (iZ (((lo + hi) / 2 : Nat) : Int)), .int (iZ ((1000 : Nat) : Int)), .int (iZ ((1 : Nat) : Int))] [] [(hm, .inr (8, [.ref lc, .int (iZ ((u3 : Nat) : Int))])), (lc, .inl (cJ, 14, .inr (.inl (LJ g3))))] 0 0 ⟨hx, hb, hml, hown, hts⟩ (c_X1_sumUp l D cI cJ h0 hs hp hm la lb g1 g2 u1 u2 n k ((lo + hi) / 2) 1000 1 hn hk (by decide) (by omega) (by decide)) (cwV 5 hts gX1_upper_X1_sumUp rfl rfl rfl (by decide +kernel) ⟨(Nat.le_of_ble_eq_true rfl), (Nat.le_of_ble_eq_true rfl)⟩) hK hP hD hS hA [0, 1, 2, 3, 4] [5, 6] rfl rfl rfl rfl (by decide) 0 rfl rfl rfl hl.1 rfl (Nat.le_of_ble_eq_true rfl) dX1_upper_64 ⟨(Nat.le_of_ble_eq_true rfl), (Nat.le_of_ble_eq_true rfl)⟩ (Nat.le_of_ble_eq_true rfl) (Nat.le_of_ble_eq_true rfl) (fun u9 H locs hw hP hD hS => ?_)
          obtain ⟨⟨g4, u4⟩, ⟨g5, u5⟩⟩ := u9
          try dsimp only at hw
          have hw3 := hw
          have hP : va_P D vwCl [(hm, .inr (8, [.ref lc, .int (iZ ((u3 : Nat) : Int))])), (lc, .inl (cJ, 14, .inr (.inl (LJ g3)))), (h0, .inr (1, [.ref hs, .ref hp, .ref hm])), (hs, .inr (8, [.ref la, .int (iZ ((u4 : Nat) : Int))])), (la, .inl (cJ, 14, .inr (.inl (LJ g4)))), (hp, .inr (8, [.ref lb, .int (iZ ((u5 : Nat) : Int))])), (lb, .inl (cJ, 14, .inr (.inl (LJ g5))))] H := hP
          have hD : va_D A [(hm, .inr (8, [.ref lc, .int (iZ ((u3 : Nat) : Int))])), (lc, .inl (cJ, 14, .inr (.inl (LJ g3)))), (h0, .inr (1, [.ref hs, .ref hp, .ref hm])), (hs, .inr (8, [.ref la, .int (iZ ((u4 : Nat) : Int))])), (la, .inl (cJ, 14, .inr (.inl (LJ g4)))), (hp, .inr (8, [.ref lb, .int (iZ ((u5 : Nat) : Int))])), (lb, .inl (cJ, 14, .inr (.inl (LJ g5))))] := hD
          refine lv_aload_n hx hb dX1_upper_67 rfl (lv_at hl 4 rfl) ?_
          refine va_get (D := D) (ci := 1) (v := .ref hs) (C := RX1) (T := TX1) (N := 3) hx hb hts hh_1 hown hK hP 2 rfl rfl 0 (by decide) hh_3 (fun _ h9 => h9) rfl dX1_upper_68 ?_
          refine lv_iload hx hb dX1_upper_71 (lv_at hl 8 rfl) ?_
          refine z_i2l (z := ((b : Nat) : Int)) hx hb dX1_upper_73 ⟨by omega, by omega⟩ rfl ?_
          refine ca_vV [.long (lZ ((b : Nat) : Int))] [] [(hm, .inr (8, [.ref lc, .int (iZ ((u3 : Nat) : Int))])), (lc, .inl (cJ, 14, .inr (.inl (LJ g3)))), (h0, .inr (1, [.ref hs, .ref hp, .ref hm])), (hp, .inr (8, [.ref lb, .int (iZ ((u5 : Nat) : Int))])), (lb, .inl (cJ, 14, .inr (.inl (LJ g5))))] 0 0 ⟨hx, hb, hml, hown, hts⟩ (c_X9_multiply l D cI cJ hs la g4 u4 (habv n k ((lo + hi) / 2) 1000 1) b hw3 (by omega) (habv_b hn hk (by decide) (by omega) hb0)) (cwV 1 hts gX1_upper_X9_multiply rfl rfl rfl (by decide +kernel) ⟨(Nat.le_of_ble_eq_true rfl), (Nat.le_of_ble_eq_true rfl)⟩) hK hP hD hS hA [3, 4] [0, 1, 2, 5, 6] rfl rfl rfl rfl (by decide) 0 rfl rfl rfl hl.1 rfl (Nat.le_of_ble_eq_true rfl) dX1_upper_74 ⟨(Nat.le_of_ble_eq_true rfl), (Nat.le_of_ble_eq_true rfl)⟩ (Nat.le_of_ble_eq_true rfl) (Nat.le_of_ble_eq_true rfl) (fun u9 H locs hw hP hD hS => ?_)
          obtain ⟨g6, u6⟩ := u9
          try dsimp only at hw
          have hw4 := hw
          have hP : va_P D vwCl [(hm, .inr (8, [.ref lc, .int (iZ ((u3 : Nat) : Int))])), (lc, .inl (cJ, 14, .inr (.inl (LJ g3)))), (h0, .inr (1, [.ref hs, .ref hp, .ref hm])), (hp, .inr (8, [.ref lb, .int (iZ ((u5 : Nat) : Int))])), (lb, .inl (cJ, 14, .inr (.inl (LJ g5)))), (hs, .inr (8, [.ref la, .int (iZ ((u6 : Nat) : Int))])), (la, .inl (cJ, 14, .inr (.inl (LJ g6))))] H := hP
          have hD : va_D A [(hm, .inr (8, [.ref lc, .int (iZ ((u3 : Nat) : Int))])), (lc, .inl (cJ, 14, .inr (.inl (LJ g3)))), (h0, .inr (1, [.ref hs, .ref hp, .ref hm])), (hp, .inr (8, [.ref lb, .int (iZ ((u5 : Nat) : Int))])), (lb, .inl (cJ, 14, .inr (.inl (LJ g5)))), (hs, .inr (8, [.ref la, .int (iZ ((u6 : Nat) : Int))])), (la, .inl (cJ, 14, .inr (.inl (LJ g6))))] := hD
          refine lv_aload_n hx hb dX1_upper_77 rfl (lv_at hl 4 rfl) ?_
          refine va_get (D := D) (ci := 1) (v := .ref hs) (C := RX1) (T := TX1) (N := 3) hx hb hts hh_1 hown hK hP 2 rfl rfl 0 (by decide) hh_3 (fun _ h9 => h9) rfl dX1_upper_78 ?_
          refine lv_aload_n hx hb dX1_upper_81 rfl (lv_at hl 4 rfl) ?_
          refine va_get (D := D) (ci := 1) (v := .ref hm) (C := RX1) (T := TX1) (N := 3) hx hb hts hh_1 hown hK hP 2 rfl rfl 2 (by decide) hh_0 (fun _ h9 => h9) rfl dX1_upper_82 ?_
          refine ca_iV [.ref hm] [] [(h0, .inr (1, [.ref hs, .ref hp, .ref hm])), (hp, .inr (8, [.ref lb, .int (iZ ((u5 : Nat) : Int))])), (lb, .inl (cJ, 14, .inr (.inl (LJ g5))))] 0 0 ⟨hx, hb, hml, hown, hts⟩ (c_X9_against l D cI cJ hs la hm lc g6 g3 u6 (habv n k ((lo + hi) / 2) 1000 1 * b) u3 (a * 1000 ^ n) hw4 h3) (cwV 1 hts gX1_upper_X9_against rfl rfl rfl (by decide +kernel) ⟨(Nat.le_of_ble_eq_true rfl), (Nat.le_of_ble_eq_true rfl)⟩) hK hP hD hS hA [5, 6, 0, 1] [2, 3, 4] rfl rfl rfl rfl (by decide) 0 rfl rfl rfl hl.1 rfl (Nat.le_of_ble_eq_true rfl) dX1_upper_85 ⟨(Nat.le_of_ble_eq_true rfl), (Nat.le_of_ble_eq_true rfl)⟩ (Nat.le_of_ble_eq_true rfl) (Nat.le_of_ble_eq_true rfl) (fun r_85 u9 H locs hw hP hD hS => ?_)
          obtain u9 := u9
          try dsimp only at hw
          have hw5 := hw
          have hP : va_P D vwCl [(h0, .inr (1, [.ref hs, .ref hp, .ref hm])), (hp, .inr (8, [.ref lb, .int (iZ ((u5 : Nat) : Int))])), (lb, .inl (cJ, 14, .inr (.inl (LJ g5)))), (hs, .inr (8, [.ref la, .int (iZ ((u6 : Nat) : Int))])), (la, .inl (cJ, 14, .inr (.inl (LJ g6)))), (hm, .inr (8, [.ref lc, .int (iZ ((u3 : Nat) : Int))])), (lc, .inl (cJ, 14, .inr (.inl (LJ g3))))] H := hP
          have hD : va_D A [(h0, .inr (1, [.ref hs, .ref hp, .ref hm])), (hp, .inr (8, [.ref lb, .int (iZ ((u5 : Nat) : Int))])), (lb, .inl (cJ, 14, .inr (.inl (LJ g5)))), (hs, .inr (8, [.ref la, .int (iZ ((u6 : Nat) : Int))])), (la, .inl (cJ, 14, .inr (.inl (LJ g6)))), (hm, .inr (8, [.ref lc, .int (iZ ((u3 : Nat) : Int))])), (lc, .inl (cJ, 14, .inr (.inl (LJ g3))))] := hD
          have hcr := cmpZ_r (habv n k ((lo + hi) / 2) 1000 1 * b) (a * 1000 ^ n)
          refine tp_i (y := (iZ (cmpZ (habv n k ((lo + hi) / 2) 1000 1 * b) (a * 1000 ^ n)))) (hw5) ?_
          have pt_104 : ∀ (lo hi : Nat), (hlh : lo ≤ hi) → (hst : hi + (st + 1) ≤ lo + 1000) → (hh : hi ≤ 1000) → (hR : bsr (goodU n k a b) (1001 - (st + 1)) lo hi = upr n k a b) → (H : Heap) → (locs : List Loc) → va_P D vwCl [(h0, .inr (1, [.ref hs, .ref hp, .ref hm])), (hs, .inr (8, [.ref la, .int (iZ ((u6 : Nat) : Int))])), (la, .inl (cJ, 14, .inr (.inl (LJ g6)))), (hp, .inr (8, [.ref lb, .int (iZ ((u5 : Nat) : Int))])), (lb, .inl (cJ, 14, .inr (.inl (LJ g5)))), (hm, .inr (8, [.ref lc, .int (iZ ((u3 : Nat) : Int))])), (lc, .inl (cJ, 14, .inr (.inl (LJ g3))))] H → va_D A [(h0, .inr (1, [.ref hs, .ref hp, .ref hm])), (hs, .inr (8, [.ref la, .int (iZ ((u6 : Nat) : Int))])), (la, .inl (cJ, 14, .inr (.inl (LJ g6)))), (hp, .inr (8, [.ref lb, .int (iZ ((u5 : Nat) : Int))])), (lb, .inl (cJ, 14, .inr (.inl (LJ g5)))), (hm, .inr (8, [.ref lc, .int (iZ ((u3 : Nat) : Int))])), (lc, .inl (cJ, 14, .inr (.inl (LJ g3))))] → va_S A s.heap H locs → (ls : Array Slot) → lv_has ls 9 [(7, .int (iZ ((st : Nat) : Int))), (6, .int (iZ ((hi : Nat) : Int))), (5, .int (iZ ((lo : Nat) : Int))), (0, .ref h0), (1, .int (iZ ((n : Nat) : Int))), (2, .int (iZ ((k : Nat) : Int))), (3, .int (iZ ((a : Nat) : Int))), (4, .int (iZ ((b : Nat) : Int)))] → W p l e rmX1_upper s m args below meth c H locs 0 0 Q (F0 m 104 ls []) := by
            intro lo hi hlh hst hh hR H locs hP hD hS ls hl
            refine lv_iinc (v := iZ ((st + 1 : Nat) : Int)) (lv' := [(7, .int (iZ ((st + 1 : Nat) : Int))), (6, .int (iZ ((hi : Nat) : Int))), (5, .int (iZ ((lo : Nat) : Int))), (0, .ref h0), (1, .int (iZ ((n : Nat) : Int))), (2, .int (iZ ((k : Nat) : Int))), (3, .int (iZ ((a : Nat) : Int))), (4, .int (iZ ((b : Nat) : Int)))]) hx hb dX1_upper_104 hl (k := 0) rfl (zi_inc (by omega)) (by decide) rfl (fun ls hl => ?_)
            refine lv_goto (tgt := 31) hx hb dX1_upper_107 (by decide) ?_
            exact ih lo hi (st + 1) _ _ _ _ _ _ h3 hlh hst hh hR (by omega) _ _ hP hD hS ls (lv_sub hl [0, 1, 2, 3, 4, 5, 6, 7] rfl)
          refine zb_if_gt (x := (cmpZ (habv n k ((lo + hi) / 2) 1000 1 * b) (a * 1000 ^ n))) (tgt := 98) hx hb dX1_upper_88 (by decide) ⟨by omega, by omega⟩ (fun c_88 => ?_) (fun c_88 => ?_)
          · have hgd : goodU n k a b ((lo + hi) / 2) = false := by unfold goodU; rw [decide_eq_false_iff_not, ← cmpZ_le]; omega
            refine lv_iload hx hb dX1_upper_98 (lv_at hl 0 rfl) ?_
            refine zc_iconst (z := ((1 : Nat) : Int)) hx hb dX1_upper_100 (by decide) ?_
            refine zi_add (z := ((((lo + hi) / 2) + 1 : Nat) : Int)) hx hb dX1_upper_101 (by omega) ?_
            refine lv_istore (lv' := [(5, .int (iZ ((((lo + hi) / 2) + 1 : Nat) : Int))), (8, .int (iZ (((lo + hi) / 2 : Nat) : Int))), (7, .int (iZ ((st : Nat) : Int))), (6, .int (iZ ((hi : Nat) : Int))), (0, .ref h0), (1, .int (iZ ((n : Nat) : Int))), (2, .int (iZ ((k : Nat) : Int))), (3, .int (iZ ((a : Nat) : Int))), (4, .int (iZ ((b : Nat) : Int)))]) hx hb dX1_upper_102 hl (by decide) rfl (fun ls hl => ?_)
            exact pt_104 ((lo + hi) / 2 + 1) hi (by omega) (by omega) (by omega) (by rw [← hR, bsr_f (by omega) (by omega) hgd]; rfl) _ _ (hP.sub [0, 3, 4, 1, 2, 5, 6] rfl) (hD.sub [0, 3, 4, 1, 2, 5, 6] rfl rfl) hS ls (lv_sub hl [2, 3, 0, 4, 5, 6, 7, 8] rfl)
          · have hgd : goodU n k a b ((lo + hi) / 2) = true := by unfold goodU; rw [decide_eq_true_eq, ← cmpZ_le]; omega
            refine lv_iload hx hb dX1_upper_91 (lv_at hl 0 rfl) ?_
            refine lv_istore (lv' := [(6, .int (iZ (((lo + hi) / 2 : Nat) : Int))), (8, .int (iZ (((lo + hi) / 2 : Nat) : Int))), (7, .int (iZ ((st : Nat) : Int))), (5, .int (iZ ((lo : Nat) : Int))), (0, .ref h0), (1, .int (iZ ((n : Nat) : Int))), (2, .int (iZ ((k : Nat) : Int))), (3, .int (iZ ((a : Nat) : Int))), (4, .int (iZ ((b : Nat) : Int)))]) hx hb dX1_upper_93 hl (by decide) rfl (fun ls hl => ?_)
            refine lv_goto (tgt := 104) hx hb dX1_upper_95 (by decide) ?_
            exact pt_104 lo ((lo + hi) / 2) (by omega) (by omega) (by omega) (by rw [← hR, bsr_t (by omega) (by omega) hgd]; rfl) _ _ (hP.sub [0, 3, 4, 1, 2, 5, 6] rfl) (hD.sub [0, 3, 4, 1, 2, 5, 6] rfl rfl) hS ls (lv_sub hl [2, 0, 3, 4, 5, 6, 7, 8] rfl)
  exact pt_31 1001 0 1000 0 _ _ _ _ _ _ hw2 (by omega) (by omega) (by omega) rfl (by omega) _ _ hP hD hS ls (lv_sub hl [0, 1, 2, 3, 4, 5, 6, 7] rfl)
def rmX1_lower : Room := { frames := 5, cells := 0, slots := 0, locals := 131 }
set_option maxHeartbeats 4000000 in
set_option maxRecDepth 100000 in
theorem c_X1_lower (l : Launch) (D : va_G) (cI cJ : ClassId) (h0 hs hp hm la lb lc : Nat) (g1 g2 g3 : Nat → Nat) (u1 u2 u3 n k a b : Nat) (hn : n ≤ 30) (hk : k ≤ n) (ha : a ≤ 1000) (hb0 : b ≤ 1000) : Ci l D vwCl (tyT cI cJ) yX1_lower wsX1_lower rmX1_lower [.ref h0, .int (iZ ((n : Nat) : Int)), .int (iZ ((k : Nat) : Int)), .int (iZ ((a : Nat) : Int)), .int (iZ ((b : Nat) : Int))] [(h0, .inr (1, [.ref hs, .ref hp, .ref hm])), (hs, .inr (8, [.ref la, .int (iZ ((u1 : Nat) : Int))])), (la, .inl (cJ, 14, .inr (.inl (LJ g1)))), (hp, .inr (8, [.ref lb, .int (iZ ((u2 : Nat) : Int))])), (lb, .inl (cJ, 14, .inr (.inl (LJ g2)))), (hm, .inr (8, [.ref lc, .int (iZ ((u3 : Nat) : Int))])), (lc, .inl (cJ, 14, .inr (.inl (LJ g3))))] (((Nat → Nat) × Nat) × ((Nat → Nat) × Nat) × ((Nat → Nat) × Nat)) (fun r _ => r = iZ ((1000 - upr n (n - k) a b : Nat) : Int)) (fun r => [(h0, .inr (1, [.ref hs, .ref hp, .ref hm])), (hs, .inr (8, [.ref la, .int (iZ ((r.1.2 : Nat) : Int))])), (la, .inl (cJ, 14, .inr (.inl (LJ r.1.1)))), (hp, .inr (8, [.ref lb, .int (iZ ((r.2.1.2 : Nat) : Int))])), (lb, .inl (cJ, 14, .inr (.inl (LJ r.2.1.1)))), (hm, .inr (8, [.ref lc, .int (iZ ((r.2.2.2 : Nat) : Int))])), (lc, .inl (cJ, 14, .inr (.inl (LJ r.2.2.1))))]) := by
  refine en_i (cc := cX1_lower) (maxL := 5) (by decide) rfl [(0, .ref h0), (1, .int (iZ ((n : Nat) : Int))), (2, .int (iZ ((k : Nat) : Int))), (3, .int (iZ ((a : Nat) : Int))), (4, .int (iZ ((b : Nat) : Int)))] (Nat.le_of_ble_eq_true rfl) rfl ?_
  intro p e s m args below meth c Q A hx hb hml hown hts hnm hK hP hD hA hS hret ls hl
  refine zc_sipush (z := ((1000 : Nat) : Int)) hx hb dX1_lower_0 (by decide) ?_
  refine lv_aload_n hx hb dX1_lower_3 rfl (lv_at hl 0 rfl) ?_
  refine lv_iload_n hx hb dX1_lower_4 rfl (lv_at hl 1 rfl) ?_
  refine lv_iload_n hx hb dX1_lower_5 rfl (lv_at hl 1 rfl) ?_
  refine lv_iload_n hx hb dX1_lower_6 rfl (lv_at hl 2 rfl) ?_
  refine zi_sub (z := ((n - k : Nat) : Int)) hx hb dX1_lower_7 (by omega) ?_
  refine lv_iload_n hx hb dX1_lower_8 rfl (lv_at hl 3 rfl) ?_
  refine lv_iload hx hb dX1_lower_9 (lv_at hl 4 rfl) ?_
  refine ca_iV [.int (iZ ((n : Nat) : Int)), .int (iZ ((n - k : Nat) : Int)), .int (iZ ((a : Nat) : Int)), .int (iZ ((b : Nat) : Int))] [.int (iZ ((1000 : Nat) : Int))] [] 0 0 ⟨hx, hb, hml, hown, hts⟩ (c_X1_upper l D cI cJ h0 hs hp hm la lb lc g1 g2 g3 u1 u2 u3 n (n - k) a b hn (by omega) ha hb0) (cwV 4 hts gX1_lower_X1_upper rfl rfl rfl (by decide +kernel) ⟨(Nat.le_of_ble_eq_true rfl), (Nat.le_of_ble_eq_true rfl)⟩) hK hP hD hS hA [0, 1, 2, 3, 4, 5, 6] [] rfl rfl rfl rfl (by decide) 0 rfl rfl rfl hl.1 rfl (Nat.le_of_ble_eq_true rfl) dX1_lower_11 ⟨(Nat.le_of_ble_eq_true rfl), (Nat.le_of_ble_eq_true rfl)⟩ (Nat.le_of_ble_eq_true rfl) (Nat.le_of_ble_eq_true rfl) (fun r_11 u9 H locs hw hP hD hS => ?_)
  obtain ⟨⟨g4, u4⟩, ⟨g5, u5⟩, ⟨g6, u6⟩⟩ := u9
  try dsimp only at hw
  have hP : va_P D vwCl [(h0, .inr (1, [.ref hs, .ref hp, .ref hm])), (hs, .inr (8, [.ref la, .int (iZ ((u4 : Nat) : Int))])), (la, .inl (cJ, 14, .inr (.inl (LJ g4)))), (hp, .inr (8, [.ref lb, .int (iZ ((u5 : Nat) : Int))])), (lb, .inl (cJ, 14, .inr (.inl (LJ g5)))), (hm, .inr (8, [.ref lc, .int (iZ ((u6 : Nat) : Int))])), (lc, .inl (cJ, 14, .inr (.inl (LJ g6))))] H := hP
  have hD : va_D A [(h0, .inr (1, [.ref hs, .ref hp, .ref hm])), (hs, .inr (8, [.ref la, .int (iZ ((u4 : Nat) : Int))])), (la, .inl (cJ, 14, .inr (.inl (LJ g4)))), (hp, .inr (8, [.ref lb, .int (iZ ((u5 : Nat) : Int))])), (lb, .inl (cJ, 14, .inr (.inl (LJ g5)))), (hm, .inr (8, [.ref lc, .int (iZ ((u6 : Nat) : Int))])), (lc, .inl (cJ, 14, .inr (.inl (LJ g6))))] := hD
  refine tp_i (y := (iZ ((upr n (n - k) a b : Nat) : Int))) (hw) ?_
  have hle := (bsr_le (good := goodU n (n - k) a b) 1001 (lo := 0) (hi := 1000) (by decide)).2
  have hle2 : upr n (n - k) a b ≤ 1000 := hle
  refine zi_sub (z := ((1000 - upr n (n - k) a b : Nat) : Int)) hx hb dX1_lower_14 (by omega) ?_
  exact hret _ ((g4, u4), (g5, u5), (g6, u6)) _ _ _ _ _ _ (Nat.le_of_ble_eq_true rfl) (Nat.le_of_ble_eq_true rfl) rfl dX1_lower_15 (rfl) hP hD hS

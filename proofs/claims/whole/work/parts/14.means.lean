/-- a long as a number from 0 on -/
def uL (x : Int64) : Nat := x.toBitVec.toNat
theorem uL_lt (x : Int64) : uL x < 18446744073709551616 := x.toBitVec.isLt
theorem uL_eq (x : Int64) : x = lZ ((uL x : Nat) : Int) := by
  rw [lZ_lN]
  apply wb_inj
  rw [wb_tb]
  simp [uL]
theorem z_lushr33 (x : Int64) : (x.toUInt64 >>> ((iZ ((33 : Nat) : Int)).toInt64.toUInt64 &&& Int64.toUInt64 63)).toInt64 = lZ ((uL x / 8589934592 : Nat) : Int) := by
  have h := z_lushr (n := uL x) (k := 33) (uL_lt x) (by decide)
  rw [← uL_eq x] at h
  exact h
/-- one draw -/
def lcg (x : Int64) : Int64 := x * 6364136223846793005 + 1442695040888963407
def unI (x : Int64) (k : Nat) : Nat := uL x / 8589934592 % k
theorem unI_lt (x : Int64) {k : Nat} (h : 0 < k) : unI x k < k := Nat.mod_lt _ h
def dwX (x : Int64) : Nat → Int64
  | 0 => x
  | j + 1 => lcg (dwX x j)
def dwS (DF : Nat → Int) (k : Nat) (x : Int64) : Nat → Int
  | 0 => 0
  | j + 1 => dwS DF k x j + DF (unI (dwX x (j + 1)) k)
def dwR (SF : Nat → Nat) (k : Nat) (x : Int64) : Nat → Nat
  | 0 => 0
  | j + 1 => dwR SF k x j + SF (unI (dwX x (j + 1)) k)
/-- what the seed is ahead of the t-th time -/
def xT (k : Nat) (x : Int64) : Nat → Int64
  | 0 => x
  | t + 1 => dwX (xT k x t) k
/-- where a mean goes among the first t, and what stands then -/
def insPos (A : Nat → Int) (B : Nat → Nat) (a : Int) (b : Nat) : Nat → Nat
  | 0 => 0
  | y + 1 => if a * (B y : Int) < A y * (b : Int) then insPos A B a b y else y + 1
def insA (A : Nat → Int) (B : Nat → Nat) (t : Nat) (a : Int) (b : Nat) : Nat → Int := fun j => if j < insPos A B a b t then A j else if j = insPos A B a b t then a else A (j - 1)
def insB (A : Nat → Int) (B : Nat → Nat) (t : Nat) (a : Int) (b : Nat) : Nat → Nat := fun j => if j < insPos A B a b t then B j else if j = insPos A B a b t then b else B (j - 1)
def meF (DF : Nat → Int) (SF : Nat → Nat) (k : Nat) (x : Int64) : Nat → (Nat → Int) × (Nat → Nat)
  | 0 => (fun _ => 0, fun _ => 0)
  | t + 1 => (insA (meF DF SF k x t).1 (meF DF SF k x t).2 t (dwS DF k (xT k x t) k) (dwR SF k (xT k x t) k), insB (meF DF SF k x t).1 (meF DF SF k x t).2 t (dwS DF k (xT k x t) k) (dwR SF k (xT k x t) k))
/-- the means, by their fractions A by B -/
def mbd (A : Int) (B : Nat) : Prop := 0 < B ∧ B ≤ 900 ∧ -90000 ≤ A ∧ A ≤ 90000
def mok (t : Nat) (PU : Nat → Int) (QL : Nat → Nat) (A : Nat → Int) (B : Nat → Nat) : Prop := ∀ j, j < t → PU j = redU (A j) (B j) ∧ QL j = redL (A j) (B j) ∧ mbd (A j) (B j)
theorem insPos_le (A : Nat → Int) (B : Nat → Nat) (a : Int) (b : Nat) : ∀ t, insPos A B a b t ≤ t
  | 0 => Nat.le_refl _
  | t + 1 => by rw [insPos]; split
                · have := insPos_le A B a b t; omega
                · exact Nat.le_refl _
theorem insPos_p {A : Nat → Int} {B : Nat → Nat} {a : Int} {b y : Nat} (hy : 0 < y) (h : a * (B (y - 1) : Int) < A (y - 1) * (b : Int)) : insPos A B a b y = insPos A B a b (y - 1) := by
  cases y with
  | zero => omega
  | succ y => exact if_pos h
theorem insPos_n {A : Nat → Int} {B : Nat → Nat} {a : Int} {b y : Nat} (hy : 0 < y) (h : ¬ a * (B (y - 1) : Int) < A (y - 1) * (b : Int)) : insPos A B a b y = y := by
  cases y with
  | zero => omega
  | succ y => exact if_neg h
theorem mok_ins {t y : Nat} {PU P : Nat → Int} {QL Q : Nat → Nat} {A : Nat → Int} {B : Nat → Nat} {a : Int} {b : Nat} (hm : mok t PU QL A B) (hp : insPos A B a b t = y) (hy : y ≤ t) (h1 : ∀ j, j < y → P j = PU j ∧ Q j = QL j) (h2 : ∀ j, y < j → j ≤ t → P j = PU (j - 1) ∧ Q j = QL (j - 1)) (hb : mbd a b) : mok (t + 1) (zup P y (redU a b)) (nup Q y (redL a b)) (insA A B t a b) (insB A B t a b) := by
  intro j hj
  unfold insA insB
  rw [hp]
  by_cases e : j = y
  · subst e
    rw [zup_s, nup_s, if_neg (Nat.lt_irrefl j), if_neg (Nat.lt_irrefl j), if_pos rfl, if_pos rfl]
    exact ⟨rfl, rfl, hb⟩
  · rw [zup_n e, nup_n e]
    rcases (show j < y ∨ y < j by omega) with h | h
    · rw [if_pos h, if_pos h, (h1 j h).1, (h1 j h).2]
      exact hm j (by omega)
    · have n1 : ¬ j < y := by omega
      simp only [if_neg n1, if_neg e]
      rw [(h2 j h (by omega)).1, (h2 j h (by omega)).2]
      exact hm (j - 1) (by omega)
theorem redU_pos {u : Int} {d : Nat} (hd : 0 < d) : 0 < redU u d ↔ 0 < u := by
  have h := red_gt (u := u) (a := 0) (b := 1) hd
  rw [Int.zero_mul, Int.mul_one, Int.zero_mul, Int.mul_one] at h
  exact h
theorem dw_b {DF : Nat → Int} {SF : Nat → Nat} {k : Nat} (hk : 0 < k) (hk2 : k ≤ 30) (hD : ∀ i, i < k → -3000 ≤ DF i ∧ DF i ≤ 3000) (hS : ∀ i, i < k → 1 ≤ SF i ∧ SF i ≤ 30) (x : Int64) : ∀ j, j ≤ k → -3000 * (j : Int) ≤ dwS DF k x j ∧ dwS DF k x j ≤ 3000 * (j : Int) ∧ j ≤ dwR SF k x j ∧ dwR SF k x j ≤ 30 * j
  | 0, _ => by show -3000 * ((0 : Nat) : Int) ≤ 0 ∧ (0 : Int) ≤ 3000 * ((0 : Nat) : Int) ∧ 0 ≤ 0 ∧ 0 ≤ 30 * 0; omega
  | j + 1, h => by
    have ih := dw_b (DF := DF) (SF := SF) hk hk2 hD hS x j (by omega)
    have h1 := hD _ (unI_lt (dwX x (j + 1)) hk)
    have h2 := hS _ (unI_lt (dwX x (j + 1)) hk)
    rw [dwS, dwR]
    omega
theorem dw_mbd {DF : Nat → Int} {SF : Nat → Nat} {k : Nat} (hk : 0 < k) (hk2 : k ≤ 30) (hD : ∀ i, i < k → -3000 ≤ DF i ∧ DF i ≤ 3000) (hS : ∀ i, i < k → 1 ≤ SF i ∧ SF i ≤ 30) (x : Int64) : mbd (dwS DF k x k) (dwR SF k x k) := by
  have h := dw_b hk hk2 hD hS x k (Nat.le_refl k)
  unfold mbd
  omega
def abz (A : Nat → Int) (t : Nat) : Nat := cnt (fun i => decide (0 < A i)) t
def rmX2_init : Room := { frames := 2, cells := 3, slots := 122, locals := 32 }
set_option maxHeartbeats 4000000 in
set_option maxRecDepth 100000 in
theorem c_X2_init (l : Launch) (D : va_G) (cI cJ : ClassId) (h0 : Nat) : Cv l D vwCl (tyT cI cJ) yX2_init wsX2_init rmX2_init [.ref h0] [(h0, .inr (2, [.null, .null, .null, .int (iZ ((0 : Nat) : Int))]))] (Nat × Nat × Nat) (fun _ => True) (fun q => [(h0, .inr (2, [.ref q.1, .ref q.2.1, .ref q.2.2, .int (iZ ((0 : Nat) : Int))])), (q.1, .inl (cJ, 60, .inr (.inl (ZJ (fun _ => 0))))), (q.2.1, .inl (cJ, 60, .inr (.inl (LJ (fun _ => 0))))), (q.2.2, .inr (3, [.long (lZ ((0 : Nat) : Int)), .long (lZ ((1 : Nat) : Int))]))]) := by
  refine en_v (cc := cX2_init) (maxL := 1) (by decide) rfl [(0, .ref h0)] (Nat.le_of_ble_eq_true rfl) rfl ?_
  intro p e s m args below meth c Q A hx hb hml hown hts hnm hK hP hD hA hS hret ls hl
  have hh_0 := hts (.methodLink RX2 1 objectInit) (by decide +kernel)
  have hh_1 := hts (.instanceMethod objectInit) (by decide +kernel)
  have hh_2 := hts (.code objectInit ⟨#[0xb1]⟩ 1 none) (by decide +kernel)
  have hh_3 := hts (.arrayClass .long) (by decide +kernel)
  have hh_4 := hts (.fieldLink RX2 9 "BoundDraws$Means" "uppers" "[J") (by decide +kernel)
  have hh_5 := (show ∀ w ∈ wsX20, w ∈ wsX2_init by decide +kernel)
  have hh_6 := hts (.fieldLink RX2 13 "BoundDraws$Means" "lowers" "[J") (by decide +kernel)
  have hh_7 := (show ∀ w ∈ wsX40, w ∈ wsX2_init by decide +kernel)
  have hh_8 := hts (.classLink RX2 16 RX4) (by decide +kernel)
  have hh_9 := hts (.instantiable RX4 2) (by decide +kernel)
  have hh_10 := hts (.initialized RX4) (by decide +kernel)
  have hh_11 := hts (.methodLink RX2 18 yX4_init) (by decide +kernel)
  have hh_12 := hts (.instanceMethod yX4_init) (by decide +kernel)
  have hh_13 := hts (.fieldLink RX2 19 "BoundDraws$Means" "mean" "LBoundDraws$Ratio;") (by decide +kernel)
  have hh_14 := hts (.fieldLink RX2 23 "BoundDraws$Means" "used" "I") (by decide +kernel)
  refine lv_aload_n hx hb dX2_init_0 rfl (lv_at hl 0 rfl) ?_
  refine W.objInit hx hb hown hh_0 hh_1 hh_2 rfl (by rw [hml]; exact hl.1) rfl dX2_init_1 (Nat.le_of_ble_eq_true rfl) (Nat.le_of_ble_eq_true rfl) ?_
  refine W.eq (g2 := F0 m 4 ls []) rfl ?_
  refine lv_aload_n hx hb dX2_init_4 rfl (lv_at hl 0 rfl) ?_
  refine zc_bipush (z := ((60 : Nat) : Int)) hx hb dX2_init_5 (by decide) ?_
  refine zn_newJ (N := 60) hx hb hh_3 hK hP hD hS hA (Nat.le_of_ble_eq_true rfl) (Nat.le_of_ble_eq_true rfl) dX2_init_7 (fun q1 H hP hD hS => ?_)
  have hP : va_P D vwCl [(h0, .inr (2, [.null, .null, .null, .int (iZ ((0 : Nat) : Int))])), (q1, .inl (cJ, 60, .inr (.inl (ZJ (fun _ => 0)))))] H := hP
  have hD : va_D A [(h0, .inr (2, [.null, .null, .null, .int (iZ ((0 : Nat) : Int))])), (q1, .inl (cJ, 60, .inr (.inl (ZJ (fun _ => 0)))))] := hD
  refine W.widen (k := 1) (n := 60) (Nat.le_of_ble_eq_true rfl) (Nat.le_of_ble_eq_true rfl) ?_
  refine va_putF (D := D) (ci := 2) (v := .ref q1) (ty := .array .long) (C := RX2) (T := TX2) (N := 4) hx hb hts hh_5 tyX2 tyX2_ok nmX2 hown hK hP hD hS 0 rfl rfl 0 (by decide) hh_4 (fun _ h9 => h9) rfl hnm rfl (by decide +kernel) rfl rfl (Nat.le_of_ble_eq_true rfl) dX2_init_9 (fun H locs hP hD hS => ?_)
  have hP : va_P D vwCl [(h0, .inr (2, [.ref q1, .null, .null, .int (iZ ((0 : Nat) : Int))])), (q1, .inl (cJ, 60, .inr (.inl (ZJ (fun _ => 0)))))] H := hP
  have hD : va_D A [(h0, .inr (2, [.ref q1, .null, .null, .int (iZ ((0 : Nat) : Int))])), (q1, .inl (cJ, 60, .inr (.inl (ZJ (fun _ => 0)))))] := hD
  refine lv_aload_n hx hb dX2_init_12 rfl (lv_at hl 0 rfl) ?_
  refine zc_bipush (z := ((60 : Nat) : Int)) hx hb dX2_init_13 (by decide) ?_
  refine zn_newJ (N := 60) hx hb hh_3 hK hP hD hS hA (Nat.le_of_ble_eq_true rfl) (Nat.le_of_ble_eq_true rfl) dX2_init_15 (fun q2 H hP hD hS => ?_)
  have hP : va_P D vwCl [(h0, .inr (2, [.ref q1, .null, .null, .int (iZ ((0 : Nat) : Int))])), (q1, .inl (cJ, 60, .inr (.inl (ZJ (fun _ => 0))))), (q2, .inl (cJ, 60, .inr (.inl (LJ (fun _ => 0)))))] H := hP
  have hD : va_D A [(h0, .inr (2, [.ref q1, .null, .null, .int (iZ ((0 : Nat) : Int))])), (q1, .inl (cJ, 60, .inr (.inl (ZJ (fun _ => 0))))), (q2, .inl (cJ, 60, .inr (.inl (LJ (fun _ => 0)))))] := hD
  refine W.widen (k := 2) (n := 120) (Nat.le_of_ble_eq_true rfl) (Nat.le_of_ble_eq_true rfl) ?_
  refine va_putF (D := D) (ci := 2) (v := .ref q2) (ty := .array .long) (C := RX2) (T := TX2) (N := 4) hx hb hts hh_5 tyX2 tyX2_ok nmX2 hown hK hP hD hS 0 rfl rfl 1 (by decide) hh_6 (fun _ h9 => h9) rfl hnm rfl (by decide +kernel) rfl rfl (Nat.le_of_ble_eq_true rfl) dX2_init_17 (fun H locs hP hD hS => ?_)
  have hP : va_P D vwCl [(h0, .inr (2, [.ref q1, .ref q2, .null, .int (iZ ((0 : Nat) : Int))])), (q1, .inl (cJ, 60, .inr (.inl (ZJ (fun _ => 0))))), (q2, .inl (cJ, 60, .inr (.inl (LJ (fun _ => 0)))))] H := hP
  have hD : va_D A [(h0, .inr (2, [.ref q1, .ref q2, .null, .int (iZ ((0 : Nat) : Int))])), (q1, .inl (cJ, 60, .inr (.inl (ZJ (fun _ => 0))))), (q2, .inl (cJ, 60, .inr (.inl (LJ (fun _ => 0)))))] := hD
  refine lv_aload_n hx hb dX2_init_20 rfl (lv_at hl 0 rfl) ?_
  refine va_new (ci := 3) (fs := [.long (lZ ((0 : Nat) : Int)), .long (lZ ((0 : Nat) : Int))]) (C := RX4) (T := TX4) (N := 2) hx hb hts hh_7 tyX4 tyX4_ok hown hh_8 hh_9 hh_10 hK hP hD hS hA rfl (fun j hj => by rcases (show j = 0 ∨ j = 1 by omega) with rfl | rfl <;> rfl) (Nat.le_of_ble_eq_true rfl) (Nat.le_of_ble_eq_true rfl) dX2_init_21 (fun q3 H hP hD hS => ?_)
  have hP : va_P D vwCl [(h0, .inr (2, [.ref q1, .ref q2, .null, .int (iZ ((0 : Nat) : Int))])), (q1, .inl (cJ, 60, .inr (.inl (ZJ (fun _ => 0))))), (q2, .inl (cJ, 60, .inr (.inl (LJ (fun _ => 0))))), (q3, .inr (3, [.long (lZ ((0 : Nat) : Int)), .long (lZ ((0 : Nat) : Int))]))] H := hP
  have hD : va_D A [(h0, .inr (2, [.ref q1, .ref q2, .null, .int (iZ ((0 : Nat) : Int))])), (q1, .inl (cJ, 60, .inr (.inl (ZJ (fun _ => 0))))), (q2, .inl (cJ, 60, .inr (.inl (LJ (fun _ => 0))))), (q3, .inr (3, [.long (lZ ((0 : Nat) : Int)), .long (lZ ((0 : Nat) : Int))]))] := hD
  refine W.widen (k := 3) (n := 122) (Nat.le_of_ble_eq_true rfl) (Nat.le_of_ble_eq_true rfl) ?_
  refine lv_dup hx hb dX2_init_24 rfl ?_
  refine ca_vI (ret := none) [] [.ref q3, .ref h0] [(h0, .inr (2, [.ref q1, .ref q2, .null, .int (iZ ((0 : Nat) : Int))])), (q1, .inl (cJ, 60, .inr (.inl (ZJ (fun _ => 0))))), (q2, .inl (cJ, 60, .inr (.inl (LJ (fun _ => 0)))))] 3 122 ⟨hx, hb, hml, hown, hts⟩ (c_X4_init l D cI cJ q3) (cwI 0 hts gX2_init_X4_init rfl rfl rfl hh_10 hh_11 hh_12 rfl (by decide +kernel) ⟨(Nat.le_of_ble_eq_true rfl), (Nat.le_of_ble_eq_true rfl)⟩) hK hP hD hS hA [3] [0, 1, 2] rfl rfl rfl rfl (by decide) rfl hl.1 rfl (Nat.le_of_ble_eq_true rfl) dX2_init_25 ⟨(Nat.le_of_ble_eq_true rfl), (Nat.le_of_ble_eq_true rfl)⟩ (Nat.le_of_ble_eq_true rfl) (Nat.le_of_ble_eq_true rfl) (fun u9 H locs hw hP hD hS => ?_)
  obtain u9 := u9
  try dsimp only at hw
  have hP : va_P D vwCl [(h0, .inr (2, [.ref q1, .ref q2, .null, .int (iZ ((0 : Nat) : Int))])), (q1, .inl (cJ, 60, .inr (.inl (ZJ (fun _ => 0))))), (q2, .inl (cJ, 60, .inr (.inl (LJ (fun _ => 0))))), (q3, .inr (3, [.long (lZ ((0 : Nat) : Int)), .long (lZ ((1 : Nat) : Int))]))] H := hP
  have hD : va_D A [(h0, .inr (2, [.ref q1, .ref q2, .null, .int (iZ ((0 : Nat) : Int))])), (q1, .inl (cJ, 60, .inr (.inl (ZJ (fun _ => 0))))), (q2, .inl (cJ, 60, .inr (.inl (LJ (fun _ => 0))))), (q3, .inr (3, [.long (lZ ((0 : Nat) : Int)), .long (lZ ((1 : Nat) : Int))]))] := hD
  refine va_putF (D := D) (ci := 2) (v := .ref q3) (ty := .object "BoundDraws$Ratio") (C := RX2) (T := TX2) (N := 4) hx hb hts hh_5 tyX2 tyX2_ok nmX2 hown hK hP hD hS 0 rfl rfl 2 (by decide) hh_13 (fun _ h9 => h9) rfl hnm rfl (by decide +kernel) rfl rfl (Nat.le_of_ble_eq_true rfl) dX2_init_28 (fun H locs hP hD hS => ?_)
  have hP : va_P D vwCl [(h0, .inr (2, [.ref q1, .ref q2, .ref q3, .int (iZ ((0 : Nat) : Int))])), (q1, .inl (cJ, 60, .inr (.inl (ZJ (fun _ => 0))))), (q2, .inl (cJ, 60, .inr (.inl (LJ (fun _ => 0))))), (q3, .inr (3, [.long (lZ ((0 : Nat) : Int)), .long (lZ ((1 : Nat) : Int))]))] H := hP
  have hD : va_D A [(h0, .inr (2, [.ref q1, .ref q2, .ref q3, .int (iZ ((0 : Nat) : Int))])), (q1, .inl (cJ, 60, .inr (.inl (ZJ (fun _ => 0))))), (q2, .inl (cJ, 60, .inr (.inl (LJ (fun _ => 0))))), (q3, .inr (3, [.long (lZ ((0 : Nat) : Int)), .long (lZ ((1 : Nat) : Int))]))] := hD
  refine lv_aload_n hx hb dX2_init_31 rfl (lv_at hl 0 rfl) ?_
  refine zc_iconst (z := ((0 : Nat) : Int)) hx hb dX2_init_32 (by decide) ?_
  refine va_put (D := D) (ci := 2) (v := .int (iZ ((0 : Nat) : Int))) (ty := .int) (C := RX2) (T := TX2) (N := 4) hx hb hts hh_5 tyX2 tyX2_ok nmX2 hown hK hP hD hS 0 rfl rfl 3 (by decide) hh_14 (fun _ h9 => h9) rfl (by decide +kernel) rfl rfl (Nat.le_of_ble_eq_true rfl) dX2_init_33 (fun H locs hP hD hS => ?_)
  have hP : va_P D vwCl [(h0, .inr (2, [.ref q1, .ref q2, .ref q3, .int (iZ ((0 : Nat) : Int))])), (q1, .inl (cJ, 60, .inr (.inl (ZJ (fun _ => 0))))), (q2, .inl (cJ, 60, .inr (.inl (LJ (fun _ => 0))))), (q3, .inr (3, [.long (lZ ((0 : Nat) : Int)), .long (lZ ((1 : Nat) : Int))]))] H := hP
  have hD : va_D A [(h0, .inr (2, [.ref q1, .ref q2, .ref q3, .int (iZ ((0 : Nat) : Int))])), (q1, .inl (cJ, 60, .inr (.inl (ZJ (fun _ => 0))))), (q2, .inl (cJ, 60, .inr (.inl (LJ (fun _ => 0))))), (q3, .inr (3, [.long (lZ ((0 : Nat) : Int)), .long (lZ ((1 : Nat) : Int))]))] := hD
  exact hret (q1, q2, q3) _ _ _ _ _ _ (Nat.le_of_ble_eq_true rfl) (Nat.le_of_ble_eq_true rfl) dX2_init_36 (trivial) hP hD hS
def rmX2_size : Room := { frames := 0, cells := 0, slots := 0, locals := 0 }
set_option maxHeartbeats 4000000 in
set_option maxRecDepth 100000 in
theorem c_X2_size (l : Launch) (D : va_G) (cI cJ : ClassId) (h0 pa qa hq : Nat) (t : Nat) (PU : Nat → Int) (QL : Nat → Nat) : Ci l D vwCl (tyT cI cJ) yX2_size wsX2_size rmX2_size [.ref h0] [(h0, .inr (2, [.ref pa, .ref qa, .ref hq, .int (iZ ((t : Nat) : Int))])), (pa, .inl (cJ, 60, .inr (.inl (ZJ PU)))), (qa, .inl (cJ, 60, .inr (.inl (LJ QL))))] (Unit) (fun r _ => r = iZ ((t : Nat) : Int)) (fun _ => [(h0, .inr (2, [.ref pa, .ref qa, .ref hq, .int (iZ ((t : Nat) : Int))])), (pa, .inl (cJ, 60, .inr (.inl (ZJ PU)))), (qa, .inl (cJ, 60, .inr (.inl (LJ QL))))]) := by
  refine en_i (cc := cX2_size) (maxL := 1) (by decide) rfl [(0, .ref h0)] (Nat.le_of_ble_eq_true rfl) rfl ?_
  intro p e s m args below meth c Q A hx hb hml hown hts hnm hK hP hD hA hS hret ls hl
  have hh_0 := hts (.fieldLink RX2 23 "BoundDraws$Means" "used" "I") (by decide +kernel)
  have hh_1 := (show ∀ w ∈ wsX20, w ∈ wsX2_size by decide +kernel)
  refine lv_aload_n hx hb dX2_size_0 rfl (lv_at hl 0 rfl) ?_
  refine va_get (D := D) (ci := 2) (v := .int (iZ ((t : Nat) : Int))) (C := RX2) (T := TX2) (N := 4) hx hb hts hh_1 hown hK hP 0 rfl rfl 3 (by decide) hh_0 (fun _ h9 => h9) rfl dX2_size_1 ?_
  exact hret _ (()) _ _ _ _ _ _ (Nat.le_of_ble_eq_true rfl) (Nat.le_of_ble_eq_true rfl) rfl dX2_size_4 (rfl) hP hD hS
def rmX2_empty : Room := { frames := 0, cells := 0, slots := 0, locals := 0 }
set_option maxHeartbeats 4000000 in
set_option maxRecDepth 100000 in
theorem c_X2_empty (l : Launch) (D : va_G) (cI cJ : ClassId) (h0 pa qa hq : Nat) (t : Nat) (PU : Nat → Int) (QL : Nat → Nat) : Cv l D vwCl (tyT cI cJ) yX2_empty wsX2_empty rmX2_empty [.ref h0] [(h0, .inr (2, [.ref pa, .ref qa, .ref hq, .int (iZ ((t : Nat) : Int))])), (pa, .inl (cJ, 60, .inr (.inl (ZJ PU)))), (qa, .inl (cJ, 60, .inr (.inl (LJ QL))))] (Unit) (fun _ => True) (fun _ => [(h0, .inr (2, [.ref pa, .ref qa, .ref hq, .int (iZ ((0 : Nat) : Int))])), (pa, .inl (cJ, 60, .inr (.inl (ZJ PU)))), (qa, .inl (cJ, 60, .inr (.inl (LJ QL))))]) := by
  refine en_v (cc := cX2_empty) (maxL := 1) (by decide) rfl [(0, .ref h0)] (Nat.le_of_ble_eq_true rfl) rfl ?_
  intro p e s m args below meth c Q A hx hb hml hown hts hnm hK hP hD hA hS hret ls hl
  have hh_0 := hts (.fieldLink RX2 23 "BoundDraws$Means" "used" "I") (by decide +kernel)
  have hh_1 := (show ∀ w ∈ wsX20, w ∈ wsX2_empty by decide +kernel)
  refine lv_aload_n hx hb dX2_empty_0 rfl (lv_at hl 0 rfl) ?_
  refine zc_iconst (z := ((0 : Nat) : Int)) hx hb dX2_empty_1 (by decide) ?_
  refine va_put (D := D) (ci := 2) (v := .int (iZ ((0 : Nat) : Int))) (ty := .int) (C := RX2) (T := TX2) (N := 4) hx hb hts hh_1 tyX2 tyX2_ok nmX2 hown hK hP hD hS 0 rfl rfl 3 (by decide) hh_0 (fun _ h9 => h9) rfl (by decide +kernel) rfl rfl (Nat.le_of_ble_eq_true rfl) dX2_empty_2 (fun H locs hP hD hS => ?_)
  have hP : va_P D vwCl [(h0, .inr (2, [.ref pa, .ref qa, .ref hq, .int (iZ ((0 : Nat) : Int))])), (pa, .inl (cJ, 60, .inr (.inl (ZJ PU)))), (qa, .inl (cJ, 60, .inr (.inl (LJ QL))))] H := hP
  have hD : va_D A [(h0, .inr (2, [.ref pa, .ref qa, .ref hq, .int (iZ ((0 : Nat) : Int))])), (pa, .inl (cJ, 60, .inr (.inl (ZJ PU)))), (qa, .inl (cJ, 60, .inr (.inl (LJ QL))))] := hD
  exact hret (()) _ _ _ _ _ _ (Nat.le_of_ble_eq_true rfl) (Nat.le_of_ble_eq_true rfl) dX2_empty_5 (trivial) hP hD hS
def rmX2_told : Room := { frames := 0, cells := 0, slots := 0, locals := 0 }
set_option maxHeartbeats 4000000 in
set_option maxRecDepth 100000 in
theorem c_X2_told (l : Launch) (D : va_G) (cI cJ : ClassId) (h0 pa qa hq : Nat) (t : Nat) (PU : Nat → Int) (QL : Nat → Nat) (ht : t ≤ 60) (i sd : Nat) (hi : i < t) (hsd : sd ≤ 1) : Cl l D vwCl (tyT cI cJ) yX2_told wsX2_told rmX2_told [.ref h0, .int (iZ ((i : Nat) : Int)), .int (iZ ((sd : Nat) : Int))] [(h0, .inr (2, [.ref pa, .ref qa, .ref hq, .int (iZ ((t : Nat) : Int))])), (pa, .inl (cJ, 60, .inr (.inl (ZJ PU)))), (qa, .inl (cJ, 60, .inr (.inl (LJ QL))))] (Unit) (fun r _ => r = lZ (if sd = 0 then PU i else ((QL i : Nat) : Int))) (fun _ => [(h0, .inr (2, [.ref pa, .ref qa, .ref hq, .int (iZ ((t : Nat) : Int))])), (pa, .inl (cJ, 60, .inr (.inl (ZJ PU)))), (qa, .inl (cJ, 60, .inr (.inl (LJ QL))))]) := by
  refine en_l (cc := cX2_told) (maxL := 3) (by decide) rfl [(0, .ref h0), (1, .int (iZ ((i : Nat) : Int))), (2, .int (iZ ((sd : Nat) : Int)))] (Nat.le_of_ble_eq_true rfl) rfl ?_
  intro p e s m args below meth c Q A hx hb hml hown hts hnm hK hP hD hA hS hret ls hl
  have hh_0 := hts (.fieldLink RX2 23 "BoundDraws$Means" "used" "I") (by decide +kernel)
  have hh_1 := (show ∀ w ∈ wsX20, w ∈ wsX2_told by decide +kernel)
  have hh_2 := hts (.fieldLink RX2 13 "BoundDraws$Means" "lowers" "[J") (by decide +kernel)
  have hh_3 := hts (.fieldLink RX2 9 "BoundDraws$Means" "uppers" "[J") (by decide +kernel)
  refine lv_iload_n hx hb dX2_told_0 rfl (lv_at hl 1 rfl) ?_
  refine zb_if_lt (x := ((i : Nat) : Int)) (tgt := 12) hx hb dX2_told_1 (by decide) ⟨by omega, by omega⟩ (fun c_1 => ?_) (fun c_1 => ?_)
  · exfalso; omega
  · refine lv_iload_n hx hb dX2_told_4 rfl (lv_at hl 1 rfl) ?_
    refine lv_aload_n hx hb dX2_told_5 rfl (lv_at hl 0 rfl) ?_
    refine va_get (D := D) (ci := 2) (v := .int (iZ ((t : Nat) : Int))) (C := RX2) (T := TX2) (N := 4) hx hb hts hh_1 hown hK hP 0 rfl rfl 3 (by decide) hh_0 (fun _ h9 => h9) rfl dX2_told_6 ?_
    refine zb_icmp_lt (x := ((i : Nat) : Int)) (y := ((t : Nat) : Int)) (tgt := 14) hx hb dX2_told_9 (by decide) ⟨by omega, by omega⟩ ⟨by omega, by omega⟩ (fun c_9 => ?_) (fun c_9 => ?_)
    · refine lv_iload_n hx hb dX2_told_14 rfl (lv_at hl 2 rfl) ?_
      refine zb_if_ne (x := ((sd : Nat) : Int)) (tgt := 27) hx hb dX2_told_15 (by decide) ⟨by omega, by omega⟩ (fun c_15 => ?_) (fun c_15 => ?_)
      · refine lv_aload_n hx hb dX2_told_27 rfl (lv_at hl 0 rfl) ?_
        refine va_get (D := D) (ci := 2) (v := .ref qa) (C := RX2) (T := TX2) (N := 4) hx hb hts hh_1 hown hK hP 0 rfl rfl 1 (by decide) hh_2 (fun _ h9 => h9) rfl dX2_told_28 ?_
        refine lv_iload_n hx hb dX2_told_31 rfl (lv_at hl 1 rfl) ?_
        refine za_lald hx hb hK hP 2 1 rfl rfl (i) (v := ((QL i : Nat) : Int)) (by decide) rfl (by omega) (rfl) dX2_told_32 ?_
        exact hret _ (()) _ _ _ _ _ _ (Nat.le_of_ble_eq_true rfl) (Nat.le_of_ble_eq_true rfl) dX2_told_33 (by rw [if_neg (by omega)]) hP hD hS
      · refine lv_aload_n hx hb dX2_told_18 rfl (lv_at hl 0 rfl) ?_
        refine va_get (D := D) (ci := 2) (v := .ref pa) (C := RX2) (T := TX2) (N := 4) hx hb hts hh_1 hown hK hP 0 rfl rfl 0 (by decide) hh_3 (fun _ h9 => h9) rfl dX2_told_19 ?_
        refine lv_iload_n hx hb dX2_told_22 rfl (lv_at hl 1 rfl) ?_
        refine za_lald hx hb hK hP 1 1 rfl rfl (i) (v := (PU i)) (by decide) rfl (by omega) (rfl) dX2_told_23 ?_
        refine lv_goto (tgt := 33) hx hb dX2_told_24 (by decide) ?_
        exact hret _ (()) _ _ _ _ _ _ (Nat.le_of_ble_eq_true rfl) (Nat.le_of_ble_eq_true rfl) dX2_told_33 (by rw [if_pos (by omega)]) hP hD hS
    · exfalso; omega
def rmX2_aboveZero : Room := { frames := 0, cells := 0, slots := 0, locals := 0 }
set_option maxHeartbeats 4000000 in
set_option maxRecDepth 100000 in
theorem c_X2_aboveZero (l : Launch) (D : va_G) (cI cJ : ClassId) (h0 pa qa hq : Nat) (t : Nat) (PU : Nat → Int) (QL : Nat → Nat) (A0 : Nat → Int) (B0 : Nat → Nat) (ht : t ≤ 60) (hm : mok t PU QL A0 B0) : Ci l D vwCl (tyT cI cJ) yX2_aboveZero wsX2_aboveZero rmX2_aboveZero [.ref h0] [(h0, .inr (2, [.ref pa, .ref qa, .ref hq, .int (iZ ((t : Nat) : Int))])), (pa, .inl (cJ, 60, .inr (.inl (ZJ PU)))), (qa, .inl (cJ, 60, .inr (.inl (LJ QL))))] (Unit) (fun r _ => r = iZ ((abz A0 t : Nat) : Int)) (fun _ => [(h0, .inr (2, [.ref pa, .ref qa, .ref hq, .int (iZ ((t : Nat) : Int))])), (pa, .inl (cJ, 60, .inr (.inl (ZJ PU)))), (qa, .inl (cJ, 60, .inr (.inl (LJ QL))))]) := by
  refine en_i (cc := cX2_aboveZero) (maxL := 3) (by decide) rfl [(0, .ref h0)] (Nat.le_of_ble_eq_true rfl) rfl ?_
  intro p e s m args below meth c Q A hx hb hml hown hts hnm hK hP hD hA hS hret ls hl
  have hh_0 := hts (.fieldLink RX2 23 "BoundDraws$Means" "used" "I") (by decide +kernel)
  have hh_1 := (show ∀ w ∈ wsX20, w ∈ wsX2_aboveZero by decide +kernel)
  have hh_2 := hts (.fieldLink RX2 9 "BoundDraws$Means" "uppers" "[J") (by decide +kernel)
  refine zc_iconst (z := ((0 : Nat) : Int)) hx hb dX2_aboveZero_0 (by decide) ?_
  refine tp_i (y := (iZ ((abz A0 0 : Nat) : Int))) (rfl) ?_
  refine lv_istore_n (lv' := [(1, .int (iZ ((abz A0 0 : Nat) : Int))), (0, .ref h0)]) hx hb dX2_aboveZero_1 rfl hl (by decide) rfl (fun ls hl => ?_)
  refine zc_iconst (z := ((0 : Nat) : Int)) hx hb dX2_aboveZero_2 (by decide) ?_
  refine lv_istore_n (lv' := [(2, .int (iZ ((0 : Nat) : Int))), (1, .int (iZ ((abz A0 0 : Nat) : Int))), (0, .ref h0)]) hx hb dX2_aboveZero_3 rfl hl (by decide) rfl (fun ls hl => ?_)
  have pt_4 : ∀ f : Nat, ∀ (i : Nat), (hi : i ≤ t) → (hf : t < i + f) → (H : Heap) → (locs : List Loc) → va_P D vwCl [(h0, .inr (2, [.ref pa, .ref qa, .ref hq, .int (iZ ((t : Nat) : Int))])), (pa, .inl (cJ, 60, .inr (.inl (ZJ PU)))), (qa, .inl (cJ, 60, .inr (.inl (LJ QL))))] H → va_D A [(h0, .inr (2, [.ref pa, .ref qa, .ref hq, .int (iZ ((t : Nat) : Int))])), (pa, .inl (cJ, 60, .inr (.inl (ZJ PU)))), (qa, .inl (cJ, 60, .inr (.inl (LJ QL))))] → va_S A s.heap H locs → (ls : Array Slot) → lv_has ls 3 [(2, .int (iZ ((i : Nat) : Int))), (1, .int (iZ ((abz A0 i : Nat) : Int))), (0, .ref h0)] → W p l e rmX2_aboveZero s m args below meth c H locs 0 0 Q (F0 m 4 ls []) := by
    intro f
    induction f with
    | zero =>
      intro i hi hf H locs hP hD hS ls hl
      exfalso; omega
    | succ f ih_4 =>
      intro i hi hf H locs hP hD hS ls hl
      refine lv_iload_n hx hb dX2_aboveZero_4 rfl (lv_at hl 0 rfl) ?_
      refine lv_aload_n hx hb dX2_aboveZero_5 rfl (lv_at hl 2 rfl) ?_
      refine va_get (D := D) (ci := 2) (v := .int (iZ ((t : Nat) : Int))) (C := RX2) (T := TX2) (N := 4) hx hb hts hh_1 hown hK hP 0 rfl rfl 3 (by decide) hh_0 (fun _ h9 => h9) rfl dX2_aboveZero_6 ?_
      refine zb_icmp_ge (x := ((i : Nat) : Int)) (y := ((t : Nat) : Int)) (tgt := 32) hx hb dX2_aboveZero_9 (by decide) ⟨by omega, by omega⟩ ⟨by omega, by omega⟩ (fun c_9 => ?_) (fun c_9 => ?_)
      · refine lv_iload_n hx hb dX2_aboveZero_32 rfl (lv_at hl 1 rfl) ?_
        exact hret _ (()) _ _ _ _ _ _ (Nat.le_of_ble_eq_true rfl) (Nat.le_of_ble_eq_true rfl) rfl dX2_aboveZero_33 (by have e9 : i = t := (by omega); rw [e9]) hP hD hS
      · have pt_26 : (H : Heap) → (locs : List Loc) → va_P D vwCl [(h0, .inr (2, [.ref pa, .ref qa, .ref hq, .int (iZ ((t : Nat) : Int))])), (pa, .inl (cJ, 60, .inr (.inl (ZJ PU)))), (qa, .inl (cJ, 60, .inr (.inl (LJ QL))))] H → va_D A [(h0, .inr (2, [.ref pa, .ref qa, .ref hq, .int (iZ ((t : Nat) : Int))])), (pa, .inl (cJ, 60, .inr (.inl (ZJ PU)))), (qa, .inl (cJ, 60, .inr (.inl (LJ QL))))] → va_S A s.heap H locs → (ls : Array Slot) → lv_has ls 3 [(2, .int (iZ ((i : Nat) : Int))), (1, .int (iZ ((abz A0 (i + 1) : Nat) : Int))), (0, .ref h0)] → W p l e rmX2_aboveZero s m args below meth c H locs 0 0 Q (F0 m 26 ls []) := by
          intro   H locs hP hD hS ls hl
          refine lv_iinc (v := iZ ((i + 1 : Nat) : Int)) (lv' := [(2, .int (iZ ((i + 1 : Nat) : Int))), (1, .int (iZ ((abz A0 (i + 1) : Nat) : Int))), (0, .ref h0)]) hx hb dX2_aboveZero_26 hl (k := 0) rfl (zi_inc (by omega)) (by decide) rfl (fun ls hl => ?_)
          refine lv_goto (tgt := 4) hx hb dX2_aboveZero_29 (by decide) ?_
          exact ih_4 (i + 1) (by omega) (by omega) _ _ hP hD hS ls (lv_sub hl [0, 1, 2] rfl)
        obtain ⟨hm1, hm2, hm3, hm4, hm5, hm6⟩ := hm i (by omega)
        have hb9 := redU_b (u := A0 i) (d := B0 i) (B := 90000) hm3 (by omega) (by omega)
        rw [← hm1] at hb9
        have hps := redU_pos (u := A0 i) hm3
        rw [← hm1] at hps
        refine lv_aload_n hx hb dX2_aboveZero_12 rfl (lv_at hl 2 rfl) ?_
        refine va_get (D := D) (ci := 2) (v := .ref pa) (C := RX2) (T := TX2) (N := 4) hx hb hts hh_1 hown hK hP 0 rfl rfl 0 (by decide) hh_2 (fun _ h9 => h9) rfl dX2_aboveZero_13 ?_
        refine lv_iload_n hx hb dX2_aboveZero_16 rfl (lv_at hl 0 rfl) ?_
        refine za_lald hx hb hK hP 1 1 rfl rfl (i) (v := (PU i)) (by decide) rfl (by omega) (rfl) dX2_aboveZero_17 ?_
        refine zc_lconst (z := ((0 : Nat) : Int)) hx hb dX2_aboveZero_18 (by decide) ?_
        refine zb_l_le (x := (PU i)) (y := ((0 : Nat) : Int)) (tgt := 26) hx hb dX2_aboveZero_19 dX2_aboveZero_20 (by decide) ⟨by omega, by omega⟩ ⟨by decide, by decide⟩ (fun c_19 => ?_) (fun c_19 => ?_)
        · have e9 : abz A0 (i + 1) = abz A0 i := cnt_f (by simp; omega)
          rw [← e9] at hl
          exact pt_26   _ _ hP hD hS ls (lv_sub hl [0, 1, 2] rfl)
        · refine lv_iinc (v := iZ ((abz A0 (i + 1) : Nat) : Int)) (lv' := [(1, .int (iZ ((abz A0 (i + 1) : Nat) : Int))), (2, .int (iZ ((i : Nat) : Int))), (0, .ref h0)]) hx hb dX2_aboveZero_23 hl (k := 1) rfl (zi_inc (by have e9 : abz A0 (i + 1) = abz A0 i + 1 := cnt_t (by simp; omega); omega)) (by decide) rfl (fun ls hl => ?_)
          exact pt_26   _ _ hP hD hS ls (lv_sub hl [1, 0, 2] rfl)
  exact pt_4 (t + 1) 0 (by omega) (by omega) _ _ hP hD hS ls (lv_sub hl [0, 1, 2] rfl)
def rmX2_insertMean : Room := { frames := 1, cells := 0, slots := 0, locals := 24 }
set_option maxHeartbeats 4000000 in
set_option maxRecDepth 100000 in
theorem c_X2_insertMean (l : Launch) (D : va_G) (cI cJ : ClassId) (h0 pa qa hq : Nat) (t : Nat) (PU : Nat → Int) (QL : Nat → Nat) (A0 : Nat → Int) (B0 : Nat → Nat) (a0 : Int) (b0 : Nat) (ht : t < 60) (hm : mok t PU QL A0 B0) (hab : mbd a0 b0) : Cv l D vwCl (tyT cI cJ) yX2_insertMean wsX2_insertMean rmX2_insertMean [.ref h0] [(h0, .inr (2, [.ref pa, .ref qa, .ref hq, .int (iZ ((t : Nat) : Int))])), (pa, .inl (cJ, 60, .inr (.inl (ZJ PU)))), (qa, .inl (cJ, 60, .inr (.inl (LJ QL)))), (hq, .inr (3, [.long (lZ (redU a0 b0)), .long (lZ ((redL a0 b0 : Nat) : Int))]))] ((Nat → Int) × (Nat → Nat)) (fun r => mok (t + 1) r.1 r.2 (insA A0 B0 t a0 b0) (insB A0 B0 t a0 b0)) (fun r => [(h0, .inr (2, [.ref pa, .ref qa, .ref hq, .int (iZ ((t + 1 : Nat) : Int))])), (pa, .inl (cJ, 60, .inr (.inl (ZJ r.1)))), (qa, .inl (cJ, 60, .inr (.inl (LJ r.2)))), (hq, .inr (3, [.long (lZ (redU a0 b0)), .long (lZ ((redL a0 b0 : Nat) : Int))]))]) := by
  obtain ⟨k1, k2, k3, k4⟩ := id hab
  have hra := redU_b (u := a0) (d := b0) (B := 90000) k1 (by omega) (by omega)
  have hrb := redL_le (u := a0) (d := b0)
  refine en_v (cc := cX2_insertMean) (maxL := 2) (by decide) rfl [(0, .ref h0)] (Nat.le_of_ble_eq_true rfl) rfl ?_
  intro p e s m args below meth c Q A hx hb hml hown hts hnm hK hP hD hA hS hret ls hl
  have hh_0 := hts (.fieldLink RX2 23 "BoundDraws$Means" "used" "I") (by decide +kernel)
  have hh_1 := (show ∀ w ∈ wsX20, w ∈ wsX2_insertMean by decide +kernel)
  have hh_2 := hts (.fieldLink RX2 9 "BoundDraws$Means" "uppers" "[J") (by decide +kernel)
  have hh_3 := hts (.fieldLink RX2 19 "BoundDraws$Means" "mean" "LBoundDraws$Ratio;") (by decide +kernel)
  have hh_4 := hts (.fieldLink RX2 13 "BoundDraws$Means" "lowers" "[J") (by decide +kernel)
  refine lv_aload_n hx hb dX2_insertMean_0 rfl (lv_at hl 0 rfl) ?_
  refine va_get (D := D) (ci := 2) (v := .int (iZ ((t : Nat) : Int))) (C := RX2) (T := TX2) (N := 4) hx hb hts hh_1 hown hK hP 0 rfl rfl 3 (by decide) hh_0 (fun _ h9 => h9) rfl dX2_insertMean_1 ?_
  refine zc_bipush (z := ((60 : Nat) : Int)) hx hb dX2_insertMean_4 (by decide) ?_
  refine zb_icmp_lt (x := ((t : Nat) : Int)) (y := ((60 : Nat) : Int)) (tgt := 10) hx hb dX2_insertMean_6 (by decide) ⟨by omega, by omega⟩ ⟨by decide, by decide⟩ (fun c_6 => ?_) (fun c_6 => ?_)
  · refine lv_aload_n hx hb dX2_insertMean_10 rfl (lv_at hl 0 rfl) ?_
    refine va_get (D := D) (ci := 2) (v := .int (iZ ((t : Nat) : Int))) (C := RX2) (T := TX2) (N := 4) hx hb hts hh_1 hown hK hP 0 rfl rfl 3 (by decide) hh_0 (fun _ h9 => h9) rfl dX2_insertMean_11 ?_
    refine lv_istore_n (lv' := [(1, .int (iZ ((t : Nat) : Int))), (0, .ref h0)]) hx hb dX2_insertMean_14 rfl hl (by decide) rfl (fun ls hl => ?_)
    have pt_15 : ∀ f : Nat, ∀ (y : Nat) (P0 : Nat → Int) (Q0 : Nat → Nat), (hy : y ≤ t) → (hps : insPos A0 B0 a0 b0 t = insPos A0 B0 a0 b0 y) → (h1 : ∀ j, j ≤ y → P0 j = PU j ∧ Q0 j = QL j) → (h2 : ∀ j, y < j → j ≤ t → P0 j = PU (j - 1) ∧ Q0 j = QL (j - 1)) → (hf : y < f) → (H : Heap) → (locs : List Loc) → va_P D vwCl [(h0, .inr (2, [.ref pa, .ref qa, .ref hq, .int (iZ ((t : Nat) : Int))])), (pa, .inl (cJ, 60, .inr (.inl (ZJ P0)))), (qa, .inl (cJ, 60, .inr (.inl (LJ Q0)))), (hq, .inr (3, [.long (lZ (redU a0 b0)), .long (lZ ((redL a0 b0 : Nat) : Int))]))] H → va_D A [(h0, .inr (2, [.ref pa, .ref qa, .ref hq, .int (iZ ((t : Nat) : Int))])), (pa, .inl (cJ, 60, .inr (.inl (ZJ P0)))), (qa, .inl (cJ, 60, .inr (.inl (LJ Q0)))), (hq, .inr (3, [.long (lZ (redU a0 b0)), .long (lZ ((redL a0 b0 : Nat) : Int))]))] → va_S A s.heap H locs → (ls : Array Slot) → lv_has ls 2 [(1, .int (iZ ((y : Nat) : Int))), (0, .ref h0)] → W p l e rmX2_insertMean s m args below meth c H locs 0 0 Q (F0 m 15 ls []) := by
      intro f
      induction f with
      | zero =>
        intro y P0 Q0 hy hps h1 h2 hf H locs hP hD hS ls hl
        exfalso; omega
      | succ f ih_15 =>
        intro y P0 Q0 hy hps h1 h2 hf H locs hP hD hS ls hl
        refine lv_iload_n hx hb dX2_insertMean_15 rfl (lv_at hl 0 rfl) ?_
        have pt_79 : (hps : insPos A0 B0 a0 b0 t = y) → (H : Heap) → (locs : List Loc) → va_P D vwCl [(h0, .inr (2, [.ref pa, .ref qa, .ref hq, .int (iZ ((t : Nat) : Int))])), (pa, .inl (cJ, 60, .inr (.inl (ZJ P0)))), (qa, .inl (cJ, 60, .inr (.inl (LJ Q0)))), (hq, .inr (3, [.long (lZ (redU a0 b0)), .long (lZ ((redL a0 b0 : Nat) : Int))]))] H → va_D A [(h0, .inr (2, [.ref pa, .ref qa, .ref hq, .int (iZ ((t : Nat) : Int))])), (pa, .inl (cJ, 60, .inr (.inl (ZJ P0)))), (qa, .inl (cJ, 60, .inr (.inl (LJ Q0)))), (hq, .inr (3, [.long (lZ (redU a0 b0)), .long (lZ ((redL a0 b0 : Nat) : Int))]))] → va_S A s.heap H locs → (ls : Array Slot) → lv_has ls 2 [(1, .int (iZ ((y : Nat) : Int))), (0, .ref h0)] → W p l e rmX2_insertMean s m args below meth c H locs 0 0 Q (F0 m 79 ls []) := by
          intro  hps H locs hP hD hS ls hl
          refine lv_aload_n hx hb dX2_insertMean_79 rfl (lv_at hl 1 rfl) ?_
          refine va_get (D := D) (ci := 2) (v := .ref pa) (C := RX2) (T := TX2) (N := 4) hx hb hts hh_1 hown hK hP 0 rfl rfl 0 (by decide) hh_2 (fun _ h9 => h9) rfl dX2_insertMean_80 ?_
          refine lv_iload_n hx hb dX2_insertMean_83 rfl (lv_at hl 0 rfl) ?_
          refine lv_aload_n hx hb dX2_insertMean_84 rfl (lv_at hl 1 rfl) ?_
          refine va_get (D := D) (ci := 2) (v := .ref hq) (C := RX2) (T := TX2) (N := 4) hx hb hts hh_1 hown hK hP 0 rfl rfl 2 (by decide) hh_3 (fun _ h9 => h9) rfl dX2_insertMean_85 ?_
          refine zc_iconst (z := ((0 : Nat) : Int)) hx hb dX2_insertMean_88 (by decide) ?_
          refine ca_lV [.int (iZ ((0 : Nat) : Int))] [.int (iZ ((y : Nat) : Int)), .ref pa] [(h0, .inr (2, [.ref pa, .ref qa, .ref hq, .int (iZ ((t : Nat) : Int))])), (pa, .inl (cJ, 60, .inr (.inl (ZJ P0)))), (qa, .inl (cJ, 60, .inr (.inl (LJ Q0))))] 0 0 ⟨hx, hb, hml, hown, hts⟩ (c_X4_told l D cI cJ hq (redU a0 b0) ((redL a0 b0 : Nat) : Int) ((0 : Nat) : Int) (by decide)) (cwV 1 hts gX2_insertMean_X4_told rfl rfl rfl (by decide +kernel) ⟨(Nat.le_of_ble_eq_true rfl), (Nat.le_of_ble_eq_true rfl)⟩) hK hP hD hS hA [3] [0, 1, 2] rfl rfl rfl rfl (by decide) 0 rfl rfl rfl hl.1 rfl (Nat.le_of_ble_eq_true rfl) dX2_insertMean_89 ⟨(Nat.le_of_ble_eq_true rfl), (Nat.le_of_ble_eq_true rfl)⟩ (Nat.le_of_ble_eq_true rfl) (Nat.le_of_ble_eq_true rfl) (fun r_89 u9 H locs hw hP hD hS => ?_)
          obtain u9 := u9
          try dsimp only at hw
          have hP : va_P D vwCl [(h0, .inr (2, [.ref pa, .ref qa, .ref hq, .int (iZ ((t : Nat) : Int))])), (pa, .inl (cJ, 60, .inr (.inl (ZJ P0)))), (qa, .inl (cJ, 60, .inr (.inl (LJ Q0)))), (hq, .inr (3, [.long (lZ (redU a0 b0)), .long (lZ ((redL a0 b0 : Nat) : Int))]))] H := hP
          have hD : va_D A [(h0, .inr (2, [.ref pa, .ref qa, .ref hq, .int (iZ ((t : Nat) : Int))])), (pa, .inl (cJ, 60, .inr (.inl (ZJ P0)))), (qa, .inl (cJ, 60, .inr (.inl (LJ Q0)))), (hq, .inr (3, [.long (lZ (redU a0 b0)), .long (lZ ((redL a0 b0 : Nat) : Int))]))] := hD
          refine tp_l (y := (lZ (redU a0 b0))) (hw.trans rfl) ?_
          refine za_last hx hb hK hP hD hS 1 1 rfl rfl (y) (by decide) rfl (by omega) dX2_insertMean_92 (fun H locs hP hD hS => ?_)
          have hP : va_P D vwCl [(h0, .inr (2, [.ref pa, .ref qa, .ref hq, .int (iZ ((t : Nat) : Int))])), (pa, .inl (cJ, 60, .inr (.inl (vp_updL (ZJ P0) (y) ((lZ (redU a0 b0))))))), (qa, .inl (cJ, 60, .inr (.inl (LJ Q0)))), (hq, .inr (3, [.long (lZ (redU a0 b0)), .long (lZ ((redL a0 b0 : Nat) : Int))]))] H := hP
          have hD : va_D A [(h0, .inr (2, [.ref pa, .ref qa, .ref hq, .int (iZ ((t : Nat) : Int))])), (pa, .inl (cJ, 60, .inr (.inl (vp_updL (ZJ P0) (y) ((lZ (redU a0 b0))))))), (qa, .inl (cJ, 60, .inr (.inl (LJ Q0)))), (hq, .inr (3, [.long (lZ (redU a0 b0)), .long (lZ ((redL a0 b0 : Nat) : Int))]))] := hD
          rw [ZJ_up] at hP hD
          have hP : va_P D vwCl [(h0, .inr (2, [.ref pa, .ref qa, .ref hq, .int (iZ ((t : Nat) : Int))])), (pa, .inl (cJ, 60, .inr (.inl (ZJ (zup P0 (y) ((redU a0 b0))))))), (qa, .inl (cJ, 60, .inr (.inl (LJ Q0)))), (hq, .inr (3, [.long (lZ (redU a0 b0)), .long (lZ ((redL a0 b0 : Nat) : Int))]))] H := hP
          have hD : va_D A [(h0, .inr (2, [.ref pa, .ref qa, .ref hq, .int (iZ ((t : Nat) : Int))])), (pa, .inl (cJ, 60, .inr (.inl (ZJ (zup P0 (y) ((redU a0 b0))))))), (qa, .inl (cJ, 60, .inr (.inl (LJ Q0)))), (hq, .inr (3, [.long (lZ (redU a0 b0)), .long (lZ ((redL a0 b0 : Nat) : Int))]))] := hD
          refine lv_aload_n hx hb dX2_insertMean_93 rfl (lv_at hl 1 rfl) ?_
          refine va_get (D := D) (ci := 2) (v := .ref qa) (C := RX2) (T := TX2) (N := 4) hx hb hts hh_1 hown hK hP 0 rfl rfl 1 (by decide) hh_4 (fun _ h9 => h9) rfl dX2_insertMean_94 ?_
          refine lv_iload_n hx hb dX2_insertMean_97 rfl (lv_at hl 0 rfl) ?_
          refine lv_aload_n hx hb dX2_insertMean_98 rfl (lv_at hl 1 rfl) ?_
          refine va_get (D := D) (ci := 2) (v := .ref hq) (C := RX2) (T := TX2) (N := 4) hx hb hts hh_1 hown hK hP 0 rfl rfl 2 (by decide) hh_3 (fun _ h9 => h9) rfl dX2_insertMean_99 ?_
          refine zc_iconst (z := ((1 : Nat) : Int)) hx hb dX2_insertMean_102 (by decide) ?_
          refine ca_lV [.int (iZ ((1 : Nat) : Int))] [.int (iZ ((y : Nat) : Int)), .ref qa] [(h0, .inr (2, [.ref pa, .ref qa, .ref hq, .int (iZ ((t : Nat) : Int))])), (pa, .inl (cJ, 60, .inr (.inl (ZJ (zup P0 (y) ((redU a0 b0))))))), (qa, .inl (cJ, 60, .inr (.inl (LJ Q0))))] 0 0 ⟨hx, hb, hml, hown, hts⟩ (c_X4_told l D cI cJ hq (redU a0 b0) ((redL a0 b0 : Nat) : Int) ((1 : Nat) : Int) (by decide)) (cwV 1 hts gX2_insertMean_X4_told rfl rfl rfl (by decide +kernel) ⟨(Nat.le_of_ble_eq_true rfl), (Nat.le_of_ble_eq_true rfl)⟩) hK hP hD hS hA [3] [0, 1, 2] rfl rfl rfl rfl (by decide) 0 rfl rfl rfl hl.1 rfl (Nat.le_of_ble_eq_true rfl) dX2_insertMean_103 ⟨(Nat.le_of_ble_eq_true rfl), (Nat.le_of_ble_eq_true rfl)⟩ (Nat.le_of_ble_eq_true rfl) (Nat.le_of_ble_eq_true rfl) (fun r_103 u9 H locs hw hP hD hS => ?_)
          obtain u9 := u9
          try dsimp only at hw
          have hP : va_P D vwCl [(h0, .inr (2, [.ref pa, .ref qa, .ref hq, .int (iZ ((t : Nat) : Int))])), (pa, .inl (cJ, 60, .inr (.inl (ZJ (zup P0 (y) ((redU a0 b0))))))), (qa, .inl (cJ, 60, .inr (.inl (LJ Q0)))), (hq, .inr (3, [.long (lZ (redU a0 b0)), .long (lZ ((redL a0 b0 : Nat) : Int))]))] H := hP
          have hD : va_D A [(h0, .inr (2, [.ref pa, .ref qa, .ref hq, .int (iZ ((t : Nat) : Int))])), (pa, .inl (cJ, 60, .inr (.inl (ZJ (zup P0 (y) ((redU a0 b0))))))), (qa, .inl (cJ, 60, .inr (.inl (LJ Q0)))), (hq, .inr (3, [.long (lZ (redU a0 b0)), .long (lZ ((redL a0 b0 : Nat) : Int))]))] := hD
          refine tp_l (y := (lZ ((redL a0 b0 : Nat) : Int))) (hw.trans rfl) ?_
          refine za_last hx hb hK hP hD hS 2 1 rfl rfl (y) (by decide) rfl (by omega) dX2_insertMean_106 (fun H locs hP hD hS => ?_)
          have hP : va_P D vwCl [(h0, .inr (2, [.ref pa, .ref qa, .ref hq, .int (iZ ((t : Nat) : Int))])), (pa, .inl (cJ, 60, .inr (.inl (ZJ (zup P0 (y) ((redU a0 b0))))))), (qa, .inl (cJ, 60, .inr (.inl (vp_updL (LJ Q0) (y) ((lZ ((redL a0 b0 : Nat) : Int))))))), (hq, .inr (3, [.long (lZ (redU a0 b0)), .long (lZ ((redL a0 b0 : Nat) : Int))]))] H := hP
          have hD : va_D A [(h0, .inr (2, [.ref pa, .ref qa, .ref hq, .int (iZ ((t : Nat) : Int))])), (pa, .inl (cJ, 60, .inr (.inl (ZJ (zup P0 (y) ((redU a0 b0))))))), (qa, .inl (cJ, 60, .inr (.inl (vp_updL (LJ Q0) (y) ((lZ ((redL a0 b0 : Nat) : Int))))))), (hq, .inr (3, [.long (lZ (redU a0 b0)), .long (lZ ((redL a0 b0 : Nat) : Int))]))] := hD
          rw [LJ_up] at hP hD
          have hP : va_P D vwCl [(h0, .inr (2, [.ref pa, .ref qa, .ref hq, .int (iZ ((t : Nat) : Int))])), (pa, .inl (cJ, 60, .inr (.inl (ZJ (zup P0 (y) ((redU a0 b0))))))), (qa, .inl (cJ, 60, .inr (.inl (LJ (nup Q0 (y) (redL a0 b0)))))), (hq, .inr (3, [.long (lZ (redU a0 b0)), .long (lZ ((redL a0 b0 : Nat) : Int))]))] H := hP
          have hD : va_D A [(h0, .inr (2, [.ref pa, .ref qa, .ref hq, .int (iZ ((t : Nat) : Int))])), (pa, .inl (cJ, 60, .inr (.inl (ZJ (zup P0 (y) ((redU a0 b0))))))), (qa, .inl (cJ, 60, .inr (.inl (LJ (nup Q0 (y) (redL a0 b0)))))), (hq, .inr (3, [.long (lZ (redU a0 b0)), .long (lZ ((redL a0 b0 : Nat) : Int))]))] := hD
          refine lv_aload_n hx hb dX2_insertMean_107 rfl (lv_at hl 1 rfl) ?_
          refine lv_dup hx hb dX2_insertMean_108 rfl ?_
          refine va_get (D := D) (ci := 2) (v := .int (iZ ((t : Nat) : Int))) (C := RX2) (T := TX2) (N := 4) hx hb hts hh_1 hown hK hP 0 rfl rfl 3 (by decide) hh_0 (fun _ h9 => h9) rfl dX2_insertMean_109 ?_
          refine zc_iconst (z := ((1 : Nat) : Int)) hx hb dX2_insertMean_112 (by decide) ?_
          refine zi_add (z := ((t + 1 : Nat) : Int)) hx hb dX2_insertMean_113 (by omega) ?_
          refine va_put (D := D) (ci := 2) (v := .int (iZ ((t + 1 : Nat) : Int))) (ty := .int) (C := RX2) (T := TX2) (N := 4) hx hb hts hh_1 tyX2 tyX2_ok nmX2 hown hK hP hD hS 0 rfl rfl 3 (by decide) hh_0 (fun _ h9 => h9) rfl (by decide +kernel) rfl rfl (Nat.le_of_ble_eq_true rfl) dX2_insertMean_114 (fun H locs hP hD hS => ?_)
          have hP : va_P D vwCl [(h0, .inr (2, [.ref pa, .ref qa, .ref hq, .int (iZ ((t + 1 : Nat) : Int))])), (pa, .inl (cJ, 60, .inr (.inl (ZJ (zup P0 (y) ((redU a0 b0))))))), (qa, .inl (cJ, 60, .inr (.inl (LJ (nup Q0 (y) (redL a0 b0)))))), (hq, .inr (3, [.long (lZ (redU a0 b0)), .long (lZ ((redL a0 b0 : Nat) : Int))]))] H := hP
          have hD : va_D A [(h0, .inr (2, [.ref pa, .ref qa, .ref hq, .int (iZ ((t + 1 : Nat) : Int))])), (pa, .inl (cJ, 60, .inr (.inl (ZJ (zup P0 (y) ((redU a0 b0))))))), (qa, .inl (cJ, 60, .inr (.inl (LJ (nup Q0 (y) (redL a0 b0)))))), (hq, .inr (3, [.long (lZ (redU a0 b0)), .long (lZ ((redL a0 b0 : Nat) : Int))]))] := hD
          exact hret (zup P0 y (redU a0 b0), nup Q0 y (redL a0 b0)) _ _ _ _ _ _ (Nat.le_of_ble_eq_true rfl) (Nat.le_of_ble_eq_true rfl) dX2_insertMean_117 (mok_ins hm hps hy (fun j h9 => h1 j (by omega)) h2 hab) hP hD hS
        refine zb_if_le (x := ((y : Nat) : Int)) (tgt := 79) hx hb dX2_insertMean_16 (by decide) ⟨by omega, by omega⟩ (fun c_16 => ?_) (fun c_16 => ?_)
        · exact pt_79  (by rw [hps, show y = 0 by omega]; rfl) _ _ hP hD hS ls (lv_sub hl [0, 1] rfl)
        · obtain ⟨hm1, hm2, hm3, hm4, hm5, hm6⟩ := hm (y - 1) (by omega)
          rw [← (h1 (y - 1) (by omega)).1] at hm1
          rw [← (h1 (y - 1) (by omega)).2] at hm2
          have hb9 := redU_b (u := A0 (y - 1)) (d := B0 (y - 1)) (B := 90000) hm3 (by omega) (by omega)
          rw [← hm1] at hb9
          have hb8 := redL_le (u := A0 (y - 1)) (d := B0 (y - 1))
          rw [← hm2] at hb8
          refine lv_aload_n hx hb dX2_insertMean_19 rfl (lv_at hl 1 rfl) ?_
          refine va_get (D := D) (ci := 2) (v := .ref hq) (C := RX2) (T := TX2) (N := 4) hx hb hts hh_1 hown hK hP 0 rfl rfl 2 (by decide) hh_3 (fun _ h9 => h9) rfl dX2_insertMean_20 ?_
          refine lv_aload_n hx hb dX2_insertMean_23 rfl (lv_at hl 1 rfl) ?_
          refine va_get (D := D) (ci := 2) (v := .ref pa) (C := RX2) (T := TX2) (N := 4) hx hb hts hh_1 hown hK hP 0 rfl rfl 0 (by decide) hh_2 (fun _ h9 => h9) rfl dX2_insertMean_24 ?_
          refine lv_iload_n hx hb dX2_insertMean_27 rfl (lv_at hl 0 rfl) ?_
          refine zc_iconst (z := ((1 : Nat) : Int)) hx hb dX2_insertMean_28 (by decide) ?_
          refine zi_sub (z := ((y - 1 : Nat) : Int)) hx hb dX2_insertMean_29 (by omega) ?_
          refine za_lald hx hb hK hP 1 1 rfl rfl (y - 1) (v := (P0 (y - 1))) (by decide) rfl (by omega) (rfl) dX2_insertMean_30 ?_
          refine lv_aload_n hx hb dX2_insertMean_31 rfl (lv_at hl 1 rfl) ?_
          refine va_get (D := D) (ci := 2) (v := .ref qa) (C := RX2) (T := TX2) (N := 4) hx hb hts hh_1 hown hK hP 0 rfl rfl 1 (by decide) hh_4 (fun _ h9 => h9) rfl dX2_insertMean_32 ?_
          refine lv_iload_n hx hb dX2_insertMean_35 rfl (lv_at hl 0 rfl) ?_
          refine zc_iconst (z := ((1 : Nat) : Int)) hx hb dX2_insertMean_36 (by decide) ?_
          refine zi_sub (z := ((y - 1 : Nat) : Int)) hx hb dX2_insertMean_37 (by omega) ?_
          refine za_lald hx hb hK hP 2 1 rfl rfl (y - 1) (v := ((Q0 (y - 1) : Nat) : Int)) (by decide) rfl (by omega) (rfl) dX2_insertMean_38 ?_
          refine ca_iV [.long (lZ (P0 (y - 1))), .long (lZ ((Q0 (y - 1) : Nat) : Int))] [] [(h0, .inr (2, [.ref pa, .ref qa, .ref hq, .int (iZ ((t : Nat) : Int))])), (pa, .inl (cJ, 60, .inr (.inl (ZJ P0)))), (qa, .inl (cJ, 60, .inr (.inl (LJ Q0))))] 0 0 ⟨hx, hb, hml, hown, hts⟩ (c_X4_isBelow l D cI cJ hq (redU a0 b0) ((redL a0 b0 : Nat) : Int) (P0 (y - 1)) ((Q0 (y - 1) : Nat) : Int) (lR_mul (B := 90000) (by decide) hra.1 hra.2 (by omega) (by omega)) (lR_mul (B := 90000) (by decide) hb9.1 hb9.2 (by omega) (by omega))) (cwV 2 hts gX2_insertMean_X4_isBelow rfl rfl rfl (by decide +kernel) ⟨(Nat.le_of_ble_eq_true rfl), (Nat.le_of_ble_eq_true rfl)⟩) hK hP hD hS hA [3] [0, 1, 2] rfl rfl rfl rfl (by decide) 0 rfl rfl rfl hl.1 rfl (Nat.le_of_ble_eq_true rfl) dX2_insertMean_39 ⟨(Nat.le_of_ble_eq_true rfl), (Nat.le_of_ble_eq_true rfl)⟩ (Nat.le_of_ble_eq_true rfl) (Nat.le_of_ble_eq_true rfl) (fun r_39 u9 H locs hw hP hD hS => ?_)
          obtain u9 := u9
          try dsimp only at hw
          obtain ⟨b7, hb1, hb2, hb3⟩ := hw
          have hP : va_P D vwCl [(h0, .inr (2, [.ref pa, .ref qa, .ref hq, .int (iZ ((t : Nat) : Int))])), (pa, .inl (cJ, 60, .inr (.inl (ZJ P0)))), (qa, .inl (cJ, 60, .inr (.inl (LJ Q0)))), (hq, .inr (3, [.long (lZ (redU a0 b0)), .long (lZ ((redL a0 b0 : Nat) : Int))]))] H := hP
          have hD : va_D A [(h0, .inr (2, [.ref pa, .ref qa, .ref hq, .int (iZ ((t : Nat) : Int))])), (pa, .inl (cJ, 60, .inr (.inl (ZJ P0)))), (qa, .inl (cJ, 60, .inr (.inl (LJ Q0)))), (hq, .inr (3, [.long (lZ (redU a0 b0)), .long (lZ ((redL a0 b0 : Nat) : Int))]))] := hD
          have hbz : b7 = 1 ↔ a0 * ((B0 (y - 1) : Nat) : Int) < A0 (y - 1) * (b0 : Int) := by rw [hb3, red_lt k1, hm1, hm2, red_gt hm3]
          refine tp_i (y := (iZ (b7))) (hb1) ?_
          refine zb_if_eq (x := (b7)) (tgt := 79) hx hb dX2_insertMean_42 (by decide) ⟨by omega, by omega⟩ (fun c_42 => ?_) (fun c_42 => ?_)
          · exact pt_79  (by rw [hps, insPos_n (by omega) (fun h9 => by have := hbz.mpr h9; omega)]) _ _ hP hD hS ls (lv_sub hl [0, 1] rfl)
          · refine lv_aload_n hx hb dX2_insertMean_45 rfl (lv_at hl 1 rfl) ?_
            refine va_get (D := D) (ci := 2) (v := .ref pa) (C := RX2) (T := TX2) (N := 4) hx hb hts hh_1 hown hK hP 0 rfl rfl 0 (by decide) hh_2 (fun _ h9 => h9) rfl dX2_insertMean_46 ?_
            refine lv_iload_n hx hb dX2_insertMean_49 rfl (lv_at hl 0 rfl) ?_
            refine lv_aload_n hx hb dX2_insertMean_50 rfl (lv_at hl 1 rfl) ?_
            refine va_get (D := D) (ci := 2) (v := .ref pa) (C := RX2) (T := TX2) (N := 4) hx hb hts hh_1 hown hK hP 0 rfl rfl 0 (by decide) hh_2 (fun _ h9 => h9) rfl dX2_insertMean_51 ?_
            refine lv_iload_n hx hb dX2_insertMean_54 rfl (lv_at hl 0 rfl) ?_
            refine zc_iconst (z := ((1 : Nat) : Int)) hx hb dX2_insertMean_55 (by decide) ?_
            refine zi_sub (z := ((y - 1 : Nat) : Int)) hx hb dX2_insertMean_56 (by omega) ?_
            refine za_lald hx hb hK hP 1 1 rfl rfl (y - 1) (v := (P0 (y - 1))) (by decide) rfl (by omega) (rfl) dX2_insertMean_57 ?_
            refine za_last hx hb hK hP hD hS 1 1 rfl rfl (y) (by decide) rfl (by omega) dX2_insertMean_58 (fun H locs hP hD hS => ?_)
            have hP : va_P D vwCl [(h0, .inr (2, [.ref pa, .ref qa, .ref hq, .int (iZ ((t : Nat) : Int))])), (pa, .inl (cJ, 60, .inr (.inl (vp_updL (ZJ P0) (y) ((lZ (P0 (y - 1)))))))), (qa, .inl (cJ, 60, .inr (.inl (LJ Q0)))), (hq, .inr (3, [.long (lZ (redU a0 b0)), .long (lZ ((redL a0 b0 : Nat) : Int))]))] H := hP
            have hD : va_D A [(h0, .inr (2, [.ref pa, .ref qa, .ref hq, .int (iZ ((t : Nat) : Int))])), (pa, .inl (cJ, 60, .inr (.inl (vp_updL (ZJ P0) (y) ((lZ (P0 (y - 1)))))))), (qa, .inl (cJ, 60, .inr (.inl (LJ Q0)))), (hq, .inr (3, [.long (lZ (redU a0 b0)), .long (lZ ((redL a0 b0 : Nat) : Int))]))] := hD
            rw [ZJ_up] at hP hD
            obtain ⟨P1, eP1⟩ : ∃ g9, g9 = zup P0 (y) ((P0 (y - 1))) := ⟨_, rfl⟩
            rw [← eP1] at hP hD
            have hP : va_P D vwCl [(h0, .inr (2, [.ref pa, .ref qa, .ref hq, .int (iZ ((t : Nat) : Int))])), (pa, .inl (cJ, 60, .inr (.inl (ZJ P1)))), (qa, .inl (cJ, 60, .inr (.inl (LJ Q0)))), (hq, .inr (3, [.long (lZ (redU a0 b0)), .long (lZ ((redL a0 b0 : Nat) : Int))]))] H := hP
            have hD : va_D A [(h0, .inr (2, [.ref pa, .ref qa, .ref hq, .int (iZ ((t : Nat) : Int))])), (pa, .inl (cJ, 60, .inr (.inl (ZJ P1)))), (qa, .inl (cJ, 60, .inr (.inl (LJ Q0)))), (hq, .inr (3, [.long (lZ (redU a0 b0)), .long (lZ ((redL a0 b0 : Nat) : Int))]))] := hD
            refine lv_aload_n hx hb dX2_insertMean_59 rfl (lv_at hl 1 rfl) ?_
            refine va_get (D := D) (ci := 2) (v := .ref qa) (C := RX2) (T := TX2) (N := 4) hx hb hts hh_1 hown hK hP 0 rfl rfl 1 (by decide) hh_4 (fun _ h9 => h9) rfl dX2_insertMean_60 ?_
            refine lv_iload_n hx hb dX2_insertMean_63 rfl (lv_at hl 0 rfl) ?_
            refine lv_aload_n hx hb dX2_insertMean_64 rfl (lv_at hl 1 rfl) ?_
            refine va_get (D := D) (ci := 2) (v := .ref qa) (C := RX2) (T := TX2) (N := 4) hx hb hts hh_1 hown hK hP 0 rfl rfl 1 (by decide) hh_4 (fun _ h9 => h9) rfl dX2_insertMean_65 ?_
            refine lv_iload_n hx hb dX2_insertMean_68 rfl (lv_at hl 0 rfl) ?_
            refine zc_iconst (z := ((1 : Nat) : Int)) hx hb dX2_insertMean_69 (by decide) ?_
            refine zi_sub (z := ((y - 1 : Nat) : Int)) hx hb dX2_insertMean_70 (by omega) ?_
            refine za_lald hx hb hK hP 2 1 rfl rfl (y - 1) (v := ((Q0 (y - 1) : Nat) : Int)) (by decide) rfl (by omega) (rfl) dX2_insertMean_71 ?_
            refine za_last hx hb hK hP hD hS 2 1 rfl rfl (y) (by decide) rfl (by omega) dX2_insertMean_72 (fun H locs hP hD hS => ?_)
            have hP : va_P D vwCl [(h0, .inr (2, [.ref pa, .ref qa, .ref hq, .int (iZ ((t : Nat) : Int))])), (pa, .inl (cJ, 60, .inr (.inl (ZJ P1)))), (qa, .inl (cJ, 60, .inr (.inl (vp_updL (LJ Q0) (y) ((lZ ((Q0 (y - 1) : Nat) : Int))))))), (hq, .inr (3, [.long (lZ (redU a0 b0)), .long (lZ ((redL a0 b0 : Nat) : Int))]))] H := hP
            have hD : va_D A [(h0, .inr (2, [.ref pa, .ref qa, .ref hq, .int (iZ ((t : Nat) : Int))])), (pa, .inl (cJ, 60, .inr (.inl (ZJ P1)))), (qa, .inl (cJ, 60, .inr (.inl (vp_updL (LJ Q0) (y) ((lZ ((Q0 (y - 1) : Nat) : Int))))))), (hq, .inr (3, [.long (lZ (redU a0 b0)), .long (lZ ((redL a0 b0 : Nat) : Int))]))] := hD
            rw [LJ_up] at hP hD
            obtain ⟨Q1, eQ1⟩ : ∃ g9, g9 = nup Q0 (y) (Q0 (y - 1)) := ⟨_, rfl⟩
            rw [← eQ1] at hP hD
            have hP : va_P D vwCl [(h0, .inr (2, [.ref pa, .ref qa, .ref hq, .int (iZ ((t : Nat) : Int))])), (pa, .inl (cJ, 60, .inr (.inl (ZJ P1)))), (qa, .inl (cJ, 60, .inr (.inl (LJ Q1)))), (hq, .inr (3, [.long (lZ (redU a0 b0)), .long (lZ ((redL a0 b0 : Nat) : Int))]))] H := hP
            have hD : va_D A [(h0, .inr (2, [.ref pa, .ref qa, .ref hq, .int (iZ ((t : Nat) : Int))])), (pa, .inl (cJ, 60, .inr (.inl (ZJ P1)))), (qa, .inl (cJ, 60, .inr (.inl (LJ Q1)))), (hq, .inr (3, [.long (lZ (redU a0 b0)), .long (lZ ((redL a0 b0 : Nat) : Int))]))] := hD
            refine lv_iinc (v := iZ ((y - 1 : Nat) : Int)) (lv' := [(1, .int (iZ ((y - 1 : Nat) : Int))), (0, .ref h0)]) hx hb dX2_insertMean_73 hl (k := 0) rfl (zi_inc (by omega)) (by decide) rfl (fun ls hl => ?_)
            refine lv_goto (tgt := 15) hx hb dX2_insertMean_76 (by decide) ?_
            exact ih_15 (y - 1) P1 Q1 (by omega) (by rw [hps, insPos_p (by omega) (hbz.mp (by omega))]) (fun j h9 => by rw [eP1, eQ1, zup_n (by omega), nup_n (by omega)]; exact h1 j (by omega)) (fun j h8 h9 => by rw [eP1, eQ1]; by_cases e9 : j = y; (· rw [e9, zup_s, nup_s]; exact h1 (y - 1) (by omega)); (· rw [zup_n e9, nup_n e9]; exact h2 j (by omega) h9)) (by omega) _ _ hP hD hS ls (lv_sub hl [0, 1] rfl)
    exact pt_15 (t + 1) t PU QL (by omega) rfl (fun j h9 => ⟨rfl, rfl⟩) (fun j h8 h9 => by omega) (by omega) _ _ hP hD hS ls (lv_sub hl [0, 1] rfl)
  · exfalso; omega
def rmX2_drawAnew : Room := { frames := 2, cells := 0, slots := 0, locals := 56 }
set_option maxHeartbeats 4000000 in
set_option maxRecDepth 100000 in
theorem c_X2_drawAnew (l : Launch) (D : va_G) (cI cJ : ClassId) (h0 pa qa hq : Nat) (t : Nat) (PU : Nat → Int) (QL : Nat → Nat) (p0 q0 : Int) (x0 : Int64) (tm : Nat) (htm : tm ≤ 60) (h1 da sa k : Nat) (DF : Nat → Int) (SF : Nat → Nat) (hk : k ≤ 30) (hk0 : 0 < k) (hD0 : ∀ i, i < k → -3000 ≤ DF i ∧ DF i ≤ 3000) (hS0 : ∀ i, i < k → 1 ≤ SF i ∧ SF i ≤ 30) : Cv l D vwCl (tyT cI cJ) yX2_drawAnew wsX2_drawAnew rmX2_drawAnew [.ref h0, .long (x0), .int (iZ ((tm : Nat) : Int)), .ref h1] [(h0, .inr (2, [.ref pa, .ref qa, .ref hq, .int (iZ ((t : Nat) : Int))])), (pa, .inl (cJ, 60, .inr (.inl (ZJ PU)))), (qa, .inl (cJ, 60, .inr (.inl (LJ QL)))), (hq, .inr (3, [.long (lZ (p0)), .long (lZ (q0))])), (h1, .inr (7, [.ref da, .ref sa, .int (iZ ((k : Nat) : Int))])), (da, .inl (cI, 30, .inl (ZI DF))), (sa, .inl (cI, 30, .inl (LI SF)))] (((Nat → Int) × (Nat → Nat)) × Int × Int) (fun r => mok tm r.1.1 r.1.2 (meF DF SF k x0 tm).1 (meF DF SF k x0 tm).2) (fun r => [(h0, .inr (2, [.ref pa, .ref qa, .ref hq, .int (iZ ((tm : Nat) : Int))])), (pa, .inl (cJ, 60, .inr (.inl (ZJ r.1.1)))), (qa, .inl (cJ, 60, .inr (.inl (LJ r.1.2)))), (hq, .inr (3, [.long (lZ (r.2.1)), .long (lZ (r.2.2))])), (h1, .inr (7, [.ref da, .ref sa, .int (iZ ((k : Nat) : Int))])), (da, .inl (cI, 30, .inl (ZI DF))), (sa, .inl (cI, 30, .inl (LI SF)))]) := by
  refine en_v (cc := cX2_drawAnew) (maxL := 15) (by decide) rfl [(0, .ref h0), (1, .long (x0)), (3, .int (iZ ((tm : Nat) : Int))), (4, .ref h1)] (Nat.le_of_ble_eq_true rfl) rfl ?_
  intro p e s m args below meth c Q A hx hb hml hown hts hnm hK hP hD hA hS hret ls hl
  have hh_0 := hts (.fieldLink RX2 23 "BoundDraws$Means" "used" "I") (by decide +kernel)
  have hh_1 := (show ∀ w ∈ wsX20, w ∈ wsX2_drawAnew by decide +kernel)
  have hh_2 := hts (.fieldLink RX2 19 "BoundDraws$Means" "mean" "LBoundDraws$Ratio;") (by decide +kernel)
  have hh_3 := hts (.constantLong RX2 33 (6364136223846793005)) (by decide +kernel)
  have hh_4 := hts (.constantLong RX2 35 (1442695040888963407)) (by decide +kernel)
  refine lv_aload hx hb dX2_drawAnew_0 (lv_at hl 3 rfl) ?_
  refine ca_iV [] [] [(h0, .inr (2, [.ref pa, .ref qa, .ref hq, .int (iZ ((t : Nat) : Int))])), (pa, .inl (cJ, 60, .inr (.inl (ZJ PU)))), (qa, .inl (cJ, 60, .inr (.inl (LJ QL)))), (hq, .inr (3, [.long (lZ (p0)), .long (lZ (q0))]))] 0 0 ⟨hx, hb, hml, hown, hts⟩ (c_X8_size l D cI cJ h1 da sa k DF SF) (cwV 0 hts gX2_drawAnew_X8_size rfl rfl rfl (by decide +kernel) ⟨(Nat.le_of_ble_eq_true rfl), (Nat.le_of_ble_eq_true rfl)⟩) hK hP hD hS hA [4, 5, 6] [0, 1, 2, 3] rfl rfl rfl rfl (by decide) 0 rfl rfl rfl hl.1 rfl (Nat.le_of_ble_eq_true rfl) dX2_drawAnew_2 ⟨(Nat.le_of_ble_eq_true rfl), (Nat.le_of_ble_eq_true rfl)⟩ (Nat.le_of_ble_eq_true rfl) (Nat.le_of_ble_eq_true rfl) (fun r_2 u9 H locs hw hP hD hS => ?_)
  obtain u9 := u9
  try dsimp only at hw
  have hP : va_P D vwCl [(h0, .inr (2, [.ref pa, .ref qa, .ref hq, .int (iZ ((t : Nat) : Int))])), (pa, .inl (cJ, 60, .inr (.inl (ZJ PU)))), (qa, .inl (cJ, 60, .inr (.inl (LJ QL)))), (hq, .inr (3, [.long (lZ (p0)), .long (lZ (q0))])), (h1, .inr (7, [.ref da, .ref sa, .int (iZ ((k : Nat) : Int))])), (da, .inl (cI, 30, .inl (ZI DF))), (sa, .inl (cI, 30, .inl (LI SF)))] H := hP
  have hD : va_D A [(h0, .inr (2, [.ref pa, .ref qa, .ref hq, .int (iZ ((t : Nat) : Int))])), (pa, .inl (cJ, 60, .inr (.inl (ZJ PU)))), (qa, .inl (cJ, 60, .inr (.inl (LJ QL)))), (hq, .inr (3, [.long (lZ (p0)), .long (lZ (q0))])), (h1, .inr (7, [.ref da, .ref sa, .int (iZ ((k : Nat) : Int))])), (da, .inl (cI, 30, .inl (ZI DF))), (sa, .inl (cI, 30, .inl (LI SF)))] := hD
  refine tp_i (y := (iZ ((k : Nat) : Int))) (hw) ?_
  refine lv_istore (lv' := [(5, .int (iZ ((k : Nat) : Int))), (0, .ref h0), (1, .long (x0)), (3, .int (iZ ((tm : Nat) : Int))), (4, .ref h1)]) hx hb dX2_drawAnew_5 hl (by decide) rfl (fun ls hl => ?_)
  refine lv_iload hx hb dX2_drawAnew_7 (lv_at hl 0 rfl) ?_
  refine zb_if_gt (x := ((k : Nat) : Int)) (tgt := 13) hx hb dX2_drawAnew_9 (by decide) ⟨by omega, by omega⟩ (fun c_9 => ?_) (fun c_9 => ?_)
  · refine lv_aload_n hx hb dX2_drawAnew_13 rfl (lv_at hl 1 rfl) ?_
    refine zc_iconst (z := ((0 : Nat) : Int)) hx hb dX2_drawAnew_14 (by decide) ?_
    refine va_put (D := D) (ci := 2) (v := .int (iZ ((0 : Nat) : Int))) (ty := .int) (C := RX2) (T := TX2) (N := 4) hx hb hts hh_1 tyX2 tyX2_ok nmX2 hown hK hP hD hS 0 rfl rfl 3 (by decide) hh_0 (fun _ h9 => h9) rfl (by decide +kernel) rfl rfl (Nat.le_of_ble_eq_true rfl) dX2_drawAnew_15 (fun H locs hP hD hS => ?_)
    have hP : va_P D vwCl [(h0, .inr (2, [.ref pa, .ref qa, .ref hq, .int (iZ ((0 : Nat) : Int))])), (pa, .inl (cJ, 60, .inr (.inl (ZJ PU)))), (qa, .inl (cJ, 60, .inr (.inl (LJ QL)))), (hq, .inr (3, [.long (lZ (p0)), .long (lZ (q0))])), (h1, .inr (7, [.ref da, .ref sa, .int (iZ ((k : Nat) : Int))])), (da, .inl (cI, 30, .inl (ZI DF))), (sa, .inl (cI, 30, .inl (LI SF)))] H := hP
    have hD : va_D A [(h0, .inr (2, [.ref pa, .ref qa, .ref hq, .int (iZ ((0 : Nat) : Int))])), (pa, .inl (cJ, 60, .inr (.inl (ZJ PU)))), (qa, .inl (cJ, 60, .inr (.inl (LJ QL)))), (hq, .inr (3, [.long (lZ (p0)), .long (lZ (q0))])), (h1, .inr (7, [.ref da, .ref sa, .int (iZ ((k : Nat) : Int))])), (da, .inl (cI, 30, .inl (ZI DF))), (sa, .inl (cI, 30, .inl (LI SF)))] := hD
    refine lv_lload_n hx hb dX2_drawAnew_18 rfl (lv_at hl 2 rfl) ?_
    refine lv_lstore (lv' := [(6, .long (x0)), (5, .int (iZ ((k : Nat) : Int))), (0, .ref h0), (1, .long (x0)), (3, .int (iZ ((tm : Nat) : Int))), (4, .ref h1)]) hx hb dX2_drawAnew_19 hl (by decide) rfl (fun ls hl => ?_)
    refine zc_iconst (z := ((0 : Nat) : Int)) hx hb dX2_drawAnew_21 (by decide) ?_
    refine lv_istore (lv' := [(8, .int (iZ ((0 : Nat) : Int))), (6, .long (x0)), (5, .int (iZ ((k : Nat) : Int))), (0, .ref h0), (1, .long (x0)), (3, .int (iZ ((tm : Nat) : Int))), (4, .ref h1)]) hx hb dX2_drawAnew_22 hl (by decide) rfl (fun ls hl => ?_)
    have pt_24 : ∀ f : Nat, ∀ (t : Nat) (x : Int64) (PU : Nat → Int) (QL : Nat → Nat) (p0 q0 : Int), (ht : t ≤ tm) → (ex : x = xT k x0 t) → (hm : mok t PU QL (meF DF SF k x0 t).1 (meF DF SF k x0 t).2) → (hf : tm < t + f) → (H : Heap) → (locs : List Loc) → va_P D vwCl [(h0, .inr (2, [.ref pa, .ref qa, .ref hq, .int (iZ ((t : Nat) : Int))])), (pa, .inl (cJ, 60, .inr (.inl (ZJ PU)))), (qa, .inl (cJ, 60, .inr (.inl (LJ QL)))), (hq, .inr (3, [.long (lZ (p0)), .long (lZ (q0))])), (h1, .inr (7, [.ref da, .ref sa, .int (iZ ((k : Nat) : Int))])), (da, .inl (cI, 30, .inl (ZI DF))), (sa, .inl (cI, 30, .inl (LI SF)))] H → va_D A [(h0, .inr (2, [.ref pa, .ref qa, .ref hq, .int (iZ ((t : Nat) : Int))])), (pa, .inl (cJ, 60, .inr (.inl (ZJ PU)))), (qa, .inl (cJ, 60, .inr (.inl (LJ QL)))), (hq, .inr (3, [.long (lZ (p0)), .long (lZ (q0))])), (h1, .inr (7, [.ref da, .ref sa, .int (iZ ((k : Nat) : Int))])), (da, .inl (cI, 30, .inl (ZI DF))), (sa, .inl (cI, 30, .inl (LI SF)))] → va_S A s.heap H locs → (ls : Array Slot) → lv_has ls 15 [(8, .int (iZ ((t : Nat) : Int))), (6, .long (x)), (5, .int (iZ ((k : Nat) : Int))), (0, .ref h0), (1, .long (x0)), (3, .int (iZ ((tm : Nat) : Int))), (4, .ref h1)] → W p l e rmX2_drawAnew s m args below meth c H locs 0 0 Q (F0 m 24 ls []) := by
      intro f
      induction f with
      | zero =>
        intro t x PU QL p0 q0 ht ex hm hf H locs hP hD hS ls hl
        exfalso; omega
      | succ f ih_24 =>
        intro t x PU QL p0 q0 ht ex hm hf H locs hP hD hS ls hl
        refine lv_iload hx hb dX2_drawAnew_24 (lv_at hl 0 rfl) ?_
        refine lv_iload_n hx hb dX2_drawAnew_26 rfl (lv_at hl 5 rfl) ?_
        refine zb_icmp_ge (x := ((t : Nat) : Int)) (y := ((tm : Nat) : Int)) (tgt := 123) hx hb dX2_drawAnew_27 (by decide) ⟨by omega, by omega⟩ ⟨by omega, by omega⟩ (fun c_27 => ?_) (fun c_27 => ?_)
        · have e8 : t = tm := by omega
          rw [e8] at hP hD
          exact hret ((PU, QL), (p0, q0)) _ _ _ _ _ _ (Nat.le_of_ble_eq_true rfl) (Nat.le_of_ble_eq_true rfl) dX2_drawAnew_123 (by have e9 : t = tm := (by omega); rw [e9] at hm; exact hm) hP hD hS
        · refine zc_lconst (z := ((0 : Nat) : Int)) hx hb dX2_drawAnew_30 (by decide) ?_
          refine tp_l (y := (lZ (dwS DF k x 0))) (rfl) ?_
          refine lv_lstore (lv' := [(9, .long (lZ (dwS DF k x 0))), (8, .int (iZ ((t : Nat) : Int))), (6, .long (x)), (5, .int (iZ ((k : Nat) : Int))), (0, .ref h0), (1, .long (x0)), (3, .int (iZ ((tm : Nat) : Int))), (4, .ref h1)]) hx hb dX2_drawAnew_31 hl (by decide) rfl (fun ls hl => ?_)
          refine zc_lconst (z := ((0 : Nat) : Int)) hx hb dX2_drawAnew_33 (by decide) ?_
          refine tp_l (y := (lZ ((dwR SF k x 0 : Nat) : Int))) (rfl) ?_
          refine lv_lstore (lv' := [(11, .long (lZ ((dwR SF k x 0 : Nat) : Int))), (9, .long (lZ (dwS DF k x 0))), (8, .int (iZ ((t : Nat) : Int))), (6, .long (x)), (5, .int (iZ ((k : Nat) : Int))), (0, .ref h0), (1, .long (x0)), (3, .int (iZ ((tm : Nat) : Int))), (4, .ref h1)]) hx hb dX2_drawAnew_34 hl (by decide) rfl (fun ls hl => ?_)
          refine zc_iconst (z := ((0 : Nat) : Int)) hx hb dX2_drawAnew_36 (by decide) ?_
          refine lv_istore (lv' := [(13, .int (iZ ((0 : Nat) : Int))), (11, .long (lZ ((dwR SF k x 0 : Nat) : Int))), (9, .long (lZ (dwS DF k x 0))), (8, .int (iZ ((t : Nat) : Int))), (6, .long (x)), (5, .int (iZ ((k : Nat) : Int))), (0, .ref h0), (1, .long (x0)), (3, .int (iZ ((tm : Nat) : Int))), (4, .ref h1)]) hx hb dX2_drawAnew_37 hl (by decide) rfl (fun ls hl => ?_)
          have pt_39 : ∀ g : Nat, ∀ (j : Nat) (y : Int64), (hj : j ≤ k) → (ey : y = dwX x j) → (hg : k < j + g) → (H : Heap) → (locs : List Loc) → va_P D vwCl [(h0, .inr (2, [.ref pa, .ref qa, .ref hq, .int (iZ ((t : Nat) : Int))])), (pa, .inl (cJ, 60, .inr (.inl (ZJ PU)))), (qa, .inl (cJ, 60, .inr (.inl (LJ QL)))), (hq, .inr (3, [.long (lZ (p0)), .long (lZ (q0))])), (h1, .inr (7, [.ref da, .ref sa, .int (iZ ((k : Nat) : Int))])), (da, .inl (cI, 30, .inl (ZI DF))), (sa, .inl (cI, 30, .inl (LI SF)))] H → va_D A [(h0, .inr (2, [.ref pa, .ref qa, .ref hq, .int (iZ ((t : Nat) : Int))])), (pa, .inl (cJ, 60, .inr (.inl (ZJ PU)))), (qa, .inl (cJ, 60, .inr (.inl (LJ QL)))), (hq, .inr (3, [.long (lZ (p0)), .long (lZ (q0))])), (h1, .inr (7, [.ref da, .ref sa, .int (iZ ((k : Nat) : Int))])), (da, .inl (cI, 30, .inl (ZI DF))), (sa, .inl (cI, 30, .inl (LI SF)))] → va_S A s.heap H locs → (ls : Array Slot) → lv_has ls 15 [(13, .int (iZ ((j : Nat) : Int))), (11, .long (lZ ((dwR SF k x j : Nat) : Int))), (9, .long (lZ (dwS DF k x j))), (8, .int (iZ ((t : Nat) : Int))), (6, .long (y)), (5, .int (iZ ((k : Nat) : Int))), (0, .ref h0), (1, .long (x0)), (3, .int (iZ ((tm : Nat) : Int))), (4, .ref h1)] → W p l e rmX2_drawAnew s m args below meth c H locs 0 0 Q (F0 m 39 ls []) := by
            intro g
            induction g with
            | zero =>
              intro j y hj ey hg H locs hP hD hS ls hl
              exfalso; omega
            | succ g ih_39 =>
              intro j y hj ey hg H locs hP hD hS ls hl
              refine lv_iload hx hb dX2_drawAnew_39 (lv_at hl 0 rfl) ?_
              refine lv_iload hx hb dX2_drawAnew_41 (lv_at hl 5 rfl) ?_
              refine zb_icmp_ge (x := ((j : Nat) : Int)) (y := ((k : Nat) : Int)) (tgt := 102) hx hb dX2_drawAnew_43 (by decide) ⟨by omega, by omega⟩ ⟨by omega, by omega⟩ (fun c_43 => ?_) (fun c_43 => ?_)
              · have e9 : j = k := by omega
                rw [e9] at hl ey
                have hmb := dw_mbd hk0 hk hD0 hS0 x
                obtain ⟨m1, m2, m3, m4⟩ := id hmb
                refine lv_aload_n hx hb dX2_drawAnew_102 rfl (lv_at hl 6 rfl) ?_
                refine va_get (D := D) (ci := 2) (v := .ref hq) (C := RX2) (T := TX2) (N := 4) hx hb hts hh_1 hown hK hP 0 rfl rfl 2 (by decide) hh_2 (fun _ h9 => h9) rfl dX2_drawAnew_103 ?_
                refine lv_lload hx hb dX2_drawAnew_106 (lv_at hl 2 rfl) ?_
                refine lv_lload hx hb dX2_drawAnew_108 (lv_at hl 1 rfl) ?_
                refine ca_vV [.long (lZ (dwS DF k x k)), .long (lZ ((dwR SF k x k : Nat) : Int))] [] [(h0, .inr (2, [.ref pa, .ref qa, .ref hq, .int (iZ ((t : Nat) : Int))])), (pa, .inl (cJ, 60, .inr (.inl (ZJ PU)))), (qa, .inl (cJ, 60, .inr (.inl (LJ QL)))), (h1, .inr (7, [.ref da, .ref sa, .int (iZ ((k : Nat) : Int))])), (da, .inl (cI, 30, .inl (ZI DF))), (sa, .inl (cI, 30, .inl (LI SF)))] 0 0 ⟨hx, hb, hml, hown, hts⟩ (c_X4_become l D cI cJ hq p0 q0 (dwS DF k x k) (dwR SF k x k) (by omega) (by omega) (by omega) (by omega)) (cwV 2 hts gX2_drawAnew_X4_become rfl rfl rfl (by decide +kernel) ⟨(Nat.le_of_ble_eq_true rfl), (Nat.le_of_ble_eq_true rfl)⟩) hK hP hD hS hA [3] [0, 1, 2, 4, 5, 6] rfl rfl rfl rfl (by decide) 0 rfl rfl rfl hl.1 rfl (Nat.le_of_ble_eq_true rfl) dX2_drawAnew_110 ⟨(Nat.le_of_ble_eq_true rfl), (Nat.le_of_ble_eq_true rfl)⟩ (Nat.le_of_ble_eq_true rfl) (Nat.le_of_ble_eq_true rfl) (fun u9 H locs hw hP hD hS => ?_)
                obtain u9 := u9
                try dsimp only at hw
                have hP : va_P D vwCl [(h0, .inr (2, [.ref pa, .ref qa, .ref hq, .int (iZ ((t : Nat) : Int))])), (pa, .inl (cJ, 60, .inr (.inl (ZJ PU)))), (qa, .inl (cJ, 60, .inr (.inl (LJ QL)))), (h1, .inr (7, [.ref da, .ref sa, .int (iZ ((k : Nat) : Int))])), (da, .inl (cI, 30, .inl (ZI DF))), (sa, .inl (cI, 30, .inl (LI SF))), (hq, .inr (3, [.long (lZ (redU (dwS DF k x k) (dwR SF k x k))), .long (lZ ((redL (dwS DF k x k) (dwR SF k x k) : Nat) : Int))]))] H := hP
                have hD : va_D A [(h0, .inr (2, [.ref pa, .ref qa, .ref hq, .int (iZ ((t : Nat) : Int))])), (pa, .inl (cJ, 60, .inr (.inl (ZJ PU)))), (qa, .inl (cJ, 60, .inr (.inl (LJ QL)))), (h1, .inr (7, [.ref da, .ref sa, .int (iZ ((k : Nat) : Int))])), (da, .inl (cI, 30, .inl (ZI DF))), (sa, .inl (cI, 30, .inl (LI SF))), (hq, .inr (3, [.long (lZ (redU (dwS DF k x k) (dwR SF k x k))), .long (lZ ((redL (dwS DF k x k) (dwR SF k x k) : Nat) : Int))]))] := hD
                refine lv_aload_n hx hb dX2_drawAnew_113 rfl (lv_at hl 6 rfl) ?_
                refine ca_vV [] [] [(h1, .inr (7, [.ref da, .ref sa, .int (iZ ((k : Nat) : Int))])), (da, .inl (cI, 30, .inl (ZI DF))), (sa, .inl (cI, 30, .inl (LI SF)))] 0 0 ⟨hx, hb, hml, hown, hts⟩ (c_X2_insertMean l D cI cJ h0 pa qa hq t PU QL (meF DF SF k x0 t).1 (meF DF SF k x0 t).2 (dwS DF k x k) (dwR SF k x k) (by omega) hm hmb) (cwV 0 hts gX2_drawAnew_X2_insertMean rfl rfl rfl (by decide +kernel) ⟨(Nat.le_of_ble_eq_true rfl), (Nat.le_of_ble_eq_true rfl)⟩) hK hP hD hS hA [0, 1, 2, 6] [3, 4, 5] rfl rfl rfl rfl (by decide) 0 rfl rfl rfl hl.1 rfl (Nat.le_of_ble_eq_true rfl) dX2_drawAnew_114 ⟨(Nat.le_of_ble_eq_true rfl), (Nat.le_of_ble_eq_true rfl)⟩ (Nat.le_of_ble_eq_true rfl) (Nat.le_of_ble_eq_true rfl) (fun u9 H locs hw hP hD hS => ?_)
                obtain ⟨P1, Q1⟩ := u9
                try dsimp only at hw
                have hw2 := hw
                have hP : va_P D vwCl [(h1, .inr (7, [.ref da, .ref sa, .int (iZ ((k : Nat) : Int))])), (da, .inl (cI, 30, .inl (ZI DF))), (sa, .inl (cI, 30, .inl (LI SF))), (h0, .inr (2, [.ref pa, .ref qa, .ref hq, .int (iZ ((t + 1 : Nat) : Int))])), (pa, .inl (cJ, 60, .inr (.inl (ZJ P1)))), (qa, .inl (cJ, 60, .inr (.inl (LJ Q1)))), (hq, .inr (3, [.long (lZ (redU (dwS DF k x k) (dwR SF k x k))), .long (lZ ((redL (dwS DF k x k) (dwR SF k x k) : Nat) : Int))]))] H := hP
                have hD : va_D A [(h1, .inr (7, [.ref da, .ref sa, .int (iZ ((k : Nat) : Int))])), (da, .inl (cI, 30, .inl (ZI DF))), (sa, .inl (cI, 30, .inl (LI SF))), (h0, .inr (2, [.ref pa, .ref qa, .ref hq, .int (iZ ((t + 1 : Nat) : Int))])), (pa, .inl (cJ, 60, .inr (.inl (ZJ P1)))), (qa, .inl (cJ, 60, .inr (.inl (LJ Q1)))), (hq, .inr (3, [.long (lZ (redU (dwS DF k x k) (dwR SF k x k))), .long (lZ ((redL (dwS DF k x k) (dwR SF k x k) : Nat) : Int))]))] := hD
                rw [ex] at hw2
                refine lv_iinc (v := iZ ((t + 1 : Nat) : Int)) (lv' := [(8, .int (iZ ((t + 1 : Nat) : Int))), (13, .int (iZ ((k : Nat) : Int))), (11, .long (lZ ((dwR SF k x k : Nat) : Int))), (9, .long (lZ (dwS DF k x k))), (6, .long (y)), (5, .int (iZ ((k : Nat) : Int))), (0, .ref h0), (1, .long (x0)), (3, .int (iZ ((tm : Nat) : Int))), (4, .ref h1)]) hx hb dX2_drawAnew_117 hl (k := 3) rfl (zi_inc (by omega)) (by decide) rfl (fun ls hl => ?_)
                refine lv_goto (tgt := 24) hx hb dX2_drawAnew_120 (by decide) ?_
                exact ih_24 (t + 1) y _ _ _ _ (by omega) (by rw [ey, ex]; rfl) (by exact hw2) (by omega) _ _ (hP.sub [3, 4, 5, 6, 0, 1, 2] rfl) (hD.sub [3, 4, 5, 6, 0, 1, 2] rfl rfl) hS ls (lv_sub hl [0, 4, 5, 6, 7, 8, 9] rfl)
              · have hul := uL_lt (lcg y)
                have hun := unI_lt (lcg y) hk0
                have hbd := hD0 _ hun
                have hbs := hS0 _ hun
                refine lv_lload hx hb dX2_drawAnew_46 (lv_at hl 4 rfl) ?_
                refine lv_ldc2 hx hb hown hh_3 dX2_drawAnew_48 ?_
                refine lv_lmul hx hb dX2_drawAnew_51 ?_
                refine lv_ldc2 hx hb hown hh_4 dX2_drawAnew_52 ?_
                refine lv_ladd hx hb dX2_drawAnew_55 ?_
                refine tp_l (y := (lcg y)) (rfl) ?_
                refine lv_lstore (lv' := [(6, .long (lcg y)), (13, .int (iZ ((j : Nat) : Int))), (11, .long (lZ ((dwR SF k x j : Nat) : Int))), (9, .long (lZ (dwS DF k x j))), (8, .int (iZ ((t : Nat) : Int))), (5, .int (iZ ((k : Nat) : Int))), (0, .ref h0), (1, .long (x0)), (3, .int (iZ ((tm : Nat) : Int))), (4, .ref h1)]) hx hb dX2_drawAnew_56 hl (by decide) rfl (fun ls hl => ?_)
                refine lv_lload hx hb dX2_drawAnew_58 (lv_at hl 0 rfl) ?_
                refine zc_bipush (z := ((33 : Nat) : Int)) hx hb dX2_drawAnew_60 (by decide) ?_
                refine lv_lushr (v := (lZ ((uL (lcg y) / 8589934592 : Nat) : Int))) hx hb dX2_drawAnew_62 (z_lushr33 _) ?_
                refine lv_iload hx hb dX2_drawAnew_63 (lv_at hl 5 rfl) ?_
                refine z_i2l (z := ((k : Nat) : Int)) hx hb dX2_drawAnew_65 ⟨by omega, by omega⟩ rfl ?_
                refine zl_rem (z := (((uL (lcg y) / 8589934592) % k : Nat) : Int)) hx hb dX2_drawAnew_66 (by omega) (by omega) (by omega) (by omega) (Int.natCast_emod _ _).symm ?_
                refine z_l2i (z := (((uL (lcg y) / 8589934592) % k : Nat) : Int)) hx hb dX2_drawAnew_67 rfl ?_
                refine tp_i (y := (iZ ((unI (lcg y) k : Nat) : Int))) (rfl) ?_
                refine lv_istore (lv' := [(14, .int (iZ ((unI (lcg y) k : Nat) : Int))), (6, .long (lcg y)), (13, .int (iZ ((j : Nat) : Int))), (11, .long (lZ ((dwR SF k x j : Nat) : Int))), (9, .long (lZ (dwS DF k x j))), (8, .int (iZ ((t : Nat) : Int))), (5, .int (iZ ((k : Nat) : Int))), (0, .ref h0), (1, .long (x0)), (3, .int (iZ ((tm : Nat) : Int))), (4, .ref h1)]) hx hb dX2_drawAnew_68 hl (by decide) rfl (fun ls hl => ?_)
                refine lv_lload hx hb dX2_drawAnew_70 (lv_at hl 4 rfl) ?_
                refine lv_aload hx hb dX2_drawAnew_72 (lv_at hl 10 rfl) ?_
                refine lv_iload hx hb dX2_drawAnew_74 (lv_at hl 0 rfl) ?_
                refine ca_iV [.int (iZ ((unI (lcg y) k : Nat) : Int))] [.long (lZ (dwS DF k x j))] [(h0, .inr (2, [.ref pa, .ref qa, .ref hq, .int (iZ ((t : Nat) : Int))])), (pa, .inl (cJ, 60, .inr (.inl (ZJ PU)))), (qa, .inl (cJ, 60, .inr (.inl (LJ QL)))), (hq, .inr (3, [.long (lZ (p0)), .long (lZ (q0))]))] 0 0 ⟨hx, hb, hml, hown, hts⟩ (c_X8_difference l D cI cJ h1 da sa k DF SF (unI (lcg y) k) (unI_lt _ hk0) hk) (cwV 1 hts gX2_drawAnew_X8_difference rfl rfl rfl (by decide +kernel) ⟨(Nat.le_of_ble_eq_true rfl), (Nat.le_of_ble_eq_true rfl)⟩) hK hP hD hS hA [4, 5, 6] [0, 1, 2, 3] rfl rfl rfl rfl (by decide) 0 rfl rfl rfl hl.1 rfl (Nat.le_of_ble_eq_true rfl) dX2_drawAnew_76 ⟨(Nat.le_of_ble_eq_true rfl), (Nat.le_of_ble_eq_true rfl)⟩ (Nat.le_of_ble_eq_true rfl) (Nat.le_of_ble_eq_true rfl) (fun r_76 u9 H locs hw hP hD hS => ?_)
                obtain u9 := u9
                try dsimp only at hw
                have hP : va_P D vwCl [(h0, .inr (2, [.ref pa, .ref qa, .ref hq, .int (iZ ((t : Nat) : Int))])), (pa, .inl (cJ, 60, .inr (.inl (ZJ PU)))), (qa, .inl (cJ, 60, .inr (.inl (LJ QL)))), (hq, .inr (3, [.long (lZ (p0)), .long (lZ (q0))])), (h1, .inr (7, [.ref da, .ref sa, .int (iZ ((k : Nat) : Int))])), (da, .inl (cI, 30, .inl (ZI DF))), (sa, .inl (cI, 30, .inl (LI SF)))] H := hP
                have hD : va_D A [(h0, .inr (2, [.ref pa, .ref qa, .ref hq, .int (iZ ((t : Nat) : Int))])), (pa, .inl (cJ, 60, .inr (.inl (ZJ PU)))), (qa, .inl (cJ, 60, .inr (.inl (LJ QL)))), (hq, .inr (3, [.long (lZ (p0)), .long (lZ (q0))])), (h1, .inr (7, [.ref da, .ref sa, .int (iZ ((k : Nat) : Int))])), (da, .inl (cI, 30, .inl (ZI DF))), (sa, .inl (cI, 30, .inl (LI SF)))] := hD
                refine tp_i (y := (iZ (DF (unI (lcg y) k)))) (hw) ?_
                refine z_i2l (z := (DF (unI (lcg y) k))) hx hb dX2_drawAnew_79 ⟨by omega, by omega⟩ rfl ?_
                refine zl_add (z := (dwS DF k x (j + 1))) hx hb dX2_drawAnew_80 (by rw [dwS, dwX, ← ey]) ?_
                refine lv_lstore (lv' := [(9, .long (lZ (dwS DF k x (j + 1)))), (14, .int (iZ ((unI (lcg y) k : Nat) : Int))), (6, .long (lcg y)), (13, .int (iZ ((j : Nat) : Int))), (11, .long (lZ ((dwR SF k x j : Nat) : Int))), (8, .int (iZ ((t : Nat) : Int))), (5, .int (iZ ((k : Nat) : Int))), (0, .ref h0), (1, .long (x0)), (3, .int (iZ ((tm : Nat) : Int))), (4, .ref h1)]) hx hb dX2_drawAnew_81 hl (by decide) rfl (fun ls hl => ?_)
                refine lv_lload hx hb dX2_drawAnew_83 (lv_at hl 4 rfl) ?_
                refine lv_aload hx hb dX2_drawAnew_85 (lv_at hl 10 rfl) ?_
                refine lv_iload hx hb dX2_drawAnew_87 (lv_at hl 1 rfl) ?_
                refine ca_iV [.int (iZ ((unI (lcg y) k : Nat) : Int))] [.long (lZ ((dwR SF k x j : Nat) : Int))] [(h0, .inr (2, [.ref pa, .ref qa, .ref hq, .int (iZ ((t : Nat) : Int))])), (pa, .inl (cJ, 60, .inr (.inl (ZJ PU)))), (qa, .inl (cJ, 60, .inr (.inl (LJ QL)))), (hq, .inr (3, [.long (lZ (p0)), .long (lZ (q0))]))] 0 0 ⟨hx, hb, hml, hown, hts⟩ (c_X8_rowsOf l D cI cJ h1 da sa k DF SF (unI (lcg y) k) (unI_lt _ hk0) hk) (cwV 1 hts gX2_drawAnew_X8_rowsOf rfl rfl rfl (by decide +kernel) ⟨(Nat.le_of_ble_eq_true rfl), (Nat.le_of_ble_eq_true rfl)⟩) hK hP hD hS hA [4, 5, 6] [0, 1, 2, 3] rfl rfl rfl rfl (by decide) 0 rfl rfl rfl hl.1 rfl (Nat.le_of_ble_eq_true rfl) dX2_drawAnew_89 ⟨(Nat.le_of_ble_eq_true rfl), (Nat.le_of_ble_eq_true rfl)⟩ (Nat.le_of_ble_eq_true rfl) (Nat.le_of_ble_eq_true rfl) (fun r_89 u9 H locs hw hP hD hS => ?_)
                obtain u9 := u9
                try dsimp only at hw
                have hP : va_P D vwCl [(h0, .inr (2, [.ref pa, .ref qa, .ref hq, .int (iZ ((t : Nat) : Int))])), (pa, .inl (cJ, 60, .inr (.inl (ZJ PU)))), (qa, .inl (cJ, 60, .inr (.inl (LJ QL)))), (hq, .inr (3, [.long (lZ (p0)), .long (lZ (q0))])), (h1, .inr (7, [.ref da, .ref sa, .int (iZ ((k : Nat) : Int))])), (da, .inl (cI, 30, .inl (ZI DF))), (sa, .inl (cI, 30, .inl (LI SF)))] H := hP
                have hD : va_D A [(h0, .inr (2, [.ref pa, .ref qa, .ref hq, .int (iZ ((t : Nat) : Int))])), (pa, .inl (cJ, 60, .inr (.inl (ZJ PU)))), (qa, .inl (cJ, 60, .inr (.inl (LJ QL)))), (hq, .inr (3, [.long (lZ (p0)), .long (lZ (q0))])), (h1, .inr (7, [.ref da, .ref sa, .int (iZ ((k : Nat) : Int))])), (da, .inl (cI, 30, .inl (ZI DF))), (sa, .inl (cI, 30, .inl (LI SF)))] := hD
                refine tp_i (y := (iZ ((SF (unI (lcg y) k) : Nat) : Int))) (hw) ?_
                refine z_i2l (z := ((SF (unI (lcg y) k) : Nat) : Int)) hx hb dX2_drawAnew_92 ⟨by omega, by omega⟩ rfl ?_
                refine zl_add (z := ((dwR SF k x (j + 1) : Nat) : Int)) hx hb dX2_drawAnew_93 (by rw [dwR, dwX, ← ey]; omega) ?_
                refine lv_lstore (lv' := [(11, .long (lZ ((dwR SF k x (j + 1) : Nat) : Int))), (9, .long (lZ (dwS DF k x (j + 1)))), (14, .int (iZ ((unI (lcg y) k : Nat) : Int))), (6, .long (lcg y)), (13, .int (iZ ((j : Nat) : Int))), (8, .int (iZ ((t : Nat) : Int))), (5, .int (iZ ((k : Nat) : Int))), (0, .ref h0), (1, .long (x0)), (3, .int (iZ ((tm : Nat) : Int))), (4, .ref h1)]) hx hb dX2_drawAnew_94 hl (by decide) rfl (fun ls hl => ?_)
                refine lv_iinc (v := iZ ((j + 1 : Nat) : Int)) (lv' := [(13, .int (iZ ((j + 1 : Nat) : Int))), (11, .long (lZ ((dwR SF k x (j + 1) : Nat) : Int))), (9, .long (lZ (dwS DF k x (j + 1)))), (14, .int (iZ ((unI (lcg y) k : Nat) : Int))), (6, .long (lcg y)), (8, .int (iZ ((t : Nat) : Int))), (5, .int (iZ ((k : Nat) : Int))), (0, .ref h0), (1, .long (x0)), (3, .int (iZ ((tm : Nat) : Int))), (4, .ref h1)]) hx hb dX2_drawAnew_96 hl (k := 4) rfl (zi_inc (by omega)) (by decide) rfl (fun ls hl => ?_)
                refine lv_goto (tgt := 39) hx hb dX2_drawAnew_99 (by decide) ?_
                exact ih_39 (j + 1) (lcg y) (by omega) (by rw [ey]; rfl) (by omega) _ _ hP hD hS ls (lv_sub hl [0, 1, 2, 5, 4, 6, 7, 8, 9, 10] rfl)
          exact pt_39 (k + 1) 0 x (by omega) rfl (by omega) _ _ hP hD hS ls (lv_sub hl [0, 1, 2, 3, 4, 5, 6, 7, 8, 9] rfl)
    exact pt_24 (tm + 1) 0 x0 _ _ _ _ (by omega) rfl (fun j h9 => by omega) (by omega) _ _ hP hD hS ls (lv_sub hl [0, 1, 2, 3, 4, 5, 6] rfl)
  · exfalso; omega

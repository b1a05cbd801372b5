abbrev B16 : Nat := 65536
/-- the reference's wide numbers: 32 digits of 16 bits -/
def mo (g : Nat → Nat) (v : Nat) : Prop := (∀ j, j < 32 → g j < 65536) ∧ dv B16 g 32 = v
theorem mo_lt {g : Nat → Nat} {v : Nat} (h : mo g v) : v < B16 ^ 32 := by rw [← h.2]; exact dv_lt h.1
theorem B16_32 : B16 ^ 32 = 2 ^ 512 := by decide +kernel
theorem i_and16 {n : Nat} (h : n < 2147483648) : iZ ((n : Nat) : Int) &&& iZ ((65535 : Nat) : Int) = iZ ((n % 65536 : Nat) : Int) := by
  rw [iZ_nI, iZ_nI, iZ_nI]; exact pk_andN (by omega) 16 (by decide)
theorem i_ushr16 {n : Nat} (h : n < 2147483648) : ((iZ ((n : Nat) : Int)).toUInt32 >>> ((iZ ((16 : Nat) : Int)).toUInt32 &&& Int32.toUInt32 31)).toInt32 = iZ ((n / 65536 : Nat) : Int) := by
  rw [iZ_nI, iZ_nI, iZ_nI]; exact pk_ushrN (by omega) _ 16 (by decide)
theorem i_shr16 {n : Nat} (h : n < 2147483648) : iZ ((n : Nat) : Int) >>> (iZ ((16 : Nat) : Int) &&& 31) = iZ ((n / 65536 : Nat) : Int) := by
  rw [iZ_nI, iZ_nI, iZ_nI]; exact pk_shrN (by omega) _ 16 (by decide)
theorem l_or16 {r d : Nat} (hr : r < 2147483648) (hd : d < 65536) : lZ ((r * 65536 : Nat) : Int) ||| lZ ((d : Nat) : Int) = lZ ((r * 65536 + d : Nat) : Int) := by
  rw [lZ_lN, lZ_lN, lZ_lN]; exact g_or (k := 16) (by decide) hd (by omega)
theorem mo_small {g : Nat → Nat} {x : Nat} (hg : ∀ j, j < 32 → g j = 0) (hx : x < 2147483648) : mo (nup (nup g 0 (x % 65536)) 1 (x / 65536)) x := by
  refine ⟨fun j hj => ?_, ?_⟩
  · by_cases e1 : j = 1
    · subst e1; rw [nup_s]; omega
    · rw [nup_n e1]
      by_cases e0 : j = 0
      · subst e0; rw [nup_s]; omega
      · rw [nup_n e0, hg j hj]; decide
  · have e := dv_ext (B := B16) (g := nup (nup g 0 (x % 65536)) 1 (x / 65536)) (k := 2) (n := 30) (fun j a b => by rw [nup_n (by omega), nup_n (by omega)]; exact hg j (by omega))
    rw [show 2 + 30 = 32 from rfl] at e
    rw [e]
    simp only [dv, nup_s, nup_n (show 0 ≠ 1 by decide)]
    show 0 + x % 65536 * 65536 ^ 0 + x / 65536 * 65536 ^ 1 = x
    omega
/-- times: behind i digits -/
def mtI (g0 g : Nat → Nat) (k i c : Nat) : Prop := (∀ j, j < 32 → g j < 65536) ∧ (∀ j, i ≤ j → g j = g0 j) ∧ c ≤ k ∧ dv B16 g i + c * B16 ^ i = k * dv B16 g0 i
theorem mtI_0 {g : Nat → Nat} {v k : Nat} (h : mo g v) : mtI g g k 0 0 := ⟨h.1, fun _ _ => rfl, Nat.zero_le _, by simp [dv]⟩
theorem mtI_b {g0 g : Nat → Nat} {k i c : Nat} (h : mtI g0 g k i c) (hk : k < 2147483648) (hi : i < 32) : c + g i * k < 140737488355328 := by
  obtain ⟨h1, h2, h3, h4⟩ := h
  have h5 := h1 i hi
  have : g i * k ≤ 65535 * k := Nat.mul_le_mul_right _ (by omega)
  omega
theorem mtI_s {g0 g : Nat → Nat} {k i c : Nat} (h : mtI g0 g k i c) (hi : i < 32) : mtI g0 (nup g i ((c + g i * k) % 65536)) k (i + 1) ((c + g i * k) / 65536) := by
  obtain ⟨h1, h2, h3, h4⟩ := h
  refine ⟨fun j hj => ?_, fun j hj => ?_, ?_, ?_⟩
  · by_cases e : j = i
    · subst e; rw [nup_s]; exact Nat.mod_lt _ (by decide)
    · rw [nup_n e]; exact h1 j hj
  · rw [nup_n (by omega)]; exact h2 j (by omega)
  · have h5 := h1 i hi
    have : g i * k ≤ 65535 * k := Nat.mul_le_mul_right _ (by omega)
    apply Nat.le_of_lt_succ
    show (c + g i * k) / 65536 < k + 1
    rw [Nat.div_lt_iff_lt_mul (by decide)]
    omega
  · rw [dv, dv, nup_s, dv_nup _ _ (Nat.le_refl i), Nat.pow_succ, ← h2 i (Nat.le_refl i)]
    generalize ht : c + g i * k = t
    have e : t % 65536 + B16 * (t / 65536) = t := Nat.mod_add_div t B16
    have e2 : t / 65536 * (B16 ^ i * B16) = (B16 * (t / 65536)) * B16 ^ i := by rw [Nat.mul_comm (B16 ^ i) B16, ← Nat.mul_assoc, Nat.mul_comm (t / 65536) B16]
    rw [e2, Nat.add_assoc, ← Nat.add_mul, e, ← ht, Nat.add_mul, Nat.mul_add k, ← h4, Nat.mul_comm (g i) k, Nat.mul_assoc]
    omega
theorem mtI_e {g0 g : Nat → Nat} {k v c : Nat} (h0 : mo g0 v) (h : mtI g0 g k 32 c) (hv : v * k < B16 ^ 32) : mo g (v * k) := by
  obtain ⟨h1, h2, h3, h4⟩ := h
  rw [h0.2, Nat.mul_comm k v] at h4
  have hc : c = 0 := by
    rcases Nat.eq_zero_or_pos c with h | h
    · exact h
    · have : 1 * B16 ^ 32 ≤ c * B16 ^ 32 := Nat.mul_le_mul_right _ h
      omega
  refine ⟨h1, ?_⟩
  rw [hc, Nat.zero_mul, Nat.add_zero] at h4
  exact h4
/-- the digits from j on, as a number -/
def sv (B : Nat) (g : Nat → Nat) : Nat → Nat → Nat
  | _, 0 => 0
  | j, m + 1 => g j + B * sv B g (j + 1) m
theorem sv_dv (B : Nat) (g : Nat → Nat) : ∀ (m j : Nat), dv B g j + B ^ j * sv B g j m = dv B g (j + m)
  | 0, j => by rw [sv, Nat.mul_zero]; rfl
  | m + 1, j => by
    have h := sv_dv B g m (j + 1)
    rw [show j + (m + 1) = j + 1 + m by omega, ← h, sv, dv, Nat.mul_add, Nat.pow_succ, Nat.mul_comm (B ^ j) (g j), Nat.mul_assoc]
    omega
theorem sv_congr {B : Nat} {g h : Nat → Nat} : ∀ {m j : Nat}, (∀ i, j ≤ i → i < j + m → g i = h i) → sv B g j m = sv B h j m
  | 0, j, _ => rfl
  | m + 1, j, H => by rw [sv, sv, H j (by omega) (by omega), sv_congr (fun i a b => H i (by omega) (by omega))]
/-- over: the digits from j on are done, the rest is r -/
def moI (g0 g : Nat → Nat) (k j r : Nat) : Prop := (∀ i, i < 32 → g i < 65536) ∧ (∀ i, i < j → g i = g0 i) ∧ r < k ∧ sv B16 g0 j (32 - j) = sv B16 g j (32 - j) * k + r
theorem moI_0 {g : Nat → Nat} {v k : Nat} (h : mo g v) (hk : 0 < k) : moI g g k 32 0 := ⟨h.1, fun _ _ => rfl, hk, by show 0 = 0 * k + 0; omega⟩
theorem moI_s {g0 g : Nat → Nat} {k j r : Nat} (h : moI g0 g k j r) (hj : 0 < j) (hj2 : j ≤ 32) (hg0 : ∀ i, i < 32 → g0 i < 65536) : moI g0 (nup g (j - 1) ((r * 65536 + g (j - 1)) / k)) k (j - 1) ((r * 65536 + g (j - 1)) % k) := by
  obtain ⟨h1, h2, h3, h4⟩ := h
  have hd := h1 (j - 1) (by omega)
  refine ⟨fun i hi => ?_, fun i hi => ?_, Nat.mod_lt _ (by omega), ?_⟩
  · by_cases e : i = j - 1
    · subst e; rw [nup_s, Nat.div_lt_iff_lt_mul (by omega)]
      have : (r + 1) * 65536 ≤ k * 65536 := Nat.mul_le_mul_right _ h3
      rw [Nat.mul_comm 65536 k]
      omega
    · rw [nup_n e]; exact h1 i hi
  · rw [nup_n (by omega)]; exact h2 i (by omega)
  · have e1 : 32 - (j - 1) = (32 - j) + 1 := by omega
    rw [e1, sv, sv, nup_s, show j - 1 + 1 = j by omega, h4, sv_congr (g := nup g (j - 1) _) (h := g) (fun i a b => nup_n (by omega)), ← h2 (j - 1) (by omega)]
    have e2 := Nat.div_add_mod (r * 65536 + g (j - 1)) k
    generalize (r * 65536 + g (j - 1)) / k = q at *
    generalize sv B16 g j (32 - j) = S at *
    have e3 : B16 * (S * k + r) = B16 * S * k + B16 * r := by rw [Nat.mul_add, Nat.mul_assoc]
    have e4 : (q + B16 * S) * k = q * k + B16 * S * k := Nat.add_mul _ _ _
    have e6 : k * q = q * k := Nat.mul_comm _ _
    have e7 : B16 * r = r * 65536 := Nat.mul_comm _ _
    rw [e3, e4]
    omega
theorem moI_e {g0 g : Nat → Nat} {k v r : Nat} (h0 : mo g0 v) (h : moI g0 g k 0 r) : mo g (v / k) := by
  obtain ⟨h1, h2, h3, h4⟩ := h
  have a := sv_dv B16 g0 32 0
  have b := sv_dv B16 g 32 0
  rw [Nat.pow_zero, Nat.one_mul] at a b
  have a' : sv B16 g0 0 32 = v := by rw [← h0.2]; rw [show (0 : Nat) + 32 = 32 from rfl] at a; rw [← a]; show _ = 0 + _; omega
  have b' : sv B16 g 0 32 = dv B16 g 32 := by rw [show (0 : Nat) + 32 = 32 from rfl] at b; rw [← b]; show _ = 0 + _; omega
  refine ⟨h1, ?_⟩
  rw [show 32 - 0 = 32 from rfl, a', b'] at h4
  rw [h4, Nat.mul_comm, Nat.mul_add_div (by omega), Nat.div_eq_of_lt h3, Nat.add_zero]
/-- plus: behind i digits -/
def mpI (g0 h g : Nat → Nat) (i c : Nat) : Prop := (∀ j, j < 32 → g j < 65536) ∧ (∀ j, i ≤ j → g j = g0 j) ∧ c ≤ 1 ∧ dv B16 g i + c * B16 ^ i = dv B16 g0 i + dv B16 h i
theorem mpI_0 {g h : Nat → Nat} {v : Nat} (hg : mo g v) : mpI g h g 0 0 := ⟨hg.1, fun _ _ => rfl, by decide, by simp [dv]⟩
theorem mpI_s {g0 h g : Nat → Nat} {i c w : Nat} (H : mpI g0 h g i c) (hh : mo h w) (hi : i < 32) : mpI g0 h (nup g i ((c + (g i + h i)) % 65536)) (i + 1) ((c + (g i + h i)) / 65536) := by
  obtain ⟨h1, h2, h3, h4⟩ := H
  have a1 := h1 i hi
  have a2 := hh.1 i hi
  refine ⟨fun j hj => ?_, fun j hj => ?_, by omega, ?_⟩
  · by_cases e : j = i
    · subst e; rw [nup_s]; exact Nat.mod_lt _ (by decide)
    · rw [nup_n e]; exact h1 j hj
  · rw [nup_n (by omega)]; exact h2 j (by omega)
  · rw [dv, dv, dv, nup_s, dv_nup _ _ (Nat.le_refl i), Nat.pow_succ, ← h2 i (Nat.le_refl i)]
    generalize ht : c + (g i + h i) = t
    have e : t % 65536 + B16 * (t / 65536) = t := Nat.mod_add_div t B16
    have e2 : t / 65536 * (B16 ^ i * B16) = (B16 * (t / 65536)) * B16 ^ i := by rw [Nat.mul_comm (B16 ^ i) B16, ← Nat.mul_assoc, Nat.mul_comm (t / 65536) B16]
    rw [e2, Nat.add_assoc, ← Nat.add_mul, e, ← ht, Nat.add_mul, Nat.add_mul]
    omega
theorem mpI_e {g0 h g : Nat → Nat} {v w c : Nat} (hg : mo g0 v) (hh : mo h w) (H : mpI g0 h g 32 c) (hv : v + w < B16 ^ 32) : mo g (v + w) := by
  obtain ⟨h1, h2, h3, h4⟩ := H
  rw [hg.2, hh.2] at h4
  have hc : c = 0 := by
    rcases Nat.eq_zero_or_pos c with h | h
    · exact h
    · have : 1 * B16 ^ 32 ≤ c * B16 ^ 32 := Nat.mul_le_mul_right _ h
      omega
  rw [hc, Nat.zero_mul, Nat.add_zero] at h4
  exact ⟨h1, h4⟩
theorem mo_less {g h : Nat → Nat} {v w i : Nat} (hg : mo g v) (hh : mo h w) (hi : i < 32) (hall : ∀ x, i + 1 ≤ x → x < 32 → g x = h x) (hlt : g i < h i) : v < w := by
  rw [← hg.2, ← hh.2]
  have := dv_cmp (B := B16) (g := g) (h := h) (by decide) (i := i) (fun j hj => hg.1 j (by omega)) (fun j hj => hh.1 j (by omega)) hlt (n := 32 - (i + 1)) (fun j a b => hall j (by omega) (by omega))
  rw [show i + 1 + (32 - (i + 1)) = 32 by omega] at this
  exact this
theorem mo_eq {g h : Nat → Nat} {v w : Nat} (hg : mo g v) (hh : mo h w) (hall : ∀ x, 0 ≤ x → x < 32 → g x = h x) : v = w := by
  rw [← hg.2, ← hh.2]
  exact dv_congr (fun j hj => hall j (Nat.zero_le _) hj)
def rmX11_in : Room := { frames := 0, cells := 0, slots := 0, locals := 0 }
set_option maxHeartbeats 4000000 in
set_option maxRecDepth 100000 in
theorem c_X11_in (l : Launch) (D : va_G) (cI cJ : ClassId) (a b c0 : Int) (ia : lR a) (ib : lR b) (ic : lR c0) : Ci l D vwCl (tyT cI cJ) yX11_in wsX11_in rmX11_in [.long (lZ (a)), .long (lZ (b)), .long (lZ (c0))] [] (Unit) (fun r _ => bres r (b ≤ a ∧ a ≤ c0)) (fun _ => []) := by
  refine en_i (cc := cX11_in) (maxL := 6) (by decide) rfl [(0, .long (lZ (a))), (2, .long (lZ (b))), (4, .long (lZ (c0)))] (Nat.le_of_ble_eq_true rfl) rfl ?_
  intro p e s m args below meth c Q A hx hb hml hown hts hnm hK hP hD hA hS hret ls hl
  refine lv_lload_n hx hb dX11_in_0 rfl (lv_at hl 0 rfl) ?_
  refine lv_lload_n hx hb dX11_in_1 rfl (lv_at hl 1 rfl) ?_
  refine zb_l_lt (x := (a)) (y := (b)) (tgt := 17) hx hb dX11_in_2 dX11_in_3 (by decide) ia ib (fun c_2 => ?_) (fun c_2 => ?_)
  · refine zc_iconst (z := ((0 : Nat) : Int)) hx hb dX11_in_17 (by decide) ?_
    exact hret _ (()) _ _ _ _ _ _ (Nat.le_of_ble_eq_true rfl) (Nat.le_of_ble_eq_true rfl) rfl dX11_in_18 (bres_f (by omega)) hP hD hS
  · refine lv_lload_n hx hb dX11_in_6 rfl (lv_at hl 0 rfl) ?_
    refine lv_lload hx hb dX11_in_7 (lv_at hl 2 rfl) ?_
    refine zb_l_gt (x := (a)) (y := (c0)) (tgt := 17) hx hb dX11_in_9 dX11_in_10 (by decide) ia ic (fun c_9 => ?_) (fun c_9 => ?_)
    · refine zc_iconst (z := ((0 : Nat) : Int)) hx hb dX11_in_17 (by decide) ?_
      exact hret _ (()) _ _ _ _ _ _ (Nat.le_of_ble_eq_true rfl) (Nat.le_of_ble_eq_true rfl) rfl dX11_in_18 (bres_f (by omega)) hP hD hS
    · refine zc_iconst (z := ((1 : Nat) : Int)) hx hb dX11_in_13 (by decide) ?_
      refine lv_goto (tgt := 18) hx hb dX11_in_14 (by decide) ?_
      exact hret _ (()) _ _ _ _ _ _ (Nat.le_of_ble_eq_true rfl) (Nat.le_of_ble_eq_true rfl) rfl dX11_in_18 (bres_t (by omega)) hP hD hS
def rmX11_small : Room := { frames := 0, cells := 0, slots := 0, locals := 0 }
set_option maxHeartbeats 4000000 in
set_option maxRecDepth 100000 in
theorem c_X11_small (l : Launch) (D : va_G) (cI cJ : ClassId) (pa : Nat) (g : Nat → Nat) (x : Nat) (hx0 : x < 2147483648) : Cv l D vwCl (tyT cI cJ) yX11_small wsX11_small rmX11_small [.ref pa, .int (iZ ((x : Nat) : Int))] [(pa, .inl (cI, 32, .inl (LI g)))] (Nat → Nat) (fun r => mo r x) (fun r => [(pa, .inl (cI, 32, .inl (LI r)))]) := by
  refine en_v (cc := cX11_small) (maxL := 3) (by decide) rfl [(0, .ref pa), (1, .int (iZ ((x : Nat) : Int)))] (Nat.le_of_ble_eq_true rfl) rfl ?_
  intro p e s m args below meth c Q A hx hb hml hown hts hnm hK hP hD hA hS hret ls hl
  have hh_0 := hts (.constant RX11 54 (65535)) (by decide +kernel)
  refine zc_iconst (z := ((0 : Nat) : Int)) hx hb dX11_small_0 (by decide) ?_
  refine lv_istore_n (lv' := [(2, .int (iZ ((0 : Nat) : Int))), (0, .ref pa), (1, .int (iZ ((x : Nat) : Int)))]) hx hb dX11_small_1 rfl hl (by decide) rfl (fun ls hl => ?_)
  have pt_2 : ∀ n : Nat, ∀ (i : Nat) (g : Nat → Nat), (hi : i ≤ 32) → (hg : ∀ j, j < i → g j = 0) → (hn : 32 < i + n) → (H : Heap) → (locs : List Loc) → va_P D vwCl [(pa, .inl (cI, 32, .inl (LI g)))] H → va_D A [(pa, .inl (cI, 32, .inl (LI g)))] → va_S A s.heap H locs → (ls : Array Slot) → lv_has ls 3 [(2, .int (iZ ((i : Nat) : Int))), (0, .ref pa), (1, .int (iZ ((x : Nat) : Int)))] → W p l e rmX11_small s m args below meth c H locs 0 0 Q (F0 m 2 ls []) := by
    intro n
    induction n with
    | zero =>
      intro i g hi hg hn H locs hP hD hS ls hl
      exfalso; omega
    | succ n ih_2 =>
      intro i g hi hg hn H locs hP hD hS ls hl
      refine lv_iload_n hx hb dX11_small_2 rfl (lv_at hl 0 rfl) ?_
      refine zc_bipush (z := ((32 : Nat) : Int)) hx hb dX11_small_3 (by decide) ?_
      refine zb_icmp_ge (x := ((i : Nat) : Int)) (y := ((32 : Nat) : Int)) (tgt := 18) hx hb dX11_small_5 (by decide) ⟨by omega, by omega⟩ ⟨by decide, by decide⟩ (fun c_5 => ?_) (fun c_5 => ?_)
      · refine lv_aload_n hx hb dX11_small_18 rfl (lv_at hl 1 rfl) ?_
        refine zc_iconst (z := ((0 : Nat) : Int)) hx hb dX11_small_19 (by decide) ?_
        refine lv_iload_n hx hb dX11_small_20 rfl (lv_at hl 2 rfl) ?_
        refine lv_ldc hx hb hown hh_0 dX11_small_21 (tp_i (y := iZ ((65535 : Nat) : Int)) (by decide) ?_)
        refine lv_iand hx hb dX11_small_23 (tp_i (y := (iZ ((x % 65536 : Nat) : Int))) (i_and16 hx0) ?_)
        refine za_iast hx hb hK hP hD hS 0 0 rfl rfl (0) (by decide) rfl (by omega) dX11_small_24 (fun H locs hP hD hS => ?_)
        have hP : va_P D vwCl [(pa, .inl (cI, 32, .inl (upd (LI g) (0) ((iZ ((x % 65536 : Nat) : Int))))))] H := hP
        have hD : va_D A [(pa, .inl (cI, 32, .inl (upd (LI g) (0) ((iZ ((x % 65536 : Nat) : Int))))))] := hD
        rw [LI_up] at hP hD
        have hP : va_P D vwCl [(pa, .inl (cI, 32, .inl (LI (nup g (0) (x % 65536)))))] H := hP
        have hD : va_D A [(pa, .inl (cI, 32, .inl (LI (nup g (0) (x % 65536)))))] := hD
        refine lv_aload_n hx hb dX11_small_25 rfl (lv_at hl 1 rfl) ?_
        refine zc_iconst (z := ((1 : Nat) : Int)) hx hb dX11_small_26 (by decide) ?_
        refine lv_iload_n hx hb dX11_small_27 rfl (lv_at hl 2 rfl) ?_
        refine zc_bipush (z := ((16 : Nat) : Int)) hx hb dX11_small_28 (by decide) ?_
        refine lv_iushr (v := (iZ ((x / 65536 : Nat) : Int))) hx hb dX11_small_30 (i_ushr16 hx0) ?_
        refine za_iast hx hb hK hP hD hS 0 0 rfl rfl (1) (by decide) rfl (by omega) dX11_small_31 (fun H locs hP hD hS => ?_)
        have hP : va_P D vwCl [(pa, .inl (cI, 32, .inl (upd (LI (nup g (0) (x % 65536))) (1) ((iZ ((x / 65536 : Nat) : Int))))))] H := hP
        have hD : va_D A [(pa, .inl (cI, 32, .inl (upd (LI (nup g (0) (x % 65536))) (1) ((iZ ((x / 65536 : Nat) : Int))))))] := hD
        rw [LI_up] at hP hD
        have hP : va_P D vwCl [(pa, .inl (cI, 32, .inl (LI (nup (nup g (0) (x % 65536)) (1) (x / 65536)))))] H := hP
        have hD : va_D A [(pa, .inl (cI, 32, .inl (LI (nup (nup g (0) (x % 65536)) (1) (x / 65536)))))] := hD
        exact hret (nup (nup g 0 (x % 65536)) 1 (x / 65536)) _ _ _ _ _ _ (Nat.le_of_ble_eq_true rfl) (Nat.le_of_ble_eq_true rfl) dX11_small_32 (mo_small (fun j hj => hg j (by omega)) hx0) hP hD hS
      · refine lv_aload_n hx hb dX11_small_8 rfl (lv_at hl 1 rfl) ?_
        refine lv_iload_n hx hb dX11_small_9 rfl (lv_at hl 0 rfl) ?_
        refine zc_iconst (z := ((0 : Nat) : Int)) hx hb dX11_small_10 (by decide) ?_
        refine za_iast hx hb hK hP hD hS 0 0 rfl rfl (i) (by decide) rfl (by omega) dX11_small_11 (fun H locs hP hD hS => ?_)
        have hP : va_P D vwCl [(pa, .inl (cI, 32, .inl (upd (LI g) (i) ((iZ ((0 : Nat) : Int))))))] H := hP
        have hD : va_D A [(pa, .inl (cI, 32, .inl (upd (LI g) (i) ((iZ ((0 : Nat) : Int))))))] := hD
        rw [LI_up] at hP hD
        obtain ⟨g1, eg1⟩ : ∃ g9, g9 = nup g (i) (0) := ⟨_, rfl⟩
        rw [← eg1] at hP hD
        have hP : va_P D vwCl [(pa, .inl (cI, 32, .inl (LI g1)))] H := hP
        have hD : va_D A [(pa, .inl (cI, 32, .inl (LI g1)))] := hD
        refine lv_iinc (v := iZ ((i + 1 : Nat) : Int)) (lv' := [(2, .int (iZ ((i + 1 : Nat) : Int))), (0, .ref pa), (1, .int (iZ ((x : Nat) : Int)))]) hx hb dX11_small_12 hl (k := 0) rfl (zi_inc (by omega)) (by decide) rfl (fun ls hl => ?_)
        refine lv_goto (tgt := 2) hx hb dX11_small_15 (by decide) ?_
        exact ih_2 (i + 1) g1 (by omega) (fun j hj => by rw [eg1]; by_cases e9 : j = i; (· rw [e9, nup_s]); (· rw [nup_n e9]; exact hg j (by omega))) (by omega) _ _ hP hD hS ls (lv_sub hl [0, 1, 2] rfl)
  exact pt_2 33 0 g (by omega) (fun j hj => by omega) (by omega) _ _ hP hD hS ls (lv_sub hl [0, 1, 2] rfl)
def rmX11_times : Room := { frames := 0, cells := 0, slots := 0, locals := 0 }
set_option maxHeartbeats 4000000 in
set_option maxRecDepth 100000 in
theorem c_X11_times (l : Launch) (D : va_G) (cI cJ : ClassId) (pa : Nat) (g0 : Nat → Nat) (v k : Nat) (h0 : mo g0 v) (hk : k < 2147483648) (hv : v * k < B16 ^ 32) : Cv l D vwCl (tyT cI cJ) yX11_times wsX11_times rmX11_times [.ref pa, .long (lZ ((k : Nat) : Int))] [(pa, .inl (cI, 32, .inl (LI g0)))] (Nat → Nat) (fun r => mo r (v * k)) (fun r => [(pa, .inl (cI, 32, .inl (LI r)))]) := by
  refine en_v (cc := cX11_times) (maxL := 6) (by decide) rfl [(0, .ref pa), (1, .long (lZ ((k : Nat) : Int)))] (Nat.le_of_ble_eq_true rfl) rfl ?_
  intro p e s m args below meth c Q A hx hb hml hown hts hnm hK hP hD hA hS hret ls hl
  have hh_0 := hts (.constantLong RX11 55 (65535)) (by decide +kernel)
  refine zc_lconst (z := ((0 : Nat) : Int)) hx hb dX11_times_0 (by decide) ?_
  refine lv_lstore_n (lv' := [(3, .long (lZ ((0 : Nat) : Int))), (0, .ref pa), (1, .long (lZ ((k : Nat) : Int)))]) hx hb dX11_times_1 rfl hl (by decide) rfl (fun ls hl => ?_)
  refine zc_iconst (z := ((0 : Nat) : Int)) hx hb dX11_times_2 (by decide) ?_
  refine lv_istore (lv' := [(5, .int (iZ ((0 : Nat) : Int))), (3, .long (lZ ((0 : Nat) : Int))), (0, .ref pa), (1, .long (lZ ((k : Nat) : Int)))]) hx hb dX11_times_3 hl (by decide) rfl (fun ls hl => ?_)
  have pt_5 : ∀ n : Nat, ∀ (i c9 : Nat) (g : Nat → Nat), (hi : i ≤ 32) → (hI : mtI g0 g k i c9) → (hn : 32 < i + n) → (H : Heap) → (locs : List Loc) → va_P D vwCl [(pa, .inl (cI, 32, .inl (LI g)))] H → va_D A [(pa, .inl (cI, 32, .inl (LI g)))] → va_S A s.heap H locs → (ls : Array Slot) → lv_has ls 6 [(5, .int (iZ ((i : Nat) : Int))), (3, .long (lZ ((c9 : Nat) : Int))), (0, .ref pa), (1, .long (lZ ((k : Nat) : Int)))] → W p l e rmX11_times s m args below meth c H locs 0 0 Q (F0 m 5 ls []) := by
    intro n
    induction n with
    | zero =>
      intro i c9 g hi hI hn H locs hP hD hS ls hl
      exfalso; omega
    | succ n ih_5 =>
      intro i c9 g hi hI hn H locs hP hD hS ls hl
      refine lv_iload hx hb dX11_times_5 (lv_at hl 0 rfl) ?_
      refine zc_bipush (z := ((32 : Nat) : Int)) hx hb dX11_times_7 (by decide) ?_
      refine zb_icmp_ge (x := ((i : Nat) : Int)) (y := ((32 : Nat) : Int)) (tgt := 43) hx hb dX11_times_9 (by decide) ⟨by omega, by omega⟩ ⟨by decide, by decide⟩ (fun c_9 => ?_) (fun c_9 => ?_)
      · exact hret (g) _ _ _ _ _ _ (Nat.le_of_ble_eq_true rfl) (Nat.le_of_ble_eq_true rfl) dX11_times_43 (by have e9 : i = 32 := (by omega); rw [e9] at hI; exact mtI_e h0 hI hv) hP hD hS
      · have hb9 := mtI_b hI hk (by omega)
        have hb8 := hI.1 i (by omega)
        refine lv_lload_n hx hb dX11_times_12 rfl (lv_at hl 1 rfl) ?_
        refine lv_aload_n hx hb dX11_times_13 rfl (lv_at hl 2 rfl) ?_
        refine lv_iload hx hb dX11_times_14 (lv_at hl 0 rfl) ?_
        refine za_iald hx hb hK hP 0 0 rfl rfl (i) (v := ((g i : Nat) : Int)) (by decide) rfl (by omega) (rfl) dX11_times_16 ?_
        refine z_i2l (z := ((g i : Nat) : Int)) hx hb dX11_times_17 ⟨by omega, by omega⟩ rfl ?_
        refine lv_lload_n hx hb dX11_times_18 rfl (lv_at hl 3 rfl) ?_
        refine zl_mul (z := (((g i) * k : Nat) : Int)) hx hb dX11_times_19 (Int.natCast_mul _ _).symm ?_
        refine zl_add (z := ((c9 + g i * k : Nat) : Int)) hx hb dX11_times_20 (by omega) ?_
        refine lv_lstore_n (lv' := [(3, .long (lZ ((c9 + g i * k : Nat) : Int))), (5, .int (iZ ((i : Nat) : Int))), (0, .ref pa), (1, .long (lZ ((k : Nat) : Int)))]) hx hb dX11_times_21 rfl hl (by decide) rfl (fun ls hl => ?_)
        refine lv_aload_n hx hb dX11_times_22 rfl (lv_at hl 2 rfl) ?_
        refine lv_iload hx hb dX11_times_23 (lv_at hl 1 rfl) ?_
        refine lv_lload_n hx hb dX11_times_25 rfl (lv_at hl 0 rfl) ?_
        refine lv_ldc2 hx hb hown hh_0 dX11_times_26 (tp_l (y := lZ ((65535 : Nat) : Int)) (by decide) ?_)
        refine lv_land hx hb dX11_times_29 (tp_l (y := (lZ (((c9 + g i * k) % 65536 : Nat) : Int))) (z_land16 (by omega)) ?_)
        refine z_l2i (z := (((c9 + g i * k) % 65536 : Nat) : Int)) hx hb dX11_times_30 rfl ?_
        refine za_iast hx hb hK hP hD hS 0 0 rfl rfl (i) (by decide) rfl (by omega) dX11_times_31 (fun H locs hP hD hS => ?_)
        have hP : va_P D vwCl [(pa, .inl (cI, 32, .inl (upd (LI g) (i) ((iZ (((c9 + g i * k) % 65536 : Nat) : Int))))))] H := hP
        have hD : va_D A [(pa, .inl (cI, 32, .inl (upd (LI g) (i) ((iZ (((c9 + g i * k) % 65536 : Nat) : Int))))))] := hD
        rw [LI_up] at hP hD
        obtain ⟨g1, eg1⟩ : ∃ g9, g9 = nup g (i) ((c9 + g i * k) % 65536) := ⟨_, rfl⟩
        rw [← eg1] at hP hD
        have hP : va_P D vwCl [(pa, .inl (cI, 32, .inl (LI g1)))] H := hP
        have hD : va_D A [(pa, .inl (cI, 32, .inl (LI g1)))] := hD
        refine lv_lload_n hx hb dX11_times_32 rfl (lv_at hl 0 rfl) ?_
        refine zc_bipush (z := ((16 : Nat) : Int)) hx hb dX11_times_33 (by decide) ?_
        refine lv_lushr (v := (lZ (((c9 + g i * k) / 65536 : Nat) : Int))) hx hb dX11_times_35 (z_lushr16 (by omega)) ?_
        refine lv_lstore_n (lv' := [(3, .long (lZ (((c9 + g i * k) / 65536 : Nat) : Int))), (5, .int (iZ ((i : Nat) : Int))), (0, .ref pa), (1, .long (lZ ((k : Nat) : Int)))]) hx hb dX11_times_36 rfl hl (by decide) rfl (fun ls hl => ?_)
        refine lv_iinc (v := iZ ((i + 1 : Nat) : Int)) (lv' := [(5, .int (iZ ((i + 1 : Nat) : Int))), (3, .long (lZ (((c9 + g i * k) / 65536 : Nat) : Int))), (0, .ref pa), (1, .long (lZ ((k : Nat) : Int)))]) hx hb dX11_times_37 hl (k := 1) rfl (zi_inc (by omega)) (by decide) rfl (fun ls hl => ?_)
        refine lv_goto (tgt := 5) hx hb dX11_times_40 (by decide) ?_
        exact ih_5 (i + 1) ((c9 + g i * k) / 65536) g1 (by omega) (by rw [eg1]; exact mtI_s hI (by omega)) (by omega) _ _ hP hD hS ls (lv_sub hl [0, 1, 2, 3] rfl)
  exact pt_5 33 0 0 g0 (by omega) (mtI_0 h0) (by omega) _ _ hP hD hS ls (lv_sub hl [0, 1, 2, 3] rfl)
def rmX11_over : Room := { frames := 0, cells := 0, slots := 0, locals := 0 }
set_option maxHeartbeats 4000000 in
set_option maxRecDepth 100000 in
theorem c_X11_over (l : Launch) (D : va_G) (cI cJ : ClassId) (pa : Nat) (g0 : Nat → Nat) (v k : Nat) (h0 : mo g0 v) (hk0 : 0 < k) (hk : k ≤ 1000) : Cv l D vwCl (tyT cI cJ) yX11_over wsX11_over rmX11_over [.ref pa, .int (iZ ((k : Nat) : Int))] [(pa, .inl (cI, 32, .inl (LI g0)))] (Nat → Nat) (fun r => mo r (v / k)) (fun r => [(pa, .inl (cI, 32, .inl (LI r)))]) := by
  refine en_v (cc := cX11_over) (maxL := 5) (by decide) rfl [(0, .ref pa), (1, .int (iZ ((k : Nat) : Int)))] (Nat.le_of_ble_eq_true rfl) rfl ?_
  intro p e s m args below meth c Q A hx hb hml hown hts hnm hK hP hD hA hS hret ls hl
  refine zc_lconst (z := ((0 : Nat) : Int)) hx hb dX11_over_0 (by decide) ?_
  refine lv_lstore_n (lv' := [(2, .long (lZ ((0 : Nat) : Int))), (0, .ref pa), (1, .int (iZ ((k : Nat) : Int)))]) hx hb dX11_over_1 rfl hl (by decide) rfl (fun ls hl => ?_)
  refine zc_bipush (z := ((31 : Nat) : Int)) hx hb dX11_over_2 (by decide) ?_
  refine tp_i (y := (iZ (((32 : Nat) : Int) - 1))) (by decide) ?_
  refine lv_istore (lv' := [(4, .int (iZ (((32 : Nat) : Int) - 1))), (2, .long (lZ ((0 : Nat) : Int))), (0, .ref pa), (1, .int (iZ ((k : Nat) : Int)))]) hx hb dX11_over_4 hl (by decide) rfl (fun ls hl => ?_)
  have pt_6 : ∀ n : Nat, ∀ (j r : Nat) (g : Nat → Nat), (hj : j ≤ 32) → (hI : moI g0 g k j r) → (hn : j < n) → (H : Heap) → (locs : List Loc) → va_P D vwCl [(pa, .inl (cI, 32, .inl (LI g)))] H → va_D A [(pa, .inl (cI, 32, .inl (LI g)))] → va_S A s.heap H locs → (ls : Array Slot) → lv_has ls 5 [(4, .int (iZ (((j : Nat) : Int) - 1))), (2, .long (lZ ((r : Nat) : Int))), (0, .ref pa), (1, .int (iZ ((k : Nat) : Int)))] → W p l e rmX11_over s m args below meth c H locs 0 0 Q (F0 m 6 ls []) := by
    intro n
    induction n with
    | zero =>
      intro j r g hj hI hn H locs hP hD hS ls hl
      exfalso; omega
    | succ n ih_6 =>
      intro j r g hj hI hn H locs hP hD hS ls hl
      refine lv_iload hx hb dX11_over_6 (lv_at hl 0 rfl) ?_
      refine zb_if_lt (x := (((j : Nat) : Int) - 1)) (tgt := 42) hx hb dX11_over_8 (by decide) ⟨by omega, by omega⟩ (fun c_8 => ?_) (fun c_8 => ?_)
      · exact hret (g) _ _ _ _ _ _ (Nat.le_of_ble_eq_true rfl) (Nat.le_of_ble_eq_true rfl) dX11_over_42 (by have e9 : j = 0 := (by omega); rw [e9] at hI; exact moI_e h0 hI) hP hD hS
      · have hrk := hI.2.2.1
        have hb8 := hI.1 (j - 1) (by omega)
        have hqd : (r * 65536 + g (j - 1)) / k < 65536 := by have h7 := (moI_s hI (by omega) hj h0.1).1 (j - 1) (by omega); rw [nup_s] at h7; exact h7
        refine lv_lload_n hx hb dX11_over_11 rfl (lv_at hl 1 rfl) ?_
        refine zc_bipush (z := ((16 : Nat) : Int)) hx hb dX11_over_12 (by decide) ?_
        refine lv_lshl (v := (lZ ((r * 65536 : Nat) : Int))) hx hb dX11_over_14 (z_lshl r (by decide)) ?_
        refine lv_aload_n hx hb dX11_over_15 rfl (lv_at hl 2 rfl) ?_
        refine lv_iload hx hb dX11_over_16 (lv_at hl 0 rfl) ?_
        refine za_iald hx hb hK hP 0 0 rfl rfl (j - 1) (v := ((g (j - 1) : Nat) : Int)) (by decide) (by omega) (by omega) (rfl) dX11_over_18 ?_
        refine z_i2l (z := ((g (j - 1) : Nat) : Int)) hx hb dX11_over_19 ⟨by omega, by omega⟩ rfl ?_
        refine lv_lor hx hb dX11_over_20 (tp_l (y := (lZ ((r * 65536 + g (j - 1) : Nat) : Int))) (l_or16 (by omega) hb8) ?_)
        refine lv_lstore_n (lv' := [(2, .long (lZ ((r * 65536 + g (j - 1) : Nat) : Int))), (4, .int (iZ (((j : Nat) : Int) - 1))), (0, .ref pa), (1, .int (iZ ((k : Nat) : Int)))]) hx hb dX11_over_21 rfl hl (by decide) rfl (fun ls hl => ?_)
        refine lv_aload_n hx hb dX11_over_22 rfl (lv_at hl 2 rfl) ?_
        refine lv_iload hx hb dX11_over_23 (lv_at hl 1 rfl) ?_
        refine lv_lload_n hx hb dX11_over_25 rfl (lv_at hl 0 rfl) ?_
        refine lv_iload_n hx hb dX11_over_26 rfl (lv_at hl 3 rfl) ?_
        refine z_i2l (z := ((k : Nat) : Int)) hx hb dX11_over_27 ⟨by omega, by omega⟩ rfl ?_
        refine zl_div (z := (((r * 65536 + g (j - 1)) / k : Nat) : Int)) hx hb dX11_over_28 (by omega) (by omega) (by omega) (by omega) (Int.natCast_ediv _ _).symm ?_
        refine z_l2i (z := (((r * 65536 + g (j - 1)) / k : Nat) : Int)) hx hb dX11_over_29 rfl ?_
        refine za_iast hx hb hK hP hD hS 0 0 rfl rfl (j - 1) (by decide) (by omega) (by omega) dX11_over_30 (fun H locs hP hD hS => ?_)
        have hP : va_P D vwCl [(pa, .inl (cI, 32, .inl (upd (LI g) (j - 1) ((iZ (((r * 65536 + g (j - 1)) / k : Nat) : Int))))))] H := hP
        have hD : va_D A [(pa, .inl (cI, 32, .inl (upd (LI g) (j - 1) ((iZ (((r * 65536 + g (j - 1)) / k : Nat) : Int))))))] := hD
        rw [LI_up] at hP hD
        obtain ⟨g1, eg1⟩ : ∃ g9, g9 = nup g (j - 1) ((r * 65536 + g (j - 1)) / k) := ⟨_, rfl⟩
        rw [← eg1] at hP hD
        have hP : va_P D vwCl [(pa, .inl (cI, 32, .inl (LI g1)))] H := hP
        have hD : va_D A [(pa, .inl (cI, 32, .inl (LI g1)))] := hD
        refine lv_lload_n hx hb dX11_over_31 rfl (lv_at hl 0 rfl) ?_
        refine lv_iload_n hx hb dX11_over_32 rfl (lv_at hl 3 rfl) ?_
        refine z_i2l (z := ((k : Nat) : Int)) hx hb dX11_over_33 ⟨by omega, by omega⟩ rfl ?_
        refine zl_rem (z := (((r * 65536 + g (j - 1)) % k : Nat) : Int)) hx hb dX11_over_34 (by omega) (by omega) (by omega) (by omega) (Int.natCast_emod _ _).symm ?_
        refine lv_lstore_n (lv' := [(2, .long (lZ (((r * 65536 + g (j - 1)) % k : Nat) : Int))), (4, .int (iZ (((j : Nat) : Int) - 1))), (0, .ref pa), (1, .int (iZ ((k : Nat) : Int)))]) hx hb dX11_over_35 rfl hl (by decide) rfl (fun ls hl => ?_)
        refine lv_iinc (v := iZ (((j - 1 : Nat) : Int) - 1)) (lv' := [(4, .int (iZ (((j - 1 : Nat) : Int) - 1))), (2, .long (lZ (((r * 65536 + g (j - 1)) % k : Nat) : Int))), (0, .ref pa), (1, .int (iZ ((k : Nat) : Int)))]) hx hb dX11_over_36 hl (k := 1) rfl (zi_inc (by omega)) (by decide) rfl (fun ls hl => ?_)
        refine lv_goto (tgt := 6) hx hb dX11_over_39 (by decide) ?_
        exact ih_6 (j - 1) ((r * 65536 + g (j - 1)) % k) g1 (by omega) (by rw [eg1]; exact moI_s hI (by omega) hj h0.1) (by omega) _ _ hP hD hS ls (lv_sub hl [0, 1, 2, 3] rfl)
  exact pt_6 33 32 0 g0 (by omega) (moI_0 h0 hk0) (by omega) _ _ hP hD hS ls (lv_sub hl [0, 1, 2, 3] rfl)
def rmX11_plus : Room := { frames := 0, cells := 0, slots := 0, locals := 0 }
set_option maxHeartbeats 4000000 in
set_option maxRecDepth 100000 in
theorem c_X11_plus (l : Launch) (D : va_G) (cI cJ : ClassId) (pa pb : Nat) (g0 h : Nat → Nat) (v w : Nat) (h0 : mo g0 v) (h1 : mo h w) (hv : v + w < B16 ^ 32) : Cv l D vwCl (tyT cI cJ) yX11_plus wsX11_plus rmX11_plus [.ref pa, .ref pb] [(pa, .inl (cI, 32, .inl (LI g0))), (pb, .inl (cI, 32, .inl (LI h)))] (Nat → Nat) (fun r => mo r (v + w)) (fun r => [(pa, .inl (cI, 32, .inl (LI r))), (pb, .inl (cI, 32, .inl (LI h)))]) := by
  refine en_v (cc := cX11_plus) (maxL := 4) (by decide) rfl [(0, .ref pa), (1, .ref pb)] (Nat.le_of_ble_eq_true rfl) rfl ?_
  intro p e s m args below meth c Q A hx hb hml hown hts hnm hK hP hD hA hS hret ls hl
  have hh_0 := hts (.constant RX11 54 (65535)) (by decide +kernel)
  refine zc_iconst (z := ((0 : Nat) : Int)) hx hb dX11_plus_0 (by decide) ?_
  refine lv_istore_n (lv' := [(2, .int (iZ ((0 : Nat) : Int))), (0, .ref pa), (1, .ref pb)]) hx hb dX11_plus_1 rfl hl (by decide) rfl (fun ls hl => ?_)
  refine zc_iconst (z := ((0 : Nat) : Int)) hx hb dX11_plus_2 (by decide) ?_
  refine lv_istore_n (lv' := [(3, .int (iZ ((0 : Nat) : Int))), (2, .int (iZ ((0 : Nat) : Int))), (0, .ref pa), (1, .ref pb)]) hx hb dX11_plus_3 rfl hl (by decide) rfl (fun ls hl => ?_)
  have pt_4 : ∀ n : Nat, ∀ (i c9 : Nat) (g : Nat → Nat), (hi : i ≤ 32) → (hI : mpI g0 h g i c9) → (hn : 32 < i + n) → (H : Heap) → (locs : List Loc) → va_P D vwCl [(pa, .inl (cI, 32, .inl (LI g))), (pb, .inl (cI, 32, .inl (LI h)))] H → va_D A [(pa, .inl (cI, 32, .inl (LI g))), (pb, .inl (cI, 32, .inl (LI h)))] → va_S A s.heap H locs → (ls : Array Slot) → lv_has ls 4 [(3, .int (iZ ((i : Nat) : Int))), (2, .int (iZ ((c9 : Nat) : Int))), (0, .ref pa), (1, .ref pb)] → W p l e rmX11_plus s m args below meth c H locs 0 0 Q (F0 m 4 ls []) := by
    intro n
    induction n with
    | zero =>
      intro i c9 g hi hI hn H locs hP hD hS ls hl
      exfalso; omega
    | succ n ih_4 =>
      intro i c9 g hi hI hn H locs hP hD hS ls hl
      refine lv_iload_n hx hb dX11_plus_4 rfl (lv_at hl 0 rfl) ?_
      refine zc_bipush (z := ((32 : Nat) : Int)) hx hb dX11_plus_5 (by decide) ?_
      refine zb_icmp_ge (x := ((i : Nat) : Int)) (y := ((32 : Nat) : Int)) (tgt := 38) hx hb dX11_plus_7 (by decide) ⟨by omega, by omega⟩ ⟨by decide, by decide⟩ (fun c_7 => ?_) (fun c_7 => ?_)
      · exact hret (g) _ _ _ _ _ _ (Nat.le_of_ble_eq_true rfl) (Nat.le_of_ble_eq_true rfl) dX11_plus_38 (by have e9 : i = 32 := (by omega); rw [e9] at hI; exact mpI_e h0 h1 hI hv) hP hD hS
      · have hb7 := hI.2.2.1
        have hb8 := hI.1 i (by omega)
        have hb9 := h1.1 i (by omega)
        refine lv_iload_n hx hb dX11_plus_10 rfl (lv_at hl 1 rfl) ?_
        refine lv_aload_n hx hb dX11_plus_11 rfl (lv_at hl 2 rfl) ?_
        refine lv_iload_n hx hb dX11_plus_12 rfl (lv_at hl 0 rfl) ?_
        refine za_iald hx hb hK hP 0 0 rfl rfl (i) (v := ((g i : Nat) : Int)) (by decide) rfl (by omega) (rfl) dX11_plus_13 ?_
        refine lv_aload_n hx hb dX11_plus_14 rfl (lv_at hl 3 rfl) ?_
        refine lv_iload_n hx hb dX11_plus_15 rfl (lv_at hl 0 rfl) ?_
        refine za_iald hx hb hK hP 1 0 rfl rfl (i) (v := ((h i : Nat) : Int)) (by decide) rfl (by omega) (rfl) dX11_plus_16 ?_
        refine zi_add (z := ((g i + h i : Nat) : Int)) hx hb dX11_plus_17 (by omega) ?_
        refine zi_add (z := ((c9 + (g i + h i) : Nat) : Int)) hx hb dX11_plus_18 (by omega) ?_
        refine lv_istore_n (lv' := [(2, .int (iZ ((c9 + (g i + h i) : Nat) : Int))), (3, .int (iZ ((i : Nat) : Int))), (0, .ref pa), (1, .ref pb)]) hx hb dX11_plus_19 rfl hl (by decide) rfl (fun ls hl => ?_)
        refine lv_aload_n hx hb dX11_plus_20 rfl (lv_at hl 2 rfl) ?_
        refine lv_iload_n hx hb dX11_plus_21 rfl (lv_at hl 1 rfl) ?_
        refine lv_iload_n hx hb dX11_plus_22 rfl (lv_at hl 0 rfl) ?_
        refine lv_ldc hx hb hown hh_0 dX11_plus_23 (tp_i (y := iZ ((65535 : Nat) : Int)) (by decide) ?_)
        refine lv_iand hx hb dX11_plus_25 (tp_i (y := (iZ (((c9 + (g i + h i)) % 65536 : Nat) : Int))) (i_and16 (by omega)) ?_)
        refine za_iast hx hb hK hP hD hS 0 0 rfl rfl (i) (by decide) rfl (by omega) dX11_plus_26 (fun H locs hP hD hS => ?_)
        have hP : va_P D vwCl [(pa, .inl (cI, 32, .inl (upd (LI g) (i) ((iZ (((c9 + (g i + h i)) % 65536 : Nat) : Int)))))), (pb, .inl (cI, 32, .inl (LI h)))] H := hP
        have hD : va_D A [(pa, .inl (cI, 32, .inl (upd (LI g) (i) ((iZ (((c9 + (g i + h i)) % 65536 : Nat) : Int)))))), (pb, .inl (cI, 32, .inl (LI h)))] := hD
        rw [LI_up] at hP hD
        obtain ⟨g1, eg1⟩ : ∃ g9, g9 = nup g (i) ((c9 + (g i + h i)) % 65536) := ⟨_, rfl⟩
        rw [← eg1] at hP hD
        have hP : va_P D vwCl [(pa, .inl (cI, 32, .inl (LI g1))), (pb, .inl (cI, 32, .inl (LI h)))] H := hP
        have hD : va_D A [(pa, .inl (cI, 32, .inl (LI g1))), (pb, .inl (cI, 32, .inl (LI h)))] := hD
        refine lv_iload_n hx hb dX11_plus_27 rfl (lv_at hl 0 rfl) ?_
        refine zc_bipush (z := ((16 : Nat) : Int)) hx hb dX11_plus_28 (by decide) ?_
        refine lv_ishr hx hb dX11_plus_30 (tp_i (y := (iZ (((c9 + (g i + h i)) / 65536 : Nat) : Int))) (i_shr16 (by omega)) ?_)
        refine lv_istore_n (lv' := [(2, .int (iZ (((c9 + (g i + h i)) / 65536 : Nat) : Int))), (3, .int (iZ ((i : Nat) : Int))), (0, .ref pa), (1, .ref pb)]) hx hb dX11_plus_31 rfl hl (by decide) rfl (fun ls hl => ?_)
        refine lv_iinc (v := iZ ((i + 1 : Nat) : Int)) (lv' := [(3, .int (iZ ((i + 1 : Nat) : Int))), (2, .int (iZ (((c9 + (g i + h i)) / 65536 : Nat) : Int))), (0, .ref pa), (1, .ref pb)]) hx hb dX11_plus_32 hl (k := 1) rfl (zi_inc (by omega)) (by decide) rfl (fun ls hl => ?_)
        refine lv_goto (tgt := 4) hx hb dX11_plus_35 (by decide) ?_
        exact ih_4 (i + 1) ((c9 + (g i + h i)) / 65536) g1 (by omega) (by rw [eg1]; exact mpI_s hI h1 (by omega)) (by omega) _ _ hP hD hS ls (lv_sub hl [0, 1, 2, 3] rfl)
  exact pt_4 33 0 0 g0 (by omega) (mpI_0 h0) (by omega) _ _ hP hD hS ls (lv_sub hl [0, 1, 2, 3] rfl)
def rmX11_compared : Room := { frames := 0, cells := 0, slots := 0, locals := 0 }
set_option maxHeartbeats 4000000 in
set_option maxRecDepth 100000 in
theorem c_X11_compared (l : Launch) (D : va_G) (cI cJ : ClassId) (pa pb : Nat) (g h : Nat → Nat) (v w : Nat) (h0 : mo g v) (h1 : mo h w) : Ci l D vwCl (tyT cI cJ) yX11_compared wsX11_compared rmX11_compared [.ref pa, .ref pb] [(pa, .inl (cI, 32, .inl (LI g))), (pb, .inl (cI, 32, .inl (LI h)))] (Unit) (fun r _ => r = iZ (cmpZ v w)) (fun _ => [(pa, .inl (cI, 32, .inl (LI g))), (pb, .inl (cI, 32, .inl (LI h)))]) := by
  refine en_i (cc := cX11_compared) (maxL := 3) (by decide) rfl [(0, .ref pa), (1, .ref pb)] (Nat.le_of_ble_eq_true rfl) rfl ?_
  intro p e s m args below meth c Q A hx hb hml hown hts hnm hK hP hD hA hS hret ls hl
  refine zc_bipush (z := ((31 : Nat) : Int)) hx hb dX11_compared_0 (by decide) ?_
  refine tp_i (y := (iZ (((32 : Nat) : Int) - 1))) (by decide) ?_
  refine lv_istore_n (lv' := [(2, .int (iZ (((32 : Nat) : Int) - 1))), (0, .ref pa), (1, .ref pb)]) hx hb dX11_compared_2 rfl hl (by decide) rfl (fun ls hl => ?_)
  have pt_3 : ∀ n : Nat, ∀ (j : Nat), (hj : j ≤ 32) → (hE : ∀ x, j ≤ x → x < 32 → g x = h x) → (hn : j < n) → (H : Heap) → (locs : List Loc) → va_P D vwCl [(pa, .inl (cI, 32, .inl (LI g))), (pb, .inl (cI, 32, .inl (LI h)))] H → va_D A [(pa, .inl (cI, 32, .inl (LI g))), (pb, .inl (cI, 32, .inl (LI h)))] → va_S A s.heap H locs → (ls : Array Slot) → lv_has ls 3 [(2, .int (iZ (((j : Nat) : Int) - 1))), (0, .ref pa), (1, .ref pb)] → W p l e rmX11_compared s m args below meth c H locs 0 0 Q (F0 m 3 ls []) := by
    intro n
    induction n with
    | zero =>
      intro j hj hE hn H locs hP hD hS ls hl
      exfalso; omega
    | succ n ih_3 =>
      intro j hj hE hn H locs hP hD hS ls hl
      refine lv_iload_n hx hb dX11_compared_3 rfl (lv_at hl 0 rfl) ?_
      refine zb_if_lt (x := (((j : Nat) : Int) - 1)) (tgt := 37) hx hb dX11_compared_4 (by decide) ⟨by omega, by omega⟩ (fun c_4 => ?_) (fun c_4 => ?_)
      · refine zc_iconst (z := ((0 : Nat) : Int)) hx hb dX11_compared_37 (by decide) ?_
        exact hret _ (()) _ _ _ _ _ _ (Nat.le_of_ble_eq_true rfl) (Nat.le_of_ble_eq_true rfl) rfl dX11_compared_38 (by have h9 := mo_eq h0 h1 (fun x h1 h2 => hE x (by omega) h2); simp only [cmpZ, if_neg (show ¬ v < w by omega), if_pos h9]; rfl) hP hD hS
      · have hb1 := h0.1 (j - 1) (by omega)
        have hb2 := h1.1 (j - 1) (by omega)
        refine lv_aload_n hx hb dX11_compared_7 rfl (lv_at hl 1 rfl) ?_
        refine lv_iload_n hx hb dX11_compared_8 rfl (lv_at hl 0 rfl) ?_
        refine za_iald hx hb hK hP 0 0 rfl rfl (j - 1) (v := ((g (j - 1) : Nat) : Int)) (by decide) (by omega) (by omega) (rfl) dX11_compared_9 ?_
        refine lv_aload_n hx hb dX11_compared_10 rfl (lv_at hl 2 rfl) ?_
        refine lv_iload_n hx hb dX11_compared_11 rfl (lv_at hl 0 rfl) ?_
        refine za_iald hx hb hK hP 1 0 rfl rfl (j - 1) (v := ((h (j - 1) : Nat) : Int)) (by decide) (by omega) (by omega) (rfl) dX11_compared_12 ?_
        refine zb_icmp_eq (x := ((g (j - 1) : Nat) : Int)) (y := ((h (j - 1) : Nat) : Int)) (tgt := 31) hx hb dX11_compared_13 (by decide) ⟨by omega, by omega⟩ ⟨by omega, by omega⟩ (fun c_13 => ?_) (fun c_13 => ?_)
        · refine lv_iinc (v := iZ (((j - 1 : Nat) : Int) - 1)) (lv' := [(2, .int (iZ (((j - 1 : Nat) : Int) - 1))), (0, .ref pa), (1, .ref pb)]) hx hb dX11_compared_31 hl (k := 0) rfl (zi_inc (by omega)) (by decide) rfl (fun ls hl => ?_)
          refine lv_goto (tgt := 3) hx hb dX11_compared_34 (by decide) ?_
          exact ih_3 (j - 1) (by omega) (fun x h1 h2 => by rcases (show x = j - 1 ∨ j ≤ x by omega) with e | e; (· rw [e]; omega); (· exact hE x e h2)) (by omega) _ _ hP hD hS ls (lv_sub hl [0, 1, 2] rfl)
        · refine lv_aload_n hx hb dX11_compared_16 rfl (lv_at hl 1 rfl) ?_
          refine lv_iload_n hx hb dX11_compared_17 rfl (lv_at hl 0 rfl) ?_
          refine za_iald hx hb hK hP 0 0 rfl rfl (j - 1) (v := ((g (j - 1) : Nat) : Int)) (by decide) (by omega) (by omega) (rfl) dX11_compared_18 ?_
          refine lv_aload_n hx hb dX11_compared_19 rfl (lv_at hl 2 rfl) ?_
          refine lv_iload_n hx hb dX11_compared_20 rfl (lv_at hl 0 rfl) ?_
          refine za_iald hx hb hK hP 1 0 rfl rfl (j - 1) (v := ((h (j - 1) : Nat) : Int)) (by decide) (by omega) (by omega) (rfl) dX11_compared_21 ?_
          refine zb_icmp_ge (x := ((g (j - 1) : Nat) : Int)) (y := ((h (j - 1) : Nat) : Int)) (tgt := 29) hx hb dX11_compared_22 (by decide) ⟨by omega, by omega⟩ ⟨by omega, by omega⟩ (fun c_22 => ?_) (fun c_22 => ?_)
          · refine zc_iconst (z := ((1 : Nat) : Int)) hx hb dX11_compared_29 (by decide) ?_
            exact hret _ (()) _ _ _ _ _ _ (Nat.le_of_ble_eq_true rfl) (Nat.le_of_ble_eq_true rfl) rfl dX11_compared_30 (by have h9 := mo_less h1 h0 (i := j - 1) (by omega) (fun x h1 h2 => (hE x (by omega) h2).symm) (by omega); simp only [cmpZ, if_neg (show ¬ v < w by omega), if_neg (show ¬ v = w by omega)]; rfl) hP hD hS
          · refine zc_iconst (z := (-1 : Int)) hx hb dX11_compared_25 (by decide) ?_
            refine lv_goto (tgt := 30) hx hb dX11_compared_26 (by decide) ?_
            exact hret _ (()) _ _ _ _ _ _ (Nat.le_of_ble_eq_true rfl) (Nat.le_of_ble_eq_true rfl) rfl dX11_compared_30 (by have h9 := mo_less h0 h1 (i := j - 1) (by omega) (fun x h1 h2 => hE x (by omega) h2) (by omega); simp only [cmpZ, if_pos h9]) hP hD hS
  exact pt_3 33 32 (by omega) (fun x h1 h2 => by omega) (by omega) _ _ hP hD hS ls (lv_sub hl [0, 1, 2] rfl)
/-- bounds: M to the n is below 2 ^ 400 -/
theorem pw2 {M n x y i j : Nat} (hM : M ^ n ≤ 2 ^ 400) (h1 : 1 ≤ M) (hx : x ≤ M) (hy : y ≤ M) (hij : i + j ≤ n) : x ^ i * y ^ j ≤ 2 ^ 400 := by
  have a : x ^ i * y ^ j ≤ M ^ i * M ^ j := Nat.mul_le_mul (Nat.pow_le_pow_left hx i) (Nat.pow_le_pow_left hy j)
  rw [← Nat.pow_add] at a
  exact Nat.le_trans a (Nat.le_trans (Nat.pow_le_pow_right h1 hij) hM)
theorem ch_pw {M n k x y i j z : Nat} (hn : n ≤ 60) (hM : M ^ n ≤ 2 ^ 400) (h1 : 1 ≤ M) (hx : x ≤ M) (hy : y ≤ M) (hij : i + j ≤ n) (hz : z ≤ 1000000) : ch n k * x ^ i * y ^ j * z < B16 ^ 32 := by
  have a := pw2 hM h1 hx hy hij
  have b := ch_b2 (n := n) (k := k) hn
  have c : ch n k * (x ^ i * y ^ j) ≤ 2 ^ 60 * 2 ^ 400 := Nat.mul_le_mul (by omega) a
  have d : ch n k * (x ^ i * y ^ j) * z ≤ 2 ^ 60 * 2 ^ 400 * 2 ^ 20 := Nat.mul_le_mul c (by omega)
  rw [← Nat.mul_assoc] at d
  rw [B16_32]
  exact Nat.lt_of_le_of_lt d (by decide +kernel)
theorem ch_sml {n k z : Nat} (hn : n ≤ 60) (hz : z ≤ 1000000) : ch n k * z < B16 ^ 32 := by
  have b := ch_b2 (n := n) (k := k) hn
  have d : ch n k * z ≤ 2 ^ 60 * 2 ^ 20 := Nat.mul_le_mul (by omega) (by omega)
  rw [B16_32]
  exact Nat.lt_of_le_of_lt d (by decide +kernel)
def rmX11_term : Room := { frames := 1, cells := 0, slots := 0, locals := 25 }
set_option maxHeartbeats 4000000 in
set_option maxRecDepth 100000 in
theorem c_X11_term (l : Launch) (D : va_G) (cI cJ : ClassId) (pa : Nat) (g0 : Nat → Nat) (n k x y M9 : Nat) (hn : n ≤ 60) (hk : k ≤ n) (hM : M9 ^ n ≤ 2 ^ 400) (h1 : 1 ≤ M9) (hM2 : M9 ≤ 1000) (hx0 : x ≤ M9) (hy0 : y ≤ M9) : Cv l D vwCl (tyT cI cJ) yX11_term wsX11_term rmX11_term [.ref pa, .int (iZ ((n : Nat) : Int)), .int (iZ ((k : Nat) : Int)), .int (iZ ((x : Nat) : Int)), .int (iZ ((y : Nat) : Int))] [(pa, .inl (cI, 32, .inl (LI g0)))] (Nat → Nat) (fun r => mo r (ch n k * x ^ k * y ^ (n - k))) (fun r => [(pa, .inl (cI, 32, .inl (LI r)))]) := by
  refine en_v (cc := cX11_term) (maxL := 6) (by decide) rfl [(0, .ref pa), (1, .int (iZ ((n : Nat) : Int))), (2, .int (iZ ((k : Nat) : Int))), (3, .int (iZ ((x : Nat) : Int))), (4, .int (iZ ((y : Nat) : Int)))] (Nat.le_of_ble_eq_true rfl) rfl ?_
  intro p e s m args below meth c Q A hx hb hml hown hts hnm hK hP hD hA hS hret ls hl
  refine lv_aload_n hx hb dX11_term_0 rfl (lv_at hl 0 rfl) ?_
  refine zc_iconst (z := ((1 : Nat) : Int)) hx hb dX11_term_1 (by decide) ?_
  refine ca_vS [.ref pa, .int (iZ ((1 : Nat) : Int))] [] [] 0 0 ⟨hx, hb, hml, hown, hts⟩ (c_X11_small l D cI cJ pa g0 1 (by decide)) (va_cwS 2 hts gX11_term_X11_small rfl rfl rfl (by decide +kernel) ⟨(Nat.le_of_ble_eq_true rfl), (Nat.le_of_ble_eq_true rfl)⟩) hK hP hD hS hA [0] [] rfl rfl rfl rfl (by decide) rfl hl.1 rfl (Nat.le_of_ble_eq_true rfl) dX11_term_2 ⟨(Nat.le_of_ble_eq_true rfl), (Nat.le_of_ble_eq_true rfl)⟩ (Nat.le_of_ble_eq_true rfl) (Nat.le_of_ble_eq_true rfl) (fun gA H locs hw hP hD hS => ?_)
  try dsimp only at hw
  have hw1 := hw
  have hP : va_P D vwCl [(pa, .inl (cI, 32, .inl (LI gA)))] H := hP
  have hD : va_D A [(pa, .inl (cI, 32, .inl (LI gA)))] := hD
  refine zc_iconst (z := ((0 : Nat) : Int)) hx hb dX11_term_5 (by decide) ?_
  refine lv_istore (lv' := [(5, .int (iZ ((0 : Nat) : Int))), (0, .ref pa), (1, .int (iZ ((n : Nat) : Int))), (2, .int (iZ ((k : Nat) : Int))), (3, .int (iZ ((x : Nat) : Int))), (4, .int (iZ ((y : Nat) : Int)))]) hx hb dX11_term_6 hl (by decide) rfl (fun ls hl => ?_)
  have pt_8 : ∀ f : Nat, ∀ (i : Nat) (g : Nat → Nat), (hi : i ≤ k) → (hI : mo g (ch n i)) → (hf : k < i + f) → (H : Heap) → (locs : List Loc) → va_P D vwCl [(pa, .inl (cI, 32, .inl (LI g)))] H → va_D A [(pa, .inl (cI, 32, .inl (LI g)))] → va_S A s.heap H locs → (ls : Array Slot) → lv_has ls 6 [(5, .int (iZ ((i : Nat) : Int))), (0, .ref pa), (1, .int (iZ ((n : Nat) : Int))), (2, .int (iZ ((k : Nat) : Int))), (3, .int (iZ ((x : Nat) : Int))), (4, .int (iZ ((y : Nat) : Int)))] → W p l e rmX11_term s m args below meth c H locs 0 0 Q (F0 m 8 ls []) := by
    intro f
    induction f with
    | zero =>
      intro i g hi hI hf H locs hP hD hS ls hl
      exfalso; omega
    | succ f ih_8 =>
      intro i g hi hI hf H locs hP hD hS ls hl
      refine lv_iload hx hb dX11_term_8 (lv_at hl 0 rfl) ?_
      refine lv_iload_n hx hb dX11_term_10 rfl (lv_at hl 3 rfl) ?_
      refine zb_icmp_ge (x := ((i : Nat) : Int)) (y := ((k : Nat) : Int)) (tgt := 37) hx hb dX11_term_11 (by decide) ⟨by omega, by omega⟩ ⟨by omega, by omega⟩ (fun c_11 => ?_) (fun c_11 => ?_)
      · refine zc_iconst (z := ((0 : Nat) : Int)) hx hb dX11_term_37 (by decide) ?_
        refine lv_istore (lv' := [(5, .int (iZ ((0 : Nat) : Int))), (0, .ref pa), (1, .int (iZ ((n : Nat) : Int))), (2, .int (iZ ((k : Nat) : Int))), (3, .int (iZ ((x : Nat) : Int))), (4, .int (iZ ((y : Nat) : Int)))]) hx hb dX11_term_38 hl (by decide) rfl (fun ls hl => ?_)
        have pt_40 : ∀ f : Nat, ∀ (i : Nat) (g : Nat → Nat), (hi : i ≤ n) → (hI : mo g (ch n k * x ^ (min i k) * y ^ (i - k))) → (hf : n < i + f) → (H : Heap) → (locs : List Loc) → va_P D vwCl [(pa, .inl (cI, 32, .inl (LI g)))] H → va_D A [(pa, .inl (cI, 32, .inl (LI g)))] → va_S A s.heap H locs → (ls : Array Slot) → lv_has ls 6 [(5, .int (iZ ((i : Nat) : Int))), (0, .ref pa), (1, .int (iZ ((n : Nat) : Int))), (2, .int (iZ ((k : Nat) : Int))), (3, .int (iZ ((x : Nat) : Int))), (4, .int (iZ ((y : Nat) : Int)))] → W p l e rmX11_term s m args below meth c H locs 0 0 Q (F0 m 40 ls []) := by
          intro f
          induction f with
          | zero =>
            intro i g hi hI hf H locs hP hD hS ls hl
            exfalso; omega
          | succ f ih_40 =>
            intro i g hi hI hf H locs hP hD hS ls hl
            refine lv_iload hx hb dX11_term_40 (lv_at hl 0 rfl) ?_
            refine lv_iload_n hx hb dX11_term_42 rfl (lv_at hl 2 rfl) ?_
            refine zb_icmp_ge (x := ((i : Nat) : Int)) (y := ((n : Nat) : Int)) (tgt := 70) hx hb dX11_term_43 (by decide) ⟨by omega, by omega⟩ ⟨by omega, by omega⟩ (fun c_43 => ?_) (fun c_43 => ?_)
            · exact hret (g) _ _ _ _ _ _ (Nat.le_of_ble_eq_true rfl) (Nat.le_of_ble_eq_true rfl) dX11_term_70 (by have e9 : i = n := (by omega); rw [e9, show min n k = k by omega] at hI; exact hI) hP hD hS
            · have pt_61 : ∀ (z : Nat), (hz1 : z ≤ 1000) → (hz2 : ch n k * x ^ (min i k) * y ^ (i - k) * z = ch n k * x ^ (min (i + 1) k) * y ^ (i + 1 - k)) → (H : Heap) → (locs : List Loc) → va_P D vwCl [(pa, .inl (cI, 32, .inl (LI g)))] H → va_D A [(pa, .inl (cI, 32, .inl (LI g)))] → va_S A s.heap H locs → (ls : Array Slot) → lv_has ls 6 [(5, .int (iZ ((i : Nat) : Int))), (0, .ref pa), (1, .int (iZ ((n : Nat) : Int))), (2, .int (iZ ((k : Nat) : Int))), (3, .int (iZ ((x : Nat) : Int))), (4, .int (iZ ((y : Nat) : Int)))] → W p l e rmX11_term s m args below meth c H locs 0 0 Q (F0 m 61 ls [.long (lZ ((z : Nat) : Int)), .ref pa]) := by
                intro z hz1 hz2 H locs hP hD hS ls hl
                refine ca_vS [.ref pa, .long (lZ ((z : Nat) : Int))] [] [] 0 0 ⟨hx, hb, hml, hown, hts⟩ (c_X11_times l D cI cJ pa g (ch n k * x ^ (min i k) * y ^ (i - k)) z hI (by omega) (ch_pw hn hM h1 hx0 hy0 (by omega) (by omega))) (va_cwS 2 hts gX11_term_X11_times rfl rfl rfl (by decide +kernel) ⟨(Nat.le_of_ble_eq_true rfl), (Nat.le_of_ble_eq_true rfl)⟩) hK hP hD hS hA [0] [] rfl rfl rfl rfl (by decide) rfl hl.1 rfl (Nat.le_of_ble_eq_true rfl) dX11_term_61 ⟨(Nat.le_of_ble_eq_true rfl), (Nat.le_of_ble_eq_true rfl)⟩ (Nat.le_of_ble_eq_true rfl) (Nat.le_of_ble_eq_true rfl) (fun gB H locs hw hP hD hS => ?_)
                try dsimp only at hw
                have hw2 := hw
                have hP : va_P D vwCl [(pa, .inl (cI, 32, .inl (LI gB)))] H := hP
                have hD : va_D A [(pa, .inl (cI, 32, .inl (LI gB)))] := hD
                refine lv_iinc (v := iZ ((i + 1 : Nat) : Int)) (lv' := [(5, .int (iZ ((i + 1 : Nat) : Int))), (0, .ref pa), (1, .int (iZ ((n : Nat) : Int))), (2, .int (iZ ((k : Nat) : Int))), (3, .int (iZ ((x : Nat) : Int))), (4, .int (iZ ((y : Nat) : Int)))]) hx hb dX11_term_64 hl (k := 0) rfl (zi_inc (by omega)) (by decide) rfl (fun ls hl => ?_)
                refine lv_goto (tgt := 40) hx hb dX11_term_67 (by decide) ?_
                exact ih_40 (i + 1) _ (by omega) (by rw [← hz2]; exact hw2) (by omega) _ _ hP hD hS ls (lv_sub hl [0, 1, 2, 3, 4, 5] rfl)
              refine lv_aload_n hx hb dX11_term_46 rfl (lv_at hl 1 rfl) ?_
              refine lv_iload hx hb dX11_term_47 (lv_at hl 0 rfl) ?_
              refine lv_iload_n hx hb dX11_term_49 rfl (lv_at hl 3 rfl) ?_
              refine zb_icmp_ge (x := ((i : Nat) : Int)) (y := ((k : Nat) : Int)) (tgt := 58) hx hb dX11_term_50 (by decide) ⟨by omega, by omega⟩ ⟨by omega, by omega⟩ (fun c_50 => ?_) (fun c_50 => ?_)
              · refine lv_iload hx hb dX11_term_58 (lv_at hl 5 rfl) ?_
                refine z_i2l (z := ((y : Nat) : Int)) hx hb dX11_term_60 ⟨by omega, by omega⟩ rfl ?_
                exact pt_61 y (by omega) (by rw [show min i k = k by omega, show min (i + 1) k = k by omega, show i + 1 - k = (i - k) + 1 by omega, Nat.pow_succ, ← Nat.mul_assoc]) _ _ hP hD hS ls (lv_sub hl [0, 1, 2, 3, 4, 5] rfl)
              · refine lv_iload_n hx hb dX11_term_53 rfl (lv_at hl 4 rfl) ?_
                refine z_i2l (z := ((x : Nat) : Int)) hx hb dX11_term_54 ⟨by omega, by omega⟩ rfl ?_
                refine lv_goto (tgt := 61) hx hb dX11_term_55 (by decide) ?_
                exact pt_61 x (by omega) (by rw [show min i k = i by omega, show min (i + 1) k = i + 1 by omega, show i - k = 0 by omega, show i + 1 - k = 0 by omega, Nat.pow_succ, ← Nat.mul_assoc, Nat.pow_zero, Nat.mul_one, Nat.mul_one]) _ _ hP hD hS ls (lv_sub hl [0, 1, 2, 3, 4, 5] rfl)
        exact pt_40 (n + 1) 0 _ (by omega) (by have e9 : i = k := (by omega); rw [e9] at hI; rw [show min 0 k = 0 by omega, show 0 - k = 0 by omega, Nat.pow_zero, Nat.pow_zero, Nat.mul_one, Nat.mul_one]; exact hI) (by omega) _ _ hP hD hS ls (lv_sub hl [0, 1, 2, 3, 4, 5] rfl)
      · refine lv_aload_n hx hb dX11_term_14 rfl (lv_at hl 1 rfl) ?_
        refine lv_iload_n hx hb dX11_term_15 rfl (lv_at hl 2 rfl) ?_
        refine lv_iload hx hb dX11_term_16 (lv_at hl 0 rfl) ?_
        refine zi_sub (z := ((n - i : Nat) : Int)) hx hb dX11_term_18 (by omega) ?_
        refine z_i2l (z := ((n - i : Nat) : Int)) hx hb dX11_term_19 ⟨by omega, by omega⟩ rfl ?_
        refine ca_vS [.ref pa, .long (lZ ((n - i : Nat) : Int))] [] [] 0 0 ⟨hx, hb, hml, hown, hts⟩ (c_X11_times l D cI cJ pa g (ch n i) (n - i) hI (by omega) (ch_sml hn (by omega))) (va_cwS 2 hts gX11_term_X11_times rfl rfl rfl (by decide +kernel) ⟨(Nat.le_of_ble_eq_true rfl), (Nat.le_of_ble_eq_true rfl)⟩) hK hP hD hS hA [0] [] rfl rfl rfl rfl (by decide) rfl hl.1 rfl (Nat.le_of_ble_eq_true rfl) dX11_term_20 ⟨(Nat.le_of_ble_eq_true rfl), (Nat.le_of_ble_eq_true rfl)⟩ (Nat.le_of_ble_eq_true rfl) (Nat.le_of_ble_eq_true rfl) (fun gB H locs hw hP hD hS => ?_)
        try dsimp only at hw
        have hw2 := hw
        have hP : va_P D vwCl [(pa, .inl (cI, 32, .inl (LI gB)))] H := hP
        have hD : va_D A [(pa, .inl (cI, 32, .inl (LI gB)))] := hD
        refine lv_aload_n hx hb dX11_term_23 rfl (lv_at hl 1 rfl) ?_
        refine lv_iload hx hb dX11_term_24 (lv_at hl 0 rfl) ?_
        refine zc_iconst (z := ((1 : Nat) : Int)) hx hb dX11_term_26 (by decide) ?_
        refine zi_add (z := ((i + 1 : Nat) : Int)) hx hb dX11_term_27 (by omega) ?_
        refine ca_vS [.ref pa, .int (iZ ((i + 1 : Nat) : Int))] [] [] 0 0 ⟨hx, hb, hml, hown, hts⟩ (c_X11_over l D cI cJ pa gB (ch n i * (n - i)) (i + 1) hw2 (by omega) (by omega)) (va_cwS 2 hts gX11_term_X11_over rfl rfl rfl (by decide +kernel) ⟨(Nat.le_of_ble_eq_true rfl), (Nat.le_of_ble_eq_true rfl)⟩) hK hP hD hS hA [0] [] rfl rfl rfl rfl (by decide) rfl hl.1 rfl (Nat.le_of_ble_eq_true rfl) dX11_term_28 ⟨(Nat.le_of_ble_eq_true rfl), (Nat.le_of_ble_eq_true rfl)⟩ (Nat.le_of_ble_eq_true rfl) (Nat.le_of_ble_eq_true rfl) (fun gC H locs hw hP hD hS => ?_)
        try dsimp only at hw
        have hw3 := hw
        have hP : va_P D vwCl [(pa, .inl (cI, 32, .inl (LI gC)))] H := hP
        have hD : va_D A [(pa, .inl (cI, 32, .inl (LI gC)))] := hD
        refine lv_iinc (v := iZ ((i + 1 : Nat) : Int)) (lv' := [(5, .int (iZ ((i + 1 : Nat) : Int))), (0, .ref pa), (1, .int (iZ ((n : Nat) : Int))), (2, .int (iZ ((k : Nat) : Int))), (3, .int (iZ ((x : Nat) : Int))), (4, .int (iZ ((y : Nat) : Int)))]) hx hb dX11_term_31 hl (k := 0) rfl (zi_inc (by omega)) (by decide) rfl (fun ls hl => ?_)
        refine lv_goto (tgt := 8) hx hb dX11_term_34 (by decide) ?_
        exact ih_8 (i + 1) _ (by omega) (by rw [← ch_step]; exact hw3) (by omega) _ _ hP hD hS ls (lv_sub hl [0, 1, 2, 3, 4, 5] rfl)
  exact pt_8 (k + 1) 0 _ (by omega) (by rw [ch_0]; exact hw1) (by omega) _ _ hP hD hS ls (lv_sub hl [0, 1, 2, 3, 4, 5] rfl)
def rmX11_power : Room := { frames := 1, cells := 0, slots := 0, locals := 25 }
set_option maxHeartbeats 4000000 in
set_option maxRecDepth 100000 in
theorem c_X11_power (l : Launch) (D : va_G) (cI cJ : ClassId) (pa : Nat) (g0 : Nat → Nat) (v n : Nat) (hv0 : v ≤ 1000) (hn : n ≤ 60) (hb0 : ∀ i, i < n → v ^ i * v < B16 ^ 32) : Cv l D vwCl (tyT cI cJ) yX11_power wsX11_power rmX11_power [.ref pa, .int (iZ ((v : Nat) : Int)), .int (iZ ((n : Nat) : Int))] [(pa, .inl (cI, 32, .inl (LI g0)))] (Nat → Nat) (fun r => mo r (v ^ n)) (fun r => [(pa, .inl (cI, 32, .inl (LI r)))]) := by
  refine en_v (cc := cX11_power) (maxL := 4) (by decide) rfl [(0, .ref pa), (1, .int (iZ ((v : Nat) : Int))), (2, .int (iZ ((n : Nat) : Int)))] (Nat.le_of_ble_eq_true rfl) rfl ?_
  intro p e s m args below meth c Q A hx hb hml hown hts hnm hK hP hD hA hS hret ls hl
  refine lv_aload_n hx hb dX11_power_0 rfl (lv_at hl 0 rfl) ?_
  refine zc_iconst (z := ((1 : Nat) : Int)) hx hb dX11_power_1 (by decide) ?_
  refine ca_vS [.ref pa, .int (iZ ((1 : Nat) : Int))] [] [] 0 0 ⟨hx, hb, hml, hown, hts⟩ (c_X11_small l D cI cJ pa g0 1 (by decide)) (va_cwS 2 hts gX11_power_X11_small rfl rfl rfl (by decide +kernel) ⟨(Nat.le_of_ble_eq_true rfl), (Nat.le_of_ble_eq_true rfl)⟩) hK hP hD hS hA [0] [] rfl rfl rfl rfl (by decide) rfl hl.1 rfl (Nat.le_of_ble_eq_true rfl) dX11_power_2 ⟨(Nat.le_of_ble_eq_true rfl), (Nat.le_of_ble_eq_true rfl)⟩ (Nat.le_of_ble_eq_true rfl) (Nat.le_of_ble_eq_true rfl) (fun gA H locs hw hP hD hS => ?_)
  try dsimp only at hw
  have hw1 := hw
  have hP : va_P D vwCl [(pa, .inl (cI, 32, .inl (LI gA)))] H := hP
  have hD : va_D A [(pa, .inl (cI, 32, .inl (LI gA)))] := hD
  refine zc_iconst (z := ((0 : Nat) : Int)) hx hb dX11_power_5 (by decide) ?_
  refine lv_istore_n (lv' := [(3, .int (iZ ((0 : Nat) : Int))), (0, .ref pa), (1, .int (iZ ((v : Nat) : Int))), (2, .int (iZ ((n : Nat) : Int)))]) hx hb dX11_power_6 rfl hl (by decide) rfl (fun ls hl => ?_)
  have pt_7 : ∀ f : Nat, ∀ (i : Nat) (g : Nat → Nat), (hi : i ≤ n) → (hI : mo g (v ^ i)) → (hf : n < i + f) → (H : Heap) → (locs : List Loc) → va_P D vwCl [(pa, .inl (cI, 32, .inl (LI g)))] H → va_D A [(pa, .inl (cI, 32, .inl (LI g)))] → va_S A s.heap H locs → (ls : Array Slot) → lv_has ls 4 [(3, .int (iZ ((i : Nat) : Int))), (0, .ref pa), (1, .int (iZ ((v : Nat) : Int))), (2, .int (iZ ((n : Nat) : Int)))] → W p l e rmX11_power s m args below meth c H locs 0 0 Q (F0 m 7 ls []) := by
    intro f
    induction f with
    | zero =>
      intro i g hi hI hf H locs hP hD hS ls hl
      exfalso; omega
    | succ f ih_7 =>
      intro i g hi hI hf H locs hP hD hS ls hl
      refine lv_iload_n hx hb dX11_power_7 rfl (lv_at hl 0 rfl) ?_
      refine lv_iload_n hx hb dX11_power_8 rfl (lv_at hl 3 rfl) ?_
      refine zb_icmp_ge (x := ((i : Nat) : Int)) (y := ((n : Nat) : Int)) (tgt := 24) hx hb dX11_power_9 (by decide) ⟨by omega, by omega⟩ ⟨by omega, by omega⟩ (fun c_9 => ?_) (fun c_9 => ?_)
      · exact hret (g) _ _ _ _ _ _ (Nat.le_of_ble_eq_true rfl) (Nat.le_of_ble_eq_true rfl) dX11_power_24 (by have e9 : i = n := (by omega); rw [e9] at hI; exact hI) hP hD hS
      · refine lv_aload_n hx hb dX11_power_12 rfl (lv_at hl 1 rfl) ?_
        refine lv_iload_n hx hb dX11_power_13 rfl (lv_at hl 2 rfl) ?_
        refine z_i2l (z := ((v : Nat) : Int)) hx hb dX11_power_14 ⟨by omega, by omega⟩ rfl ?_
        refine ca_vS [.ref pa, .long (lZ ((v : Nat) : Int))] [] [] 0 0 ⟨hx, hb, hml, hown, hts⟩ (c_X11_times l D cI cJ pa g (v ^ i) v hI (by omega) (hb0 i (by omega))) (va_cwS 2 hts gX11_power_X11_times rfl rfl rfl (by decide +kernel) ⟨(Nat.le_of_ble_eq_true rfl), (Nat.le_of_ble_eq_true rfl)⟩) hK hP hD hS hA [0] [] rfl rfl rfl rfl (by decide) rfl hl.1 rfl (Nat.le_of_ble_eq_true rfl) dX11_power_15 ⟨(Nat.le_of_ble_eq_true rfl), (Nat.le_of_ble_eq_true rfl)⟩ (Nat.le_of_ble_eq_true rfl) (Nat.le_of_ble_eq_true rfl) (fun gB H locs hw hP hD hS => ?_)
        try dsimp only at hw
        have hw2 := hw
        have hP : va_P D vwCl [(pa, .inl (cI, 32, .inl (LI gB)))] H := hP
        have hD : va_D A [(pa, .inl (cI, 32, .inl (LI gB)))] := hD
        refine lv_iinc (v := iZ ((i + 1 : Nat) : Int)) (lv' := [(3, .int (iZ ((i + 1 : Nat) : Int))), (0, .ref pa), (1, .int (iZ ((v : Nat) : Int))), (2, .int (iZ ((n : Nat) : Int)))]) hx hb dX11_power_18 hl (k := 0) rfl (zi_inc (by omega)) (by decide) rfl (fun ls hl => ?_)
        refine lv_goto (tgt := 7) hx hb dX11_power_21 (by decide) ?_
        exact ih_7 (i + 1) _ (by omega) (by rw [Nat.pow_succ]; exact hw2) (by omega) _ _ hP hD hS ls (lv_sub hl [0, 1, 2, 3] rfl)
  exact pt_7 (n + 1) 0 _ (by omega) (by rw [Nat.pow_zero]; exact hw1) (by omega) _ _ hP hD hS ls (lv_sub hl [0, 1, 2, 3] rfl)

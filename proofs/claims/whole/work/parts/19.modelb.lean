def tm (n a b i : Nat) : Nat := ch n i * a ^ i * b ^ (n - i)
def tmS (n a b s c : Nat) : Nat := sumN (fun j => tm n a b (s + j)) c
theorem tmS_s (n a b s c : Nat) : tmS n a b s (c + 1) = tmS n a b s c + tm n a b (s + c) := rfl
theorem p1000 {n : Nat} (hn : n ≤ 30) : 1000 ^ n ≤ 2 ^ 400 := Nat.le_trans (Nat.pow_le_pow_right (by decide) hn) (by decide +kernel)
theorem tm_le {n a b i : Nat} (hn : n ≤ 30) (hi : i ≤ n) (hab : a + b ≤ 1000) : tm n a b i ≤ 1000 ^ 30 :=
  Nat.le_trans (binom_le a b hi) (Nat.le_trans (Nat.pow_le_pow_left hab n) (Nat.pow_le_pow_right (by decide) hn))
theorem tmS_le {n a b s : Nat} (hn : n ≤ 30) (hab : a + b ≤ 1000) : ∀ c, s + c ≤ n + 1 → tmS n a b s c ≤ c * 1000 ^ 30
  | 0, _ => by rw [Nat.zero_mul]; exact Nat.le_refl 0
  | c + 1, h => by
    have h1 := tmS_le (s := s) hn hab c (by omega)
    have h2 := tm_le (i := s + c) hn (by omega) hab
    rw [tmS_s, Nat.add_mul, Nat.one_mul]; omega
theorem tmS_b {n a b s c : Nat} (hn : n ≤ 30) (hab : a + b ≤ 1000) (h : s + c ≤ n) : tmS n a b s c + tm n a b (s + c) < B16 ^ 32 := by
  have h1 := tmS_le (s := s) hn hab (c + 1) (by omega)
  rw [tmS_s] at h1
  have h2 : (c + 1) * 1000 ^ 30 ≤ 31 * 1000 ^ 30 := Nat.mul_le_mul_right _ (by omega)
  rw [B16_32]
  exact Nat.lt_of_le_of_lt (Nat.le_trans h1 h2) (by decide +kernel)
theorem ch_nn : ∀ n, ch n n = 1
  | 0 => rfl
  | n + 1 => by rw [ch_ss, ch_nn n, ch_big (by omega)]
theorem ch_sym : ∀ {n k : Nat}, k ≤ n → ch n k = ch n (n - k)
  | n, 0, _ => by rw [ch_0, Nat.sub_zero, ch_nn]
  | 0, k + 1, h => by omega
  | n + 1, k + 1, h => by
    rcases (show k = n ∨ k + 1 ≤ n by omega) with e | e
    · subst e; rw [ch_nn, show k + 1 - (k + 1) = 0 by omega, ch_0]
    · have h1 := ch_sym (n := n) (k := k) (by omega)
      have h2 := ch_sym (n := n) (k := k + 1) e
      rw [ch_ss, h1, h2, show n + 1 - (k + 1) = (n - (k + 1)) + 1 by omega, ch_ss, show n - (k + 1) + 1 = n - k by omega]
      omega
theorem sumN_rev (f : Nat → Nat) : ∀ m, sumN f m = sumN (fun i => f (m - 1 - i)) m
  | 0 => rfl
  | m + 1 => by
    rw [sumN_s, sumN_rev f m, sumN_sh (fun i => f (m + 1 - 1 - i)) m]
    show sumN _ m + f m = f m + sumN (fun i => f (m - (i + 1))) m
    rw [Nat.add_comm]
    congr 1
    exact sumN_congr (fun i hi => by rw [show m - 1 - i = m - (i + 1) by omega])
theorem hoS_sum (n a b : Nat) : ∀ j, hoS n a b j = sumN (fun i => ch n i * a ^ (j - 1 - i) * b ^ i) j
  | 0 => rfl
  | j + 1 => by
    rw [hoS, hoS_sum n a b j, sumN_s]
    have e : sumN (fun i => ch n i * a ^ (j + 1 - 1 - i) * b ^ i) j = sumN (fun i => ch n i * a ^ (j - 1 - i) * b ^ i) j * a := by
      have h : ∀ m, m ≤ j → sumN (fun i => ch n i * a ^ (j + 1 - 1 - i) * b ^ i) m = sumN (fun i => ch n i * a ^ (j - 1 - i) * b ^ i) m * a := by
        intro m
        induction m with
        | zero => intro _; show 0 = 0 * a; rw [Nat.zero_mul]
        | succ m ih =>
          intro hm
          rw [sumN_s, sumN_s, ih (by omega), Nat.add_mul]
          congr 1
          show ch n m * a ^ (j + 1 - 1 - m) * b ^ m = ch n m * a ^ (j - 1 - m) * b ^ m * a
          rw [show j + 1 - 1 - m = (j - 1 - m) + 1 by omega, Nat.pow_succ, ← Nat.mul_assoc, Nat.mul_right_comm]
      exact h j (Nat.le_refl j)
    rw [e]
    show _ + b ^ j * ch n j = _ + ch n j * a ^ (j + 1 - 1 - j) * b ^ j
    rw [show j + 1 - 1 - j = 0 by omega, Nat.pow_zero, Nat.mul_one, Nat.mul_comm (b ^ j)]
theorem sumN_mul (f : Nat → Nat) (x : Nat) : ∀ m, sumN f m * x = sumN (fun i => f i * x) m
  | 0 => Nat.zero_mul x
  | m + 1 => by rw [sumN_s, sumN_s, Nat.add_mul, sumN_mul f x m]
theorem hoA_sum {n k a b : Nat} (hk : k ≤ n) : hoA n k a b = sumN (fun i => ch n i * a ^ (n - i) * b ^ i) (n - k + 1) := by
  unfold hoA
  rw [hoS_sum, sumN_mul]
  refine sumN_congr (fun i hi => ?_)
  show ch n i * a ^ (n - k + 1 - 1 - i) * b ^ i * a ^ k = ch n i * a ^ (n - i) * b ^ i
  rw [Nat.mul_right_comm, Nat.mul_assoc (ch n i), ← Nat.pow_add, show n - k + 1 - 1 - i + k = n - i by omega]
theorem habv_1 {n k up down : Nat} (hk : k ≤ n) : habv n k up down 1 = tmS n up (down - up) 0 (k + 1) := by
  unfold habv
  rw [if_neg (by decide), hoA_sum (by omega), show n - (n - k) + 1 = k + 1 by omega]
  refine sumN_congr (fun i hi => ?_)
  show ch n i * (down - up) ^ (n - i) * up ^ i = tm n up (down - up) (0 + i)
  unfold tm
  rw [Nat.zero_add, Nat.mul_right_comm]
theorem habv_0 {n k up down : Nat} (hk : k ≤ n) : habv n k up down 0 = tmS n up (down - up) k (n - k + 1) := by
  unfold habv
  rw [if_pos rfl, hoA_sum hk, sumN_rev]
  refine sumN_congr (fun i hi => ?_)
  show ch n (n - k + 1 - 1 - i) * up ^ (n - (n - k + 1 - 1 - i)) * (down - up) ^ (n - k + 1 - 1 - i) = tm n up (down - up) (k + i)
  unfold tm
  rw [ch_sym (n := n) (k := k + i) (by omega), show n - k + 1 - 1 - i = n - (k + i) by omega, show n - (n - (k + i)) = k + i by omega]
theorem B_le : B32 ^ 14 ≤ B16 ^ 32 := by decide +kernel
theorem mo_limb {g : Nat → Nat} {v i : Nat} (h : mo g v) (hi : i ≤ 10) : g (2 * i) + g (2 * i + 1) * 65536 = v / B32 ^ i % B32 := by
  have h1 := dv_digit (B := B16) (g := g) (by decide) h.1 (2 * i) (by omega)
  have h2 := dv_digit (B := B16) (g := g) (by decide) h.1 (2 * i + 1) (by omega)
  rw [h.2] at h1 h2
  have e : B16 ^ (2 * i) = B32 ^ i := by rw [Nat.pow_mul, show B16 ^ 2 = B32 from rfl]
  rw [Nat.pow_succ, ← Nat.div_div_eq_div_mul, e] at h2
  rw [e] at h1
  generalize v / B32 ^ i = x at *
  have h1' : g (2 * i) = x % 65536 := h1
  have h2' : g (2 * i + 1) = x / 65536 % 65536 := h2
  show _ = x % 4294967296
  rw [h1', h2']
  omega
theorem l_or16' {a b : Nat} (ha : a < 65536) (hb : b < 65536) : lZ ((a : Nat) : Int) ||| lZ ((b * 65536 : Nat) : Int) = lZ ((a + b * 65536 : Nat) : Int) := by
  rw [lZ_lN, lZ_lN, lZ_lN]; exact g_or' (k := 16) (by decide) ha (by omega)
theorem bsr_ok {good : Nat → Bool} : ∀ (f : Nat) {f2 lo hi : Nat}, hi - lo < f → hi - lo < f2 → bsr good f lo hi = bsr good f2 lo hi
  | 0, f2, lo, hi, h, _ => by omega
  | f + 1, 0, lo, hi, _, h => by omega
  | f + 1, f2 + 1, lo, hi, h1, h2 => by
    rw [bsr, bsr]
    split
    · split
      · exact bsr_ok f (by omega) (by omega)
      · exact bsr_ok f (by omega) (by omega)
    · rfl
def rmX11_thrown : Room := { frames := 0, cells := 0, slots := 0, locals := 0 }
set_option maxHeartbeats 4000000 in
set_option maxRecDepth 100000 in
theorem c_X11_thrown (l : Launch) (D : va_G) (cI cJ : ClassId) (mz sA sB gO xO yO dO zO wO mO aO bO uO vO : Nat) (th rn un mn kc hT tu td ta tb tt tk tj : Nat) : Ci l D vwCl (tyT cI cJ) yX11_thrown wsX11_thrown rmX11_thrown [.ref mz] [(mz, .inr (10, [.int (iZ ((th : Nat) : Int)), .ref sA, .ref sB, .int (iZ ((rn : Nat) : Int)), .ref gO, .ref xO, .ref yO, .int (iZ ((un : Nat) : Int)), .ref dO, .ref zO, .ref wO, .ref mO, .int (iZ ((mn : Nat) : Int)), .ref aO, .ref bO, .int (iZ ((kc : Nat) : Int)), .ref uO, .ref vO, .int (iZ ((hT : Nat) : Int)), .int (iZ ((tu : Nat) : Int)), .int (iZ ((td : Nat) : Int)), .int (iZ ((ta : Nat) : Int)), .int (iZ ((tb : Nat) : Int)), .int (iZ ((tt : Nat) : Int)), .int (iZ ((tk : Nat) : Int)), .int (iZ ((tj : Nat) : Int))]))] (Unit) (fun r _ => r = iZ ((th : Nat) : Int)) (fun _ => [(mz, .inr (10, [.int (iZ ((th : Nat) : Int)), .ref sA, .ref sB, .int (iZ ((rn : Nat) : Int)), .ref gO, .ref xO, .ref yO, .int (iZ ((un : Nat) : Int)), .ref dO, .ref zO, .ref wO, .ref mO, .int (iZ ((mn : Nat) : Int)), .ref aO, .ref bO, .int (iZ ((kc : Nat) : Int)), .ref uO, .ref vO, .int (iZ ((hT : Nat) : Int)), .int (iZ ((tu : Nat) : Int)), .int (iZ ((td : Nat) : Int)), .int (iZ ((ta : Nat) : Int)), .int (iZ ((tb : Nat) : Int)), .int (iZ ((tt : Nat) : Int)), .int (iZ ((tk : Nat) : Int)), .int (iZ ((tj : Nat) : Int))]))]) := by
  refine en_i (cc := cX11_thrown) (maxL := 1) (by decide) rfl [(0, .ref mz)] (Nat.le_of_ble_eq_true rfl) rfl ?_
  intro p e s m args below meth c Q A hx hb hml hown hts hnm hK hP hD hA hS hret ls hl
  have hh_0 := hts (.fieldLink RX11 50 "BoundDrawsModel" "thrown" "I") (by decide +kernel)
  have hh_1 := (show ∀ w ∈ wsX110, w ∈ wsX11_thrown by decide +kernel)
  refine lv_aload_n hx hb dX11_thrown_0 rfl (lv_at hl 0 rfl) ?_
  refine va_get (D := D) (ci := 10) (v := .int (iZ ((th : Nat) : Int))) (C := RX11) (T := TX11) (N := 26) hx hb hts hh_1 hown hK hP 0 rfl rfl 0 (by decide) hh_0 (fun _ h9 => h9) rfl dX11_thrown_1 ?_
  exact hret _ (()) _ _ _ _ _ _ (Nat.le_of_ble_eq_true rfl) (Nat.le_of_ble_eq_true rfl) rfl dX11_thrown_4 (rfl) hP hD hS
def rmX11_isHits : Room := { frames := 1, cells := 0, slots := 0, locals := 25 }
set_option maxHeartbeats 4000000 in
set_option maxRecDepth 100000 in
theorem c_X11_isHits (l : Launch) (D : va_G) (cI cJ : ClassId) (zn : Int) (izn : iR zn) (zk : Int) (izk : iR zk) (zu : Int) (izu : iR zu) (zd : Int) (izd : iR zd) (zs : Int) (izs : iR zs) : Ci l D vwCl (tyT cI cJ) yX11_isHits wsX11_isHits rmX11_isHits [.int (iZ (zn)), .int (iZ (zk)), .int (iZ (zu)), .int (iZ (zd)), .int (iZ (zs))] [] (Unit) (fun r _ => bres r (vHits zn zk zu zd zs)) (fun _ => []) := by
  refine en_i (cc := cX11_isHits) (maxL := 5) (by decide) rfl [(0, .int (iZ (zn))), (1, .int (iZ (zk))), (2, .int (iZ (zu))), (3, .int (iZ (zd))), (4, .int (iZ (zs)))] (Nat.le_of_ble_eq_true rfl) rfl ?_
  intro p e s m args below meth c Q A hx hb hml hown hts hnm hK hP hD hA hS hret ls hl
  have hh_0 := hts (.constantLong RX11 76 (30)) (by decide +kernel)
  have hh_1 := hts (.constantLong RX11 82 (1000)) (by decide +kernel)
  refine lv_iload_n hx hb dX11_isHits_0 rfl (lv_at hl 0 rfl) ?_
  refine z_i2l (z := (zn)) hx hb dX11_isHits_1 ⟨by omega, by omega⟩ rfl ?_
  refine zc_lconst (z := ((0 : Nat) : Int)) hx hb dX11_isHits_2 (by decide) ?_
  refine lv_ldc2 hx hb hown hh_0 dX11_isHits_3 (tp_l (y := lZ ((30 : Nat) : Int)) (by decide) ?_)
  refine ca_iS [.long (lZ (zn)), .long (lZ ((0 : Nat) : Int)), .long (lZ ((30 : Nat) : Int))] [] [] 0 0 ⟨hx, hb, hml, hown, hts⟩ (c_X11_in l D cI cJ zn ((0 : Nat) : Int) ((30 : Nat) : Int) ⟨by omega, by omega⟩ ⟨by omega, by omega⟩ ⟨by omega, by omega⟩) (va_cwS 3 hts gX11_isHits_X11_in rfl rfl rfl (by decide +kernel) ⟨(Nat.le_of_ble_eq_true rfl), (Nat.le_of_ble_eq_true rfl)⟩) hK hP hD hS hA [] [] rfl rfl rfl rfl (by decide) rfl hl.1 rfl (Nat.le_of_ble_eq_true rfl) dX11_isHits_6 ⟨(Nat.le_of_ble_eq_true rfl), (Nat.le_of_ble_eq_true rfl)⟩ (Nat.le_of_ble_eq_true rfl) (Nat.le_of_ble_eq_true rfl) (fun r_6 u9 H locs hw hP hD hS => ?_)
  obtain u9 := u9
  try dsimp only at hw
  obtain ⟨b1, wa1, wb1, wc1⟩ := hw
  have hP : va_P D vwCl [] H := hP
  have hD : va_D A [] := hD
  refine tp_i (y := (iZ (b1))) (wa1) ?_
  refine zb_if_eq (x := (b1)) (tgt := 61) hx hb dX11_isHits_9 (by decide) ⟨by omega, by omega⟩ (fun c_9 => ?_) (fun c_9 => ?_)
  · refine zc_iconst (z := ((0 : Nat) : Int)) hx hb dX11_isHits_61 (by decide) ?_
    exact hret _ (()) _ _ _ _ _ _ (Nat.le_of_ble_eq_true rfl) (Nat.le_of_ble_eq_true rfl) rfl dX11_isHits_62 (bres_f (by omega)) hP hD hS
  · refine lv_iload_n hx hb dX11_isHits_12 rfl (lv_at hl 1 rfl) ?_
    refine z_i2l (z := (zk)) hx hb dX11_isHits_13 ⟨by omega, by omega⟩ rfl ?_
    refine zc_lconst (z := ((0 : Nat) : Int)) hx hb dX11_isHits_14 (by decide) ?_
    refine lv_iload_n hx hb dX11_isHits_15 rfl (lv_at hl 0 rfl) ?_
    refine z_i2l (z := (zn)) hx hb dX11_isHits_16 ⟨by omega, by omega⟩ rfl ?_
    refine ca_iS [.long (lZ (zk)), .long (lZ ((0 : Nat) : Int)), .long (lZ (zn))] [] [] 0 0 ⟨hx, hb, hml, hown, hts⟩ (c_X11_in l D cI cJ zk ((0 : Nat) : Int) zn ⟨by omega, by omega⟩ ⟨by omega, by omega⟩ ⟨by omega, by omega⟩) (va_cwS 3 hts gX11_isHits_X11_in rfl rfl rfl (by decide +kernel) ⟨(Nat.le_of_ble_eq_true rfl), (Nat.le_of_ble_eq_true rfl)⟩) hK hP hD hS hA [] [] rfl rfl rfl rfl (by decide) rfl hl.1 rfl (Nat.le_of_ble_eq_true rfl) dX11_isHits_17 ⟨(Nat.le_of_ble_eq_true rfl), (Nat.le_of_ble_eq_true rfl)⟩ (Nat.le_of_ble_eq_true rfl) (Nat.le_of_ble_eq_true rfl) (fun r_17 u9 H locs hw hP hD hS => ?_)
    obtain u9 := u9
    try dsimp only at hw
    obtain ⟨b2, wa2, wb2, wc2⟩ := hw
    have hP : va_P D vwCl [] H := hP
    have hD : va_D A [] := hD
    refine tp_i (y := (iZ (b2))) (wa2) ?_
    refine zb_if_eq (x := (b2)) (tgt := 61) hx hb dX11_isHits_20 (by decide) ⟨by omega, by omega⟩ (fun c_20 => ?_) (fun c_20 => ?_)
    · refine zc_iconst (z := ((0 : Nat) : Int)) hx hb dX11_isHits_61 (by decide) ?_
      exact hret _ (()) _ _ _ _ _ _ (Nat.le_of_ble_eq_true rfl) (Nat.le_of_ble_eq_true rfl) rfl dX11_isHits_62 (bres_f (by omega)) hP hD hS
    · refine lv_iload_n hx hb dX11_isHits_23 rfl (lv_at hl 3 rfl) ?_
      refine z_i2l (z := (zd)) hx hb dX11_isHits_24 ⟨by omega, by omega⟩ rfl ?_
      refine zc_lconst (z := ((1 : Nat) : Int)) hx hb dX11_isHits_25 (by decide) ?_
      refine lv_ldc2 hx hb hown hh_1 dX11_isHits_26 (tp_l (y := lZ ((1000 : Nat) : Int)) (by decide) ?_)
      refine ca_iS [.long (lZ (zd)), .long (lZ ((1 : Nat) : Int)), .long (lZ ((1000 : Nat) : Int))] [] [] 0 0 ⟨hx, hb, hml, hown, hts⟩ (c_X11_in l D cI cJ zd ((1 : Nat) : Int) ((1000 : Nat) : Int) ⟨by omega, by omega⟩ ⟨by omega, by omega⟩ ⟨by omega, by omega⟩) (va_cwS 3 hts gX11_isHits_X11_in rfl rfl rfl (by decide +kernel) ⟨(Nat.le_of_ble_eq_true rfl), (Nat.le_of_ble_eq_true rfl)⟩) hK hP hD hS hA [] [] rfl rfl rfl rfl (by decide) rfl hl.1 rfl (Nat.le_of_ble_eq_true rfl) dX11_isHits_29 ⟨(Nat.le_of_ble_eq_true rfl), (Nat.le_of_ble_eq_true rfl)⟩ (Nat.le_of_ble_eq_true rfl) (Nat.le_of_ble_eq_true rfl) (fun r_29 u9 H locs hw hP hD hS => ?_)
      obtain u9 := u9
      try dsimp only at hw
      obtain ⟨b3, wa3, wb3, wc3⟩ := hw
      have hP : va_P D vwCl [] H := hP
      have hD : va_D A [] := hD
      refine tp_i (y := (iZ (b3))) (wa3) ?_
      refine zb_if_eq (x := (b3)) (tgt := 61) hx hb dX11_isHits_32 (by decide) ⟨by omega, by omega⟩ (fun c_32 => ?_) (fun c_32 => ?_)
      · refine zc_iconst (z := ((0 : Nat) : Int)) hx hb dX11_isHits_61 (by decide) ?_
        exact hret _ (()) _ _ _ _ _ _ (Nat.le_of_ble_eq_true rfl) (Nat.le_of_ble_eq_true rfl) rfl dX11_isHits_62 (bres_f (by omega)) hP hD hS
      · refine lv_iload_n hx hb dX11_isHits_35 rfl (lv_at hl 2 rfl) ?_
        refine z_i2l (z := (zu)) hx hb dX11_isHits_36 ⟨by omega, by omega⟩ rfl ?_
        refine zc_lconst (z := ((0 : Nat) : Int)) hx hb dX11_isHits_37 (by decide) ?_
        refine lv_iload_n hx hb dX11_isHits_38 rfl (lv_at hl 3 rfl) ?_
        refine z_i2l (z := (zd)) hx hb dX11_isHits_39 ⟨by omega, by omega⟩ rfl ?_
        refine ca_iS [.long (lZ (zu)), .long (lZ ((0 : Nat) : Int)), .long (lZ (zd))] [] [] 0 0 ⟨hx, hb, hml, hown, hts⟩ (c_X11_in l D cI cJ zu ((0 : Nat) : Int) zd ⟨by omega, by omega⟩ ⟨by omega, by omega⟩ ⟨by omega, by omega⟩) (va_cwS 3 hts gX11_isHits_X11_in rfl rfl rfl (by decide +kernel) ⟨(Nat.le_of_ble_eq_true rfl), (Nat.le_of_ble_eq_true rfl)⟩) hK hP hD hS hA [] [] rfl rfl rfl rfl (by decide) rfl hl.1 rfl (Nat.le_of_ble_eq_true rfl) dX11_isHits_40 ⟨(Nat.le_of_ble_eq_true rfl), (Nat.le_of_ble_eq_true rfl)⟩ (Nat.le_of_ble_eq_true rfl) (Nat.le_of_ble_eq_true rfl) (fun r_40 u9 H locs hw hP hD hS => ?_)
        obtain u9 := u9
        try dsimp only at hw
        obtain ⟨b4, wa4, wb4, wc4⟩ := hw
        have hP : va_P D vwCl [] H := hP
        have hD : va_D A [] := hD
        refine tp_i (y := (iZ (b4))) (wa4) ?_
        refine zb_if_eq (x := (b4)) (tgt := 61) hx hb dX11_isHits_43 (by decide) ⟨by omega, by omega⟩ (fun c_43 => ?_) (fun c_43 => ?_)
        · refine zc_iconst (z := ((0 : Nat) : Int)) hx hb dX11_isHits_61 (by decide) ?_
          exact hret _ (()) _ _ _ _ _ _ (Nat.le_of_ble_eq_true rfl) (Nat.le_of_ble_eq_true rfl) rfl dX11_isHits_62 (bres_f (by omega)) hP hD hS
        · refine lv_iload hx hb dX11_isHits_46 (lv_at hl 4 rfl) ?_
          refine z_i2l (z := (zs)) hx hb dX11_isHits_48 ⟨by omega, by omega⟩ rfl ?_
          refine zc_lconst (z := ((0 : Nat) : Int)) hx hb dX11_isHits_49 (by decide) ?_
          refine zc_lconst (z := ((1 : Nat) : Int)) hx hb dX11_isHits_50 (by decide) ?_
          refine ca_iS [.long (lZ (zs)), .long (lZ ((0 : Nat) : Int)), .long (lZ ((1 : Nat) : Int))] [] [] 0 0 ⟨hx, hb, hml, hown, hts⟩ (c_X11_in l D cI cJ zs ((0 : Nat) : Int) ((1 : Nat) : Int) ⟨by omega, by omega⟩ ⟨by omega, by omega⟩ ⟨by omega, by omega⟩) (va_cwS 3 hts gX11_isHits_X11_in rfl rfl rfl (by decide +kernel) ⟨(Nat.le_of_ble_eq_true rfl), (Nat.le_of_ble_eq_true rfl)⟩) hK hP hD hS hA [] [] rfl rfl rfl rfl (by decide) rfl hl.1 rfl (Nat.le_of_ble_eq_true rfl) dX11_isHits_51 ⟨(Nat.le_of_ble_eq_true rfl), (Nat.le_of_ble_eq_true rfl)⟩ (Nat.le_of_ble_eq_true rfl) (Nat.le_of_ble_eq_true rfl) (fun r_51 u9 H locs hw hP hD hS => ?_)
          obtain u9 := u9
          try dsimp only at hw
          obtain ⟨b5, wa5, wb5, wc5⟩ := hw
          have hP : va_P D vwCl [] H := hP
          have hD : va_D A [] := hD
          refine tp_i (y := (iZ (b5))) (wa5) ?_
          refine zb_if_eq (x := (b5)) (tgt := 61) hx hb dX11_isHits_54 (by decide) ⟨by omega, by omega⟩ (fun c_54 => ?_) (fun c_54 => ?_)
          · refine zc_iconst (z := ((0 : Nat) : Int)) hx hb dX11_isHits_61 (by decide) ?_
            exact hret _ (()) _ _ _ _ _ _ (Nat.le_of_ble_eq_true rfl) (Nat.le_of_ble_eq_true rfl) rfl dX11_isHits_62 (bres_f (by omega)) hP hD hS
          · refine zc_iconst (z := ((1 : Nat) : Int)) hx hb dX11_isHits_57 (by decide) ?_
            refine lv_goto (tgt := 62) hx hb dX11_isHits_58 (by decide) ?_
            exact hret _ (()) _ _ _ _ _ _ (Nat.le_of_ble_eq_true rfl) (Nat.le_of_ble_eq_true rfl) rfl dX11_isHits_62 (bres_t (by omega)) hP hD hS
def rmX11_isTrust : Room := { frames := 1, cells := 0, slots := 0, locals := 25 }
set_option maxHeartbeats 4000000 in
set_option maxRecDepth 100000 in
theorem c_X11_isTrust (l : Launch) (D : va_G) (cI cJ : ClassId) (za : Int) (iza : iR za) (zb : Int) (izb : iR zb) : Ci l D vwCl (tyT cI cJ) yX11_isTrust wsX11_isTrust rmX11_isTrust [.int (iZ (za)), .int (iZ (zb))] [] (Unit) (fun r _ => bres r (vTrust za zb)) (fun _ => []) := by
  refine en_i (cc := cX11_isTrust) (maxL := 2) (by decide) rfl [(0, .int (iZ (za))), (1, .int (iZ (zb)))] (Nat.le_of_ble_eq_true rfl) rfl ?_
  intro p e s m args below meth c Q A hx hb hml hown hts hnm hK hP hD hA hS hret ls hl
  have hh_0 := hts (.constantLong RX11 108 (2)) (by decide +kernel)
  have hh_1 := hts (.constantLong RX11 82 (1000)) (by decide +kernel)
  refine lv_iload_n hx hb dX11_isTrust_0 rfl (lv_at hl 1 rfl) ?_
  refine z_i2l (z := (zb)) hx hb dX11_isTrust_1 ⟨by omega, by omega⟩ rfl ?_
  refine lv_ldc2 hx hb hown hh_0 dX11_isTrust_2 (tp_l (y := lZ ((2 : Nat) : Int)) (by decide) ?_)
  refine lv_ldc2 hx hb hown hh_1 dX11_isTrust_5 (tp_l (y := lZ ((1000 : Nat) : Int)) (by decide) ?_)
  refine ca_iS [.long (lZ (zb)), .long (lZ ((2 : Nat) : Int)), .long (lZ ((1000 : Nat) : Int))] [] [] 0 0 ⟨hx, hb, hml, hown, hts⟩ (c_X11_in l D cI cJ zb ((2 : Nat) : Int) ((1000 : Nat) : Int) ⟨by omega, by omega⟩ ⟨by omega, by omega⟩ ⟨by omega, by omega⟩) (va_cwS 3 hts gX11_isTrust_X11_in rfl rfl rfl (by decide +kernel) ⟨(Nat.le_of_ble_eq_true rfl), (Nat.le_of_ble_eq_true rfl)⟩) hK hP hD hS hA [] [] rfl rfl rfl rfl (by decide) rfl hl.1 rfl (Nat.le_of_ble_eq_true rfl) dX11_isTrust_8 ⟨(Nat.le_of_ble_eq_true rfl), (Nat.le_of_ble_eq_true rfl)⟩ (Nat.le_of_ble_eq_true rfl) (Nat.le_of_ble_eq_true rfl) (fun r_8 u9 H locs hw hP hD hS => ?_)
  obtain u9 := u9
  try dsimp only at hw
  obtain ⟨b1, wa1, wb1, wc1⟩ := hw
  have hP : va_P D vwCl [] H := hP
  have hD : va_D A [] := hD
  refine tp_i (y := (iZ (b1))) (wa1) ?_
  refine zb_if_eq (x := (b1)) (tgt := 31) hx hb dX11_isTrust_11 (by decide) ⟨by omega, by omega⟩ (fun c_11 => ?_) (fun c_11 => ?_)
  · have c9 : ¬ vTrust za zb := by omega
    refine zc_iconst (z := ((0 : Nat) : Int)) hx hb dX11_isTrust_31 (by decide) ?_
    exact hret _ (()) _ _ _ _ _ _ (Nat.le_of_ble_eq_true rfl) (Nat.le_of_ble_eq_true rfl) rfl dX11_isTrust_32 (bres_f (by omega)) hP hD hS
  · refine lv_iload_n hx hb dX11_isTrust_14 rfl (lv_at hl 0 rfl) ?_
    refine z_i2l (z := (za)) hx hb dX11_isTrust_15 ⟨by omega, by omega⟩ rfl ?_
    refine zc_lconst (z := ((1 : Nat) : Int)) hx hb dX11_isTrust_16 (by decide) ?_
    refine lv_iload_n hx hb dX11_isTrust_17 rfl (lv_at hl 1 rfl) ?_
    refine zc_iconst (z := ((1 : Nat) : Int)) hx hb dX11_isTrust_18 (by decide) ?_
    refine zi_sub (z := (zb - ((1 : Nat) : Int))) hx hb dX11_isTrust_19 rfl ?_
    refine z_i2l (z := (zb - ((1 : Nat) : Int))) hx hb dX11_isTrust_20 ⟨by omega, by omega⟩ rfl ?_
    refine ca_iS [.long (lZ (za)), .long (lZ ((1 : Nat) : Int)), .long (lZ (zb - ((1 : Nat) : Int)))] [] [] 0 0 ⟨hx, hb, hml, hown, hts⟩ (c_X11_in l D cI cJ za ((1 : Nat) : Int) (zb - ((1 : Nat) : Int)) ⟨by omega, by omega⟩ ⟨by omega, by omega⟩ ⟨by omega, by omega⟩) (va_cwS 3 hts gX11_isTrust_X11_in rfl rfl rfl (by decide +kernel) ⟨(Nat.le_of_ble_eq_true rfl), (Nat.le_of_ble_eq_true rfl)⟩) hK hP hD hS hA [] [] rfl rfl rfl rfl (by decide) rfl hl.1 rfl (Nat.le_of_ble_eq_true rfl) dX11_isTrust_21 ⟨(Nat.le_of_ble_eq_true rfl), (Nat.le_of_ble_eq_true rfl)⟩ (Nat.le_of_ble_eq_true rfl) (Nat.le_of_ble_eq_true rfl) (fun r_21 u9 H locs hw hP hD hS => ?_)
    obtain u9 := u9
    try dsimp only at hw
    obtain ⟨b2, wa2, wb2, wc2⟩ := hw
    have hP : va_P D vwCl [] H := hP
    have hD : va_D A [] := hD
    refine tp_i (y := (iZ (b2))) (wa2) ?_
    refine zb_if_eq (x := (b2)) (tgt := 31) hx hb dX11_isTrust_24 (by decide) ⟨by omega, by omega⟩ (fun c_24 => ?_) (fun c_24 => ?_)
    · refine zc_iconst (z := ((0 : Nat) : Int)) hx hb dX11_isTrust_31 (by decide) ?_
      exact hret _ (()) _ _ _ _ _ _ (Nat.le_of_ble_eq_true rfl) (Nat.le_of_ble_eq_true rfl) rfl dX11_isTrust_32 (bres_f (by omega)) hP hD hS
    · refine zc_iconst (z := ((1 : Nat) : Int)) hx hb dX11_isTrust_27 (by decide) ?_
      refine lv_goto (tgt := 32) hx hb dX11_isTrust_28 (by decide) ?_
      exact hret _ (()) _ _ _ _ _ _ (Nat.le_of_ble_eq_true rfl) (Nat.le_of_ble_eq_true rfl) rfl dX11_isTrust_32 (bres_t (by omega)) hP hD hS
def rmX11_sumUp : Room := { frames := 2, cells := 0, slots := 0, locals := 50 }
set_option maxHeartbeats 4000000 in
set_option maxRecDepth 100000 in
theorem c_X11_sumUp (l : Launch) (D : va_G) (cI cJ : ClassId) (mz sA sB gO xO yO dO zO wO mO aO bO uO vO : Nat) (th rn un mn kc hT tu td ta tb tt tk tj : Nat) (g1 g2 : Nat → Nat) (n k up down side : Nat) (hn : n ≤ 30) (hk : k ≤ n) (hd : down ≤ 1000) (hu : up ≤ down) (hsd : side ≤ 1) : Cv l D vwCl (tyT cI cJ) yX11_sumUp wsX11_sumUp rmX11_sumUp [.ref mz, .int (iZ ((n : Nat) : Int)), .int (iZ ((k : Nat) : Int)), .int (iZ ((up : Nat) : Int)), .int (iZ ((down : Nat) : Int)), .int (iZ ((side : Nat) : Int))] [(mz, .inr (10, [.int (iZ ((th : Nat) : Int)), .ref sA, .ref sB, .int (iZ ((rn : Nat) : Int)), .ref gO, .ref xO, .ref yO, .int (iZ ((un : Nat) : Int)), .ref dO, .ref zO, .ref wO, .ref mO, .int (iZ ((mn : Nat) : Int)), .ref aO, .ref bO, .int (iZ ((kc : Nat) : Int)), .ref uO, .ref vO, .int (iZ ((hT : Nat) : Int)), .int (iZ ((tu : Nat) : Int)), .int (iZ ((td : Nat) : Int)), .int (iZ ((ta : Nat) : Int)), .int (iZ ((tb : Nat) : Int)), .int (iZ ((tt : Nat) : Int)), .int (iZ ((tk : Nat) : Int)), .int (iZ ((tj : Nat) : Int))])), (sA, .inl (cI, 32, .inl (LI g1))), (sB, .inl (cI, 32, .inl (LI g2)))] ((Nat → Nat) × (Nat → Nat)) (fun r => mo r.1 (habv n k up down side)) (fun r => [(mz, .inr (10, [.int (iZ ((th : Nat) : Int)), .ref sA, .ref sB, .int (iZ ((rn : Nat) : Int)), .ref gO, .ref xO, .ref yO, .int (iZ ((un : Nat) : Int)), .ref dO, .ref zO, .ref wO, .ref mO, .int (iZ ((mn : Nat) : Int)), .ref aO, .ref bO, .int (iZ ((kc : Nat) : Int)), .ref uO, .ref vO, .int (iZ ((hT : Nat) : Int)), .int (iZ ((tu : Nat) : Int)), .int (iZ ((td : Nat) : Int)), .int (iZ ((ta : Nat) : Int)), .int (iZ ((tb : Nat) : Int)), .int (iZ ((tt : Nat) : Int)), .int (iZ ((tk : Nat) : Int)), .int (iZ ((tj : Nat) : Int))])), (sA, .inl (cI, 32, .inl (LI r.1))), (sB, .inl (cI, 32, .inl (LI r.2)))]) := by
  refine en_v (cc := cX11_sumUp) (maxL := 9) (by decide) rfl [(0, .ref mz), (1, .int (iZ ((n : Nat) : Int))), (2, .int (iZ ((k : Nat) : Int))), (3, .int (iZ ((up : Nat) : Int))), (4, .int (iZ ((down : Nat) : Int))), (5, .int (iZ ((side : Nat) : Int)))] (Nat.le_of_ble_eq_true rfl) rfl ?_
  intro p e s m args below meth c Q A hx hb hml hown hts hnm hK hP hD hA hS hret ls hl
  have hh_0 := hts (.fieldLink RX11 7 "BoundDrawsModel" "sum" "[I") (by decide +kernel)
  have hh_1 := (show ∀ w ∈ wsX110, w ∈ wsX11_sumUp by decide +kernel)
  have hh_2 := hts (.fieldLink RX11 13 "BoundDrawsModel" "one" "[I") (by decide +kernel)
  refine lv_aload_n hx hb dX11_sumUp_0 rfl (lv_at hl 0 rfl) ?_
  refine va_get (D := D) (ci := 10) (v := .ref sA) (C := RX11) (T := TX11) (N := 26) hx hb hts hh_1 hown hK hP 0 rfl rfl 1 (by decide) hh_0 (fun _ h9 => h9) rfl dX11_sumUp_1 ?_
  refine zc_iconst (z := ((0 : Nat) : Int)) hx hb dX11_sumUp_4 (by decide) ?_
  refine ca_vS [.ref sA, .int (iZ ((0 : Nat) : Int))] [] [(mz, .inr (10, [.int (iZ ((th : Nat) : Int)), .ref sA, .ref sB, .int (iZ ((rn : Nat) : Int)), .ref gO, .ref xO, .ref yO, .int (iZ ((un : Nat) : Int)), .ref dO, .ref zO, .ref wO, .ref mO, .int (iZ ((mn : Nat) : Int)), .ref aO, .ref bO, .int (iZ ((kc : Nat) : Int)), .ref uO, .ref vO, .int (iZ ((hT : Nat) : Int)), .int (iZ ((tu : Nat) : Int)), .int (iZ ((td : Nat) : Int)), .int (iZ ((ta : Nat) : Int)), .int (iZ ((tb : Nat) : Int)), .int (iZ ((tt : Nat) : Int)), .int (iZ ((tk : Nat) : Int)), .int (iZ ((tj : Nat) : Int))])), (sB, .inl (cI, 32, .inl (LI g2)))] 0 0 ⟨hx, hb, hml, hown, hts⟩ (c_X11_small l D cI cJ sA g1 0 (by decide)) (va_cwS 2 hts gX11_sumUp_X11_small rfl rfl rfl (by decide +kernel) ⟨(Nat.le_of_ble_eq_true rfl), (Nat.le_of_ble_eq_true rfl)⟩) hK hP hD hS hA [1] [0, 2] rfl rfl rfl rfl (by decide) rfl hl.1 rfl (Nat.le_of_ble_eq_true rfl) dX11_sumUp_5 ⟨(Nat.le_of_ble_eq_true rfl), (Nat.le_of_ble_eq_true rfl)⟩ (Nat.le_of_ble_eq_true rfl) (Nat.le_of_ble_eq_true rfl) (fun gA H locs hw hP hD hS => ?_)
  try dsimp only at hw
  have hw1 := hw
  have hP : va_P D vwCl [(mz, .inr (10, [.int (iZ ((th : Nat) : Int)), .ref sA, .ref sB, .int (iZ ((rn : Nat) : Int)), .ref gO, .ref xO, .ref yO, .int (iZ ((un : Nat) : Int)), .ref dO, .ref zO, .ref wO, .ref mO, .int (iZ ((mn : Nat) : Int)), .ref aO, .ref bO, .int (iZ ((kc : Nat) : Int)), .ref uO, .ref vO, .int (iZ ((hT : Nat) : Int)), .int (iZ ((tu : Nat) : Int)), .int (iZ ((td : Nat) : Int)), .int (iZ ((ta : Nat) : Int)), .int (iZ ((tb : Nat) : Int)), .int (iZ ((tt : Nat) : Int)), .int (iZ ((tk : Nat) : Int)), .int (iZ ((tj : Nat) : Int))])), (sB, .inl (cI, 32, .inl (LI g2))), (sA, .inl (cI, 32, .inl (LI gA)))] H := hP
  have hD : va_D A [(mz, .inr (10, [.int (iZ ((th : Nat) : Int)), .ref sA, .ref sB, .int (iZ ((rn : Nat) : Int)), .ref gO, .ref xO, .ref yO, .int (iZ ((un : Nat) : Int)), .ref dO, .ref zO, .ref wO, .ref mO, .int (iZ ((mn : Nat) : Int)), .ref aO, .ref bO, .int (iZ ((kc : Nat) : Int)), .ref uO, .ref vO, .int (iZ ((hT : Nat) : Int)), .int (iZ ((tu : Nat) : Int)), .int (iZ ((td : Nat) : Int)), .int (iZ ((ta : Nat) : Int)), .int (iZ ((tb : Nat) : Int)), .int (iZ ((tt : Nat) : Int)), .int (iZ ((tk : Nat) : Int)), .int (iZ ((tj : Nat) : Int))])), (sB, .inl (cI, 32, .inl (LI g2))), (sA, .inl (cI, 32, .inl (LI gA)))] := hD
  rcases (show side = 0 ∨ side = 1 by omega) with rfl | rfl
  · refine lv_iload hx hb dX11_sumUp_8 (lv_at hl 5 rfl) ?_
    refine zb_if_ne (x := ((0 : Nat) : Int)) (tgt := 17) hx hb dX11_sumUp_10 (by decide) ⟨by decide, by decide⟩ (fun c_10 => ?_) (fun c_10 => ?_)
    · exact absurd c_10 (by decide)
    · refine lv_iload_n hx hb dX11_sumUp_13 rfl (lv_at hl 2 rfl) ?_
      refine lv_goto (tgt := 18) hx hb dX11_sumUp_14 (by decide) ?_
      refine lv_istore (lv' := [(6, .int (iZ ((k : Nat) : Int))), (0, .ref mz), (1, .int (iZ ((n : Nat) : Int))), (2, .int (iZ ((k : Nat) : Int))), (3, .int (iZ ((up : Nat) : Int))), (4, .int (iZ ((down : Nat) : Int))), (5, .int (iZ ((0 : Nat) : Int)))]) hx hb dX11_sumUp_18 hl (by decide) rfl (fun ls hl => ?_)
      refine lv_iload hx hb dX11_sumUp_20 (lv_at hl 6 rfl) ?_
      refine zb_if_ne (x := ((0 : Nat) : Int)) (tgt := 29) hx hb dX11_sumUp_22 (by decide) ⟨by decide, by decide⟩ (fun c_22 => ?_) (fun c_22 => ?_)
      · exact absurd c_22 (by decide)
      · refine lv_iload_n hx hb dX11_sumUp_25 rfl (lv_at hl 2 rfl) ?_
        refine lv_goto (tgt := 30) hx hb dX11_sumUp_26 (by decide) ?_
        refine lv_istore (lv' := [(7, .int (iZ ((n : Nat) : Int))), (6, .int (iZ ((k : Nat) : Int))), (0, .ref mz), (1, .int (iZ ((n : Nat) : Int))), (2, .int (iZ ((k : Nat) : Int))), (3, .int (iZ ((up : Nat) : Int))), (4, .int (iZ ((down : Nat) : Int))), (5, .int (iZ ((0 : Nat) : Int)))]) hx hb dX11_sumUp_30 hl (by decide) rfl (fun ls hl => ?_)
        refine lv_iload hx hb dX11_sumUp_32 (lv_at hl 1 rfl) ?_
        refine lv_istore (lv' := [(8, .int (iZ ((k : Nat) : Int))), (7, .int (iZ ((n : Nat) : Int))), (6, .int (iZ ((k : Nat) : Int))), (0, .ref mz), (1, .int (iZ ((n : Nat) : Int))), (2, .int (iZ ((k : Nat) : Int))), (3, .int (iZ ((up : Nat) : Int))), (4, .int (iZ ((down : Nat) : Int))), (5, .int (iZ ((0 : Nat) : Int)))]) hx hb dX11_sumUp_34 hl (by decide) rfl (fun ls hl => ?_)
        have pt_36 : ∀ f : Nat, ∀ (i : Nat) (g1 g2 : Nat → Nat), (hi1 : k ≤ i) → (hi2 : i ≤ n + 1) → (hI : mo g1 (tmS n up (down - up) k (i - k))) → (hf : n + 1 < i + f) → (H : Heap) → (locs : List Loc) → va_P D vwCl [(mz, .inr (10, [.int (iZ ((th : Nat) : Int)), .ref sA, .ref sB, .int (iZ ((rn : Nat) : Int)), .ref gO, .ref xO, .ref yO, .int (iZ ((un : Nat) : Int)), .ref dO, .ref zO, .ref wO, .ref mO, .int (iZ ((mn : Nat) : Int)), .ref aO, .ref bO, .int (iZ ((kc : Nat) : Int)), .ref uO, .ref vO, .int (iZ ((hT : Nat) : Int)), .int (iZ ((tu : Nat) : Int)), .int (iZ ((td : Nat) : Int)), .int (iZ ((ta : Nat) : Int)), .int (iZ ((tb : Nat) : Int)), .int (iZ ((tt : Nat) : Int)), .int (iZ ((tk : Nat) : Int)), .int (iZ ((tj : Nat) : Int))])), (sA, .inl (cI, 32, .inl (LI g1))), (sB, .inl (cI, 32, .inl (LI g2)))] H → va_D A [(mz, .inr (10, [.int (iZ ((th : Nat) : Int)), .ref sA, .ref sB, .int (iZ ((rn : Nat) : Int)), .ref gO, .ref xO, .ref yO, .int (iZ ((un : Nat) : Int)), .ref dO, .ref zO, .ref wO, .ref mO, .int (iZ ((mn : Nat) : Int)), .ref aO, .ref bO, .int (iZ ((kc : Nat) : Int)), .ref uO, .ref vO, .int (iZ ((hT : Nat) : Int)), .int (iZ ((tu : Nat) : Int)), .int (iZ ((td : Nat) : Int)), .int (iZ ((ta : Nat) : Int)), .int (iZ ((tb : Nat) : Int)), .int (iZ ((tt : Nat) : Int)), .int (iZ ((tk : Nat) : Int)), .int (iZ ((tj : Nat) : Int))])), (sA, .inl (cI, 32, .inl (LI g1))), (sB, .inl (cI, 32, .inl (LI g2)))] → va_S A s.heap H locs → (ls : Array Slot) → lv_has ls 9 [(8, .int (iZ ((i : Nat) : Int))), (7, .int (iZ ((n : Nat) : Int))), (6, .int (iZ ((k : Nat) : Int))), (5, .int (iZ ((0 : Nat) : Int))), (0, .ref mz), (1, .int (iZ ((n : Nat) : Int))), (2, .int (iZ ((k : Nat) : Int))), (3, .int (iZ ((up : Nat) : Int))), (4, .int (iZ ((down : Nat) : Int)))] → W p l e rmX11_sumUp s m args below meth c H locs 0 0 Q (F0 m 36 ls []) := by
          intro f
          induction f with
          | zero =>
            intro i g1 g2 hi1 hi2 hI hf H locs hP hD hS ls hl
            exfalso; omega
          | succ f ih_36 =>
            intro i g1 g2 hi1 hi2 hI hf H locs hP hD hS ls hl
            refine lv_iload hx hb dX11_sumUp_36 (lv_at hl 0 rfl) ?_
            refine lv_iload hx hb dX11_sumUp_38 (lv_at hl 1 rfl) ?_
            refine zb_icmp_gt (x := ((i : Nat) : Int)) (y := ((n : Nat) : Int)) (tgt := 75) hx hb dX11_sumUp_40 (by decide) ⟨by omega, by omega⟩ ⟨by omega, by omega⟩ (fun c_40 => ?_) (fun c_40 => ?_)
            · exact hret (g1, g2) _ _ _ _ _ _ (Nat.le_of_ble_eq_true rfl) (Nat.le_of_ble_eq_true rfl) dX11_sumUp_75 (by rw [habv_0 hk]; have e9 : i = n + 1 := (by omega); rw [e9] at hI; rw [show n + 1 - k = n - k + 1 by omega] at hI; exact hI) hP hD hS
            · refine lv_aload_n hx hb dX11_sumUp_43 rfl (lv_at hl 4 rfl) ?_
              refine va_get (D := D) (ci := 10) (v := .ref sB) (C := RX11) (T := TX11) (N := 26) hx hb hts hh_1 hown hK hP 0 rfl rfl 2 (by decide) hh_2 (fun _ h9 => h9) rfl dX11_sumUp_44 ?_
              refine lv_iload_n hx hb dX11_sumUp_47 rfl (lv_at hl 5 rfl) ?_
              refine lv_iload hx hb dX11_sumUp_48 (lv_at hl 0 rfl) ?_
              refine lv_iload_n hx hb dX11_sumUp_50 rfl (lv_at hl 7 rfl) ?_
              refine lv_iload hx hb dX11_sumUp_51 (lv_at hl 8 rfl) ?_
              refine lv_iload_n hx hb dX11_sumUp_53 rfl (lv_at hl 7 rfl) ?_
              refine zi_sub (z := ((down - up : Nat) : Int)) hx hb dX11_sumUp_54 (by omega) ?_
              refine ca_vS [.ref sB, .int (iZ ((n : Nat) : Int)), .int (iZ ((i : Nat) : Int)), .int (iZ ((up : Nat) : Int)), .int (iZ ((down - up : Nat) : Int))] [] [(mz, .inr (10, [.int (iZ ((th : Nat) : Int)), .ref sA, .ref sB, .int (iZ ((rn : Nat) : Int)), .ref gO, .ref xO, .ref yO, .int (iZ ((un : Nat) : Int)), .ref dO, .ref zO, .ref wO, .ref mO, .int (iZ ((mn : Nat) : Int)), .ref aO, .ref bO, .int (iZ ((kc : Nat) : Int)), .ref uO, .ref vO, .int (iZ ((hT : Nat) : Int)), .int (iZ ((tu : Nat) : Int)), .int (iZ ((td : Nat) : Int)), .int (iZ ((ta : Nat) : Int)), .int (iZ ((tb : Nat) : Int)), .int (iZ ((tt : Nat) : Int)), .int (iZ ((tk : Nat) : Int)), .int (iZ ((tj : Nat) : Int))])), (sA, .inl (cI, 32, .inl (LI g1)))] 0 0 ⟨hx, hb, hml, hown, hts⟩ (c_X11_term l D cI cJ sB g2 n i up (down - up) 1000 (by omega) (by omega) (p1000 hn) (by decide) (by decide) (by omega) (by omega)) (va_cwS 5 hts gX11_sumUp_X11_term rfl rfl rfl (by decide +kernel) ⟨(Nat.le_of_ble_eq_true rfl), (Nat.le_of_ble_eq_true rfl)⟩) hK hP hD hS hA [2] [0, 1] rfl rfl rfl rfl (by decide) rfl hl.1 rfl (Nat.le_of_ble_eq_true rfl) dX11_sumUp_55 ⟨(Nat.le_of_ble_eq_true rfl), (Nat.le_of_ble_eq_true rfl)⟩ (Nat.le_of_ble_eq_true rfl) (Nat.le_of_ble_eq_true rfl) (fun gB H locs hw hP hD hS => ?_)
              try dsimp only at hw
              have hw2 := hw
              have hP : va_P D vwCl [(mz, .inr (10, [.int (iZ ((th : Nat) : Int)), .ref sA, .ref sB, .int (iZ ((rn : Nat) : Int)), .ref gO, .ref xO, .ref yO, .int (iZ ((un : Nat) : Int)), .ref dO, .ref zO, .ref wO, .ref mO, .int (iZ ((mn : Nat) : Int)), .ref aO, .ref bO, .int (iZ ((kc : Nat) : Int)), .ref uO, .ref vO, .int (iZ ((hT : Nat) : Int)), .int (iZ ((tu : Nat) : Int)), .int (iZ ((td : Nat) : Int)), .int (iZ ((ta : Nat) : Int)), .int (iZ ((tb : Nat) : Int)), .int (iZ ((tt : Nat) : Int)), .int (iZ ((tk : Nat) : Int)), .int (iZ ((tj : Nat) : Int))])), (sA, .inl (cI, 32, .inl (LI g1))), (sB, .inl (cI, 32, .inl (LI gB)))] H := hP
              have hD : va_D A [(mz, .inr (10, [.int (iZ ((th : Nat) : Int)), .ref sA, .ref sB, .int (iZ ((rn : Nat) : Int)), .ref gO, .ref xO, .ref yO, .int (iZ ((un : Nat) : Int)), .ref dO, .ref zO, .ref wO, .ref mO, .int (iZ ((mn : Nat) : Int)), .ref aO, .ref bO, .int (iZ ((kc : Nat) : Int)), .ref uO, .ref vO, .int (iZ ((hT : Nat) : Int)), .int (iZ ((tu : Nat) : Int)), .int (iZ ((td : Nat) : Int)), .int (iZ ((ta : Nat) : Int)), .int (iZ ((tb : Nat) : Int)), .int (iZ ((tt : Nat) : Int)), .int (iZ ((tk : Nat) : Int)), .int (iZ ((tj : Nat) : Int))])), (sA, .inl (cI, 32, .inl (LI g1))), (sB, .inl (cI, 32, .inl (LI gB)))] := hD
              refine lv_aload_n hx hb dX11_sumUp_58 rfl (lv_at hl 4 rfl) ?_
              refine va_get (D := D) (ci := 10) (v := .ref sA) (C := RX11) (T := TX11) (N := 26) hx hb hts hh_1 hown hK hP 0 rfl rfl 1 (by decide) hh_0 (fun _ h9 => h9) rfl dX11_sumUp_59 ?_
              refine lv_aload_n hx hb dX11_sumUp_62 rfl (lv_at hl 4 rfl) ?_
              refine va_get (D := D) (ci := 10) (v := .ref sB) (C := RX11) (T := TX11) (N := 26) hx hb hts hh_1 hown hK hP 0 rfl rfl 2 (by decide) hh_2 (fun _ h9 => h9) rfl dX11_sumUp_63 ?_
              refine ca_vS [.ref sA, .ref sB] [] [(mz, .inr (10, [.int (iZ ((th : Nat) : Int)), .ref sA, .ref sB, .int (iZ ((rn : Nat) : Int)), .ref gO, .ref xO, .ref yO, .int (iZ ((un : Nat) : Int)), .ref dO, .ref zO, .ref wO, .ref mO, .int (iZ ((mn : Nat) : Int)), .ref aO, .ref bO, .int (iZ ((kc : Nat) : Int)), .ref uO, .ref vO, .int (iZ ((hT : Nat) : Int)), .int (iZ ((tu : Nat) : Int)), .int (iZ ((td : Nat) : Int)), .int (iZ ((ta : Nat) : Int)), .int (iZ ((tb : Nat) : Int)), .int (iZ ((tt : Nat) : Int)), .int (iZ ((tk : Nat) : Int)), .int (iZ ((tj : Nat) : Int))]))] 0 0 ⟨hx, hb, hml, hown, hts⟩ (c_X11_plus l D cI cJ sA sB g1 gB (tmS n up (down - up) k (i - k)) (tm n up (down - up) i) hI hw2 (by have h8 := tmS_b (n := n) (a := up) (b := down - up) (s := k) (c := i - k) hn (by omega) (by omega); rw [show k + (i - k) = i by omega] at h8; exact h8)) (va_cwS 2 hts gX11_sumUp_X11_plus rfl rfl rfl (by decide +kernel) ⟨(Nat.le_of_ble_eq_true rfl), (Nat.le_of_ble_eq_true rfl)⟩) hK hP hD hS hA [1, 2] [0] rfl rfl rfl rfl (by decide) rfl hl.1 rfl (Nat.le_of_ble_eq_true rfl) dX11_sumUp_66 ⟨(Nat.le_of_ble_eq_true rfl), (Nat.le_of_ble_eq_true rfl)⟩ (Nat.le_of_ble_eq_true rfl) (Nat.le_of_ble_eq_true rfl) (fun gC H locs hw hP hD hS => ?_)
              try dsimp only at hw
              have hw3 := hw
              have hP : va_P D vwCl [(mz, .inr (10, [.int (iZ ((th : Nat) : Int)), .ref sA, .ref sB, .int (iZ ((rn : Nat) : Int)), .ref gO, .ref xO, .ref yO, .int (iZ ((un : Nat) : Int)), .ref dO, .ref zO, .ref wO, .ref mO, .int (iZ ((mn : Nat) : Int)), .ref aO, .ref bO, .int (iZ ((kc : Nat) : Int)), .ref uO, .ref vO, .int (iZ ((hT : Nat) : Int)), .int (iZ ((tu : Nat) : Int)), .int (iZ ((td : Nat) : Int)), .int (iZ ((ta : Nat) : Int)), .int (iZ ((tb : Nat) : Int)), .int (iZ ((tt : Nat) : Int)), .int (iZ ((tk : Nat) : Int)), .int (iZ ((tj : Nat) : Int))])), (sA, .inl (cI, 32, .inl (LI gC))), (sB, .inl (cI, 32, .inl (LI gB)))] H := hP
              have hD : va_D A [(mz, .inr (10, [.int (iZ ((th : Nat) : Int)), .ref sA, .ref sB, .int (iZ ((rn : Nat) : Int)), .ref gO, .ref xO, .ref yO, .int (iZ ((un : Nat) : Int)), .ref dO, .ref zO, .ref wO, .ref mO, .int (iZ ((mn : Nat) : Int)), .ref aO, .ref bO, .int (iZ ((kc : Nat) : Int)), .ref uO, .ref vO, .int (iZ ((hT : Nat) : Int)), .int (iZ ((tu : Nat) : Int)), .int (iZ ((td : Nat) : Int)), .int (iZ ((ta : Nat) : Int)), .int (iZ ((tb : Nat) : Int)), .int (iZ ((tt : Nat) : Int)), .int (iZ ((tk : Nat) : Int)), .int (iZ ((tj : Nat) : Int))])), (sA, .inl (cI, 32, .inl (LI gC))), (sB, .inl (cI, 32, .inl (LI gB)))] := hD
              refine lv_iinc (v := iZ ((i + 1 : Nat) : Int)) (lv' := [(8, .int (iZ ((i + 1 : Nat) : Int))), (7, .int (iZ ((n : Nat) : Int))), (6, .int (iZ ((k : Nat) : Int))), (5, .int (iZ ((0 : Nat) : Int))), (0, .ref mz), (1, .int (iZ ((n : Nat) : Int))), (2, .int (iZ ((k : Nat) : Int))), (3, .int (iZ ((up : Nat) : Int))), (4, .int (iZ ((down : Nat) : Int)))]) hx hb dX11_sumUp_69 hl (k := 0) rfl (zi_inc (by omega)) (by decide) rfl (fun ls hl => ?_)
              refine lv_goto (tgt := 36) hx hb dX11_sumUp_72 (by decide) ?_
              exact ih_36 (i + 1) _ _ (by omega) (by omega) (by rw [show i + 1 - k = (i - k) + 1 by omega, tmS_s, show k + (i - k) = i by omega]; exact hw3) (by omega) _ _ hP hD hS ls (lv_sub hl [0, 1, 2, 3, 4, 5, 6, 7, 8] rfl)
        exact pt_36 (n + 2) k _ _ (by omega) (by omega) (by rw [show k - k = 0 by omega]; exact hw1) (by omega) _ _ (hP.sub [0, 2, 1] rfl) (hD.sub [0, 2, 1] rfl rfl) hS ls (lv_sub hl [0, 1, 2, 8, 3, 4, 5, 6, 7] rfl)
  · refine lv_iload hx hb dX11_sumUp_8 (lv_at hl 5 rfl) ?_
    refine zb_if_ne (x := ((1 : Nat) : Int)) (tgt := 17) hx hb dX11_sumUp_10 (by decide) ⟨by decide, by decide⟩ (fun c_10 => ?_) (fun c_10 => ?_)
    · refine zc_iconst (z := ((0 : Nat) : Int)) hx hb dX11_sumUp_17 (by decide) ?_
      refine lv_istore (lv' := [(6, .int (iZ ((0 : Nat) : Int))), (0, .ref mz), (1, .int (iZ ((n : Nat) : Int))), (2, .int (iZ ((k : Nat) : Int))), (3, .int (iZ ((up : Nat) : Int))), (4, .int (iZ ((down : Nat) : Int))), (5, .int (iZ ((1 : Nat) : Int)))]) hx hb dX11_sumUp_18 hl (by decide) rfl (fun ls hl => ?_)
      refine lv_iload hx hb dX11_sumUp_20 (lv_at hl 6 rfl) ?_
      refine zb_if_ne (x := ((1 : Nat) : Int)) (tgt := 29) hx hb dX11_sumUp_22 (by decide) ⟨by decide, by decide⟩ (fun c_22 => ?_) (fun c_22 => ?_)
      · refine lv_iload_n hx hb dX11_sumUp_29 rfl (lv_at hl 3 rfl) ?_
        refine lv_istore (lv' := [(7, .int (iZ ((k : Nat) : Int))), (6, .int (iZ ((0 : Nat) : Int))), (0, .ref mz), (1, .int (iZ ((n : Nat) : Int))), (2, .int (iZ ((k : Nat) : Int))), (3, .int (iZ ((up : Nat) : Int))), (4, .int (iZ ((down : Nat) : Int))), (5, .int (iZ ((1 : Nat) : Int)))]) hx hb dX11_sumUp_30 hl (by decide) rfl (fun ls hl => ?_)
        refine lv_iload hx hb dX11_sumUp_32 (lv_at hl 1 rfl) ?_
        refine lv_istore (lv' := [(8, .int (iZ ((0 : Nat) : Int))), (7, .int (iZ ((k : Nat) : Int))), (6, .int (iZ ((0 : Nat) : Int))), (0, .ref mz), (1, .int (iZ ((n : Nat) : Int))), (2, .int (iZ ((k : Nat) : Int))), (3, .int (iZ ((up : Nat) : Int))), (4, .int (iZ ((down : Nat) : Int))), (5, .int (iZ ((1 : Nat) : Int)))]) hx hb dX11_sumUp_34 hl (by decide) rfl (fun ls hl => ?_)
        have pt_36 : ∀ f : Nat, ∀ (i : Nat) (g1 g2 : Nat → Nat), (hi1 : 0 ≤ i) → (hi2 : i ≤ k + 1) → (hI : mo g1 (tmS n up (down - up) 0 (i - 0))) → (hf : k + 1 < i + f) → (H : Heap) → (locs : List Loc) → va_P D vwCl [(mz, .inr (10, [.int (iZ ((th : Nat) : Int)), .ref sA, .ref sB, .int (iZ ((rn : Nat) : Int)), .ref gO, .ref xO, .ref yO, .int (iZ ((un : Nat) : Int)), .ref dO, .ref zO, .ref wO, .ref mO, .int (iZ ((mn : Nat) : Int)), .ref aO, .ref bO, .int (iZ ((kc : Nat) : Int)), .ref uO, .ref vO, .int (iZ ((hT : Nat) : Int)), .int (iZ ((tu : Nat) : Int)), .int (iZ ((td : Nat) : Int)), .int (iZ ((ta : Nat) : Int)), .int (iZ ((tb : Nat) : Int)), .int (iZ ((tt : Nat) : Int)), .int (iZ ((tk : Nat) : Int)), .int (iZ ((tj : Nat) : Int))])), (sA, .inl (cI, 32, .inl (LI g1))), (sB, .inl (cI, 32, .inl (LI g2)))] H → va_D A [(mz, .inr (10, [.int (iZ ((th : Nat) : Int)), .ref sA, .ref sB, .int (iZ ((rn : Nat) : Int)), .ref gO, .ref xO, .ref yO, .int (iZ ((un : Nat) : Int)), .ref dO, .ref zO, .ref wO, .ref mO, .int (iZ ((mn : Nat) : Int)), .ref aO, .ref bO, .int (iZ ((kc : Nat) : Int)), .ref uO, .ref vO, .int (iZ ((hT : Nat) : Int)), .int (iZ ((tu : Nat) : Int)), .int (iZ ((td : Nat) : Int)), .int (iZ ((ta : Nat) : Int)), .int (iZ ((tb : Nat) : Int)), .int (iZ ((tt : Nat) : Int)), .int (iZ ((tk : Nat) : Int)), .int (iZ ((tj : Nat) : Int))])), (sA, .inl (cI, 32, .inl (LI g1))), (sB, .inl (cI, 32, .inl (LI g2)))] → va_S A s.heap H locs → (ls : Array Slot) → lv_has ls 9 [(8, .int (iZ ((i : Nat) : Int))), (7, .int (iZ ((k : Nat) : Int))), (6, .int (iZ ((0 : Nat) : Int))), (5, .int (iZ ((1 : Nat) : Int))), (0, .ref mz), (1, .int (iZ ((n : Nat) : Int))), (2, .int (iZ ((k : Nat) : Int))), (3, .int (iZ ((up : Nat) : Int))), (4, .int (iZ ((down : Nat) : Int)))] → W p l e rmX11_sumUp s m args below meth c H locs 0 0 Q (F0 m 36 ls []) := by
          intro f
          induction f with
          | zero =>
            intro i g1 g2 hi1 hi2 hI hf H locs hP hD hS ls hl
            exfalso; omega
          | succ f ih_36 =>
            intro i g1 g2 hi1 hi2 hI hf H locs hP hD hS ls hl
            refine lv_iload hx hb dX11_sumUp_36 (lv_at hl 0 rfl) ?_
            refine lv_iload hx hb dX11_sumUp_38 (lv_at hl 1 rfl) ?_
            refine zb_icmp_gt (x := ((i : Nat) : Int)) (y := ((k : Nat) : Int)) (tgt := 75) hx hb dX11_sumUp_40 (by decide) ⟨by omega, by omega⟩ ⟨by omega, by omega⟩ (fun c_40 => ?_) (fun c_40 => ?_)
            · exact hret (g1, g2) _ _ _ _ _ _ (Nat.le_of_ble_eq_true rfl) (Nat.le_of_ble_eq_true rfl) dX11_sumUp_75 (by rw [habv_1 hk]; have e9 : i = k + 1 := (by omega); rw [e9] at hI; exact hI) hP hD hS
            · refine lv_aload_n hx hb dX11_sumUp_43 rfl (lv_at hl 4 rfl) ?_
              refine va_get (D := D) (ci := 10) (v := .ref sB) (C := RX11) (T := TX11) (N := 26) hx hb hts hh_1 hown hK hP 0 rfl rfl 2 (by decide) hh_2 (fun _ h9 => h9) rfl dX11_sumUp_44 ?_
              refine lv_iload_n hx hb dX11_sumUp_47 rfl (lv_at hl 5 rfl) ?_
              refine lv_iload hx hb dX11_sumUp_48 (lv_at hl 0 rfl) ?_
              refine lv_iload_n hx hb dX11_sumUp_50 rfl (lv_at hl 7 rfl) ?_
              refine lv_iload hx hb dX11_sumUp_51 (lv_at hl 8 rfl) ?_
              refine lv_iload_n hx hb dX11_sumUp_53 rfl (lv_at hl 7 rfl) ?_
              refine zi_sub (z := ((down - up : Nat) : Int)) hx hb dX11_sumUp_54 (by omega) ?_
              refine ca_vS [.ref sB, .int (iZ ((n : Nat) : Int)), .int (iZ ((i : Nat) : Int)), .int (iZ ((up : Nat) : Int)), .int (iZ ((down - up : Nat) : Int))] [] [(mz, .inr (10, [.int (iZ ((th : Nat) : Int)), .ref sA, .ref sB, .int (iZ ((rn : Nat) : Int)), .ref gO, .ref xO, .ref yO, .int (iZ ((un : Nat) : Int)), .ref dO, .ref zO, .ref wO, .ref mO, .int (iZ ((mn : Nat) : Int)), .ref aO, .ref bO, .int (iZ ((kc : Nat) : Int)), .ref uO, .ref vO, .int (iZ ((hT : Nat) : Int)), .int (iZ ((tu : Nat) : Int)), .int (iZ ((td : Nat) : Int)), .int (iZ ((ta : Nat) : Int)), .int (iZ ((tb : Nat) : Int)), .int (iZ ((tt : Nat) : Int)), .int (iZ ((tk : Nat) : Int)), .int (iZ ((tj : Nat) : Int))])), (sA, .inl (cI, 32, .inl (LI g1)))] 0 0 ⟨hx, hb, hml, hown, hts⟩ (c_X11_term l D cI cJ sB g2 n i up (down - up) 1000 (by omega) (by omega) (p1000 hn) (by decide) (by decide) (by omega) (by omega)) (va_cwS 5 hts gX11_sumUp_X11_term rfl rfl rfl (by decide +kernel) ⟨(Nat.le_of_ble_eq_true rfl), (Nat.le_of_ble_eq_true rfl)⟩) hK hP hD hS hA [2] [0, 1] rfl rfl rfl rfl (by decide) rfl hl.1 rfl (Nat.le_of_ble_eq_true rfl) dX11_sumUp_55 ⟨(Nat.le_of_ble_eq_true rfl), (Nat.le_of_ble_eq_true rfl)⟩ (Nat.le_of_ble_eq_true rfl) (Nat.le_of_ble_eq_true rfl) (fun gB H locs hw hP hD hS => ?_)
              try dsimp only at hw
              have hw2 := hw
              have hP : va_P D vwCl [(mz, .inr (10, [.int (iZ ((th : Nat) : Int)), .ref sA, .ref sB, .int (iZ ((rn : Nat) : Int)), .ref gO, .ref xO, .ref yO, .int (iZ ((un : Nat) : Int)), .ref dO, .ref zO, .ref wO, .ref mO, .int (iZ ((mn : Nat) : Int)), .ref aO, .ref bO, .int (iZ ((kc : Nat) : Int)), .ref uO, .ref vO, .int (iZ ((hT : Nat) : Int)), .int (iZ ((tu : Nat) : Int)), .int (iZ ((td : Nat) : Int)), .int (iZ ((ta : Nat) : Int)), .int (iZ ((tb : Nat) : Int)), .int (iZ ((tt : Nat) : Int)), .int (iZ ((tk : Nat) : Int)), .int (iZ ((tj : Nat) : Int))])), (sA, .inl (cI, 32, .inl (LI g1))), (sB, .inl (cI, 32, .inl (LI gB)))] H := hP
              have hD : va_D A [(mz, .inr (10, [.int (iZ ((th : Nat) : Int)), .ref sA, .ref sB, .int (iZ ((rn : Nat) : Int)), .ref gO, .ref xO, .ref yO, .int (iZ ((un : Nat) : Int)), .ref dO, .ref zO, .ref wO, .ref mO, .int (iZ ((mn : Nat) : Int)), .ref aO, .ref bO, .int (iZ ((kc : Nat) : Int)), .ref uO, .ref vO, .int (iZ ((hT : Nat) : Int)), .int (iZ ((tu : Nat) : Int)), .int (iZ ((td : Nat) : Int)), .int (iZ ((ta : Nat) : Int)), .int (iZ ((tb : Nat) : Int)), .int (iZ ((tt : Nat) : Int)), .int (iZ ((tk : Nat) : Int)), .int (iZ ((tj : Nat) : Int))])), (sA, .inl (cI, 32, .inl (LI g1))), (sB, .inl (cI, 32, .inl (LI gB)))] := hD
              refine lv_aload_n hx hb dX11_sumUp_58 rfl (lv_at hl 4 rfl) ?_
              refine va_get (D := D) (ci := 10) (v := .ref sA) (C := RX11) (T := TX11) (N := 26) hx hb hts hh_1 hown hK hP 0 rfl rfl 1 (by decide) hh_0 (fun _ h9 => h9) rfl dX11_sumUp_59 ?_
              refine lv_aload_n hx hb dX11_sumUp_62 rfl (lv_at hl 4 rfl) ?_
              refine va_get (D := D) (ci := 10) (v := .ref sB) (C := RX11) (T := TX11) (N := 26) hx hb hts hh_1 hown hK hP 0 rfl rfl 2 (by decide) hh_2 (fun _ h9 => h9) rfl dX11_sumUp_63 ?_
              refine ca_vS [.ref sA, .ref sB] [] [(mz, .inr (10, [.int (iZ ((th : Nat) : Int)), .ref sA, .ref sB, .int (iZ ((rn : Nat) : Int)), .ref gO, .ref xO, .ref yO, .int (iZ ((un : Nat) : Int)), .ref dO, .ref zO, .ref wO, .ref mO, .int (iZ ((mn : Nat) : Int)), .ref aO, .ref bO, .int (iZ ((kc : Nat) : Int)), .ref uO, .ref vO, .int (iZ ((hT : Nat) : Int)), .int (iZ ((tu : Nat) : Int)), .int (iZ ((td : Nat) : Int)), .int (iZ ((ta : Nat) : Int)), .int (iZ ((tb : Nat) : Int)), .int (iZ ((tt : Nat) : Int)), .int (iZ ((tk : Nat) : Int)), .int (iZ ((tj : Nat) : Int))]))] 0 0 ⟨hx, hb, hml, hown, hts⟩ (c_X11_plus l D cI cJ sA sB g1 gB (tmS n up (down - up) 0 (i - 0)) (tm n up (down - up) i) hI hw2 (by have h8 := tmS_b (n := n) (a := up) (b := down - up) (s := 0) (c := i - 0) hn (by omega) (by omega); rw [show 0 + (i - 0) = i by omega] at h8; exact h8)) (va_cwS 2 hts gX11_sumUp_X11_plus rfl rfl rfl (by decide +kernel) ⟨(Nat.le_of_ble_eq_true rfl), (Nat.le_of_ble_eq_true rfl)⟩) hK hP hD hS hA [1, 2] [0] rfl rfl rfl rfl (by decide) rfl hl.1 rfl (Nat.le_of_ble_eq_true rfl) dX11_sumUp_66 ⟨(Nat.le_of_ble_eq_true rfl), (Nat.le_of_ble_eq_true rfl)⟩ (Nat.le_of_ble_eq_true rfl) (Nat.le_of_ble_eq_true rfl) (fun gC H locs hw hP hD hS => ?_)
              try dsimp only at hw
              have hw3 := hw
              have hP : va_P D vwCl [(mz, .inr (10, [.int (iZ ((th : Nat) : Int)), .ref sA, .ref sB, .int (iZ ((rn : Nat) : Int)), .ref gO, .ref xO, .ref yO, .int (iZ ((un : Nat) : Int)), .ref dO, .ref zO, .ref wO, .ref mO, .int (iZ ((mn : Nat) : Int)), .ref aO, .ref bO, .int (iZ ((kc : Nat) : Int)), .ref uO, .ref vO, .int (iZ ((hT : Nat) : Int)), .int (iZ ((tu : Nat) : Int)), .int (iZ ((td : Nat) : Int)), .int (iZ ((ta : Nat) : Int)), .int (iZ ((tb : Nat) : Int)), .int (iZ ((tt : Nat) : Int)), .int (iZ ((tk : Nat) : Int)), .int (iZ ((tj : Nat) : Int))])), (sA, .inl (cI, 32, .inl (LI gC))), (sB, .inl (cI, 32, .inl (LI gB)))] H := hP
              have hD : va_D A [(mz, .inr (10, [.int (iZ ((th : Nat) : Int)), .ref sA, .ref sB, .int (iZ ((rn : Nat) : Int)), .ref gO, .ref xO, .ref yO, .int (iZ ((un : Nat) : Int)), .ref dO, .ref zO, .ref wO, .ref mO, .int (iZ ((mn : Nat) : Int)), .ref aO, .ref bO, .int (iZ ((kc : Nat) : Int)), .ref uO, .ref vO, .int (iZ ((hT : Nat) : Int)), .int (iZ ((tu : Nat) : Int)), .int (iZ ((td : Nat) : Int)), .int (iZ ((ta : Nat) : Int)), .int (iZ ((tb : Nat) : Int)), .int (iZ ((tt : Nat) : Int)), .int (iZ ((tk : Nat) : Int)), .int (iZ ((tj : Nat) : Int))])), (sA, .inl (cI, 32, .inl (LI gC))), (sB, .inl (cI, 32, .inl (LI gB)))] := hD
              refine lv_iinc (v := iZ ((i + 1 : Nat) : Int)) (lv' := [(8, .int (iZ ((i + 1 : Nat) : Int))), (7, .int (iZ ((k : Nat) : Int))), (6, .int (iZ ((0 : Nat) : Int))), (5, .int (iZ ((1 : Nat) : Int))), (0, .ref mz), (1, .int (iZ ((n : Nat) : Int))), (2, .int (iZ ((k : Nat) : Int))), (3, .int (iZ ((up : Nat) : Int))), (4, .int (iZ ((down : Nat) : Int)))]) hx hb dX11_sumUp_69 hl (k := 0) rfl (zi_inc (by omega)) (by decide) rfl (fun ls hl => ?_)
              refine lv_goto (tgt := 36) hx hb dX11_sumUp_72 (by decide) ?_
              exact ih_36 (i + 1) _ _ (by omega) (by omega) (by rw [show i + 1 - 0 = (i - 0) + 1 by omega, tmS_s, show 0 + (i - 0) = i by omega]; exact hw3) (by omega) _ _ hP hD hS ls (lv_sub hl [0, 1, 2, 3, 4, 5, 6, 7, 8] rfl)
        exact pt_36 (k + 2) 0 _ _ (by omega) (by omega) (by rw [show 0 - 0 = 0 by omega]; exact hw1) (by omega) _ _ (hP.sub [0, 2, 1] rfl) (hD.sub [0, 2, 1] rfl rfl) hS ls (lv_sub hl [0, 1, 2, 8, 3, 4, 5, 6, 7] rfl)
      · exact absurd c_22 (by decide)
    · exact absurd c_10 (by decide)
def rmX11_above : Room := { frames := 3, cells := 0, slots := 0, locals := 78 }
set_option maxHeartbeats 4000000 in
set_option maxRecDepth 100000 in
theorem c_X11_above (l : Launch) (D : va_G) (cI cJ : ClassId) (mz sA sB gO xO yO dO zO wO mO aO bO uO vO : Nat) (th rn un mn kc hT tu td ta tb tt tk tj : Nat) (g1 g2 : Nat → Nat) (zn : Int) (izn : iR zn) (zk : Int) (izk : iR zk) (zu : Int) (izu : iR zu) (zd : Int) (izd : iR zd) (zs : Int) (izs : iR zs) (zi : Int) (izi : iR zi) : Cl l D vwCl (tyT cI cJ) yX11_above wsX11_above rmX11_above [.ref mz, .int (iZ (zn)), .int (iZ (zk)), .int (iZ (zu)), .int (iZ (zd)), .int (iZ (zs)), .int (iZ (zi))] [(mz, .inr (10, [.int (iZ ((th : Nat) : Int)), .ref sA, .ref sB, .int (iZ ((rn : Nat) : Int)), .ref gO, .ref xO, .ref yO, .int (iZ ((un : Nat) : Int)), .ref dO, .ref zO, .ref wO, .ref mO, .int (iZ ((mn : Nat) : Int)), .ref aO, .ref bO, .int (iZ ((kc : Nat) : Int)), .ref uO, .ref vO, .int (iZ ((hT : Nat) : Int)), .int (iZ ((tu : Nat) : Int)), .int (iZ ((td : Nat) : Int)), .int (iZ ((ta : Nat) : Int)), .int (iZ ((tb : Nat) : Int)), .int (iZ ((tt : Nat) : Int)), .int (iZ ((tk : Nat) : Int)), .int (iZ ((tj : Nat) : Int))])), (sA, .inl (cI, 32, .inl (LI g1))), (sB, .inl (cI, 32, .inl (LI g2)))] ((Nat → Nat) × (Nat → Nat)) (fun r _ => sAbove zn zk zu zd zs zi r) (fun r => [(mz, .inr (10, [.int (iZ ((0 : Nat) : Int)), .ref sA, .ref sB, .int (iZ ((rn : Nat) : Int)), .ref gO, .ref xO, .ref yO, .int (iZ ((un : Nat) : Int)), .ref dO, .ref zO, .ref wO, .ref mO, .int (iZ ((mn : Nat) : Int)), .ref aO, .ref bO, .int (iZ ((kc : Nat) : Int)), .ref uO, .ref vO, .int (iZ ((hT : Nat) : Int)), .int (iZ ((tu : Nat) : Int)), .int (iZ ((td : Nat) : Int)), .int (iZ ((ta : Nat) : Int)), .int (iZ ((tb : Nat) : Int)), .int (iZ ((tt : Nat) : Int)), .int (iZ ((tk : Nat) : Int)), .int (iZ ((tj : Nat) : Int))])), (sA, .inl (cI, 32, .inl (LI r.1))), (sB, .inl (cI, 32, .inl (LI r.2)))]) := by
  refine en_l (cc := cX11_above) (maxL := 7) (by decide) rfl [(0, .ref mz), (1, .int (iZ (zn))), (2, .int (iZ (zk))), (3, .int (iZ (zu))), (4, .int (iZ (zd))), (5, .int (iZ (zs))), (6, .int (iZ (zi)))] (Nat.le_of_ble_eq_true rfl) rfl ?_
  intro p e s m args below meth c Q A hx hb hml hown hts hnm hK hP hD hA hS hret ls hl
  have hh_0 := hts (.fieldLink RX11 50 "BoundDrawsModel" "thrown" "I") (by decide +kernel)
  have hh_1 := (show ∀ w ∈ wsX110, w ∈ wsX11_above by decide +kernel)
  have hh_2 := hts (.constantLong RX11 90 (-1)) (by decide +kernel)
  have hh_3 := hts (.constantLong RX11 88 (10)) (by decide +kernel)
  have hh_4 := hts (.fieldLink RX11 7 "BoundDrawsModel" "sum" "[I") (by decide +kernel)
  refine lv_aload_n hx hb dX11_above_0 rfl (lv_at hl 0 rfl) ?_
  refine zc_iconst (z := ((0 : Nat) : Int)) hx hb dX11_above_1 (by decide) ?_
  refine va_put (D := D) (ci := 10) (v := .int (iZ ((0 : Nat) : Int))) (ty := .int) (C := RX11) (T := TX11) (N := 26) hx hb hts hh_1 tyX11 tyX11_ok nmX11 hown hK hP hD hS 0 rfl rfl 0 (by decide) hh_0 (fun _ h9 => h9) rfl (by decide +kernel) rfl rfl (Nat.le_of_ble_eq_true rfl) dX11_above_2 (fun H locs hP hD hS => ?_)
  have hP : va_P D vwCl [(mz, .inr (10, [.int (iZ ((0 : Nat) : Int)), .ref sA, .ref sB, .int (iZ ((rn : Nat) : Int)), .ref gO, .ref xO, .ref yO, .int (iZ ((un : Nat) : Int)), .ref dO, .ref zO, .ref wO, .ref mO, .int (iZ ((mn : Nat) : Int)), .ref aO, .ref bO, .int (iZ ((kc : Nat) : Int)), .ref uO, .ref vO, .int (iZ ((hT : Nat) : Int)), .int (iZ ((tu : Nat) : Int)), .int (iZ ((td : Nat) : Int)), .int (iZ ((ta : Nat) : Int)), .int (iZ ((tb : Nat) : Int)), .int (iZ ((tt : Nat) : Int)), .int (iZ ((tk : Nat) : Int)), .int (iZ ((tj : Nat) : Int))])), (sA, .inl (cI, 32, .inl (LI g1))), (sB, .inl (cI, 32, .inl (LI g2)))] H := hP
  have hD : va_D A [(mz, .inr (10, [.int (iZ ((0 : Nat) : Int)), .ref sA, .ref sB, .int (iZ ((rn : Nat) : Int)), .ref gO, .ref xO, .ref yO, .int (iZ ((un : Nat) : Int)), .ref dO, .ref zO, .ref wO, .ref mO, .int (iZ ((mn : Nat) : Int)), .ref aO, .ref bO, .int (iZ ((kc : Nat) : Int)), .ref uO, .ref vO, .int (iZ ((hT : Nat) : Int)), .int (iZ ((tu : Nat) : Int)), .int (iZ ((td : Nat) : Int)), .int (iZ ((ta : Nat) : Int)), .int (iZ ((tb : Nat) : Int)), .int (iZ ((tt : Nat) : Int)), .int (iZ ((tk : Nat) : Int)), .int (iZ ((tj : Nat) : Int))])), (sA, .inl (cI, 32, .inl (LI g1))), (sB, .inl (cI, 32, .inl (LI g2)))] := hD
  refine lv_iload_n hx hb dX11_above_5 rfl (lv_at hl 1 rfl) ?_
  refine lv_iload_n hx hb dX11_above_6 rfl (lv_at hl 2 rfl) ?_
  refine lv_iload_n hx hb dX11_above_7 rfl (lv_at hl 3 rfl) ?_
  refine lv_iload hx hb dX11_above_8 (lv_at hl 4 rfl) ?_
  refine lv_iload hx hb dX11_above_10 (lv_at hl 5 rfl) ?_
  refine ca_iS [.int (iZ (zn)), .int (iZ (zk)), .int (iZ (zu)), .int (iZ (zd)), .int (iZ (zs))] [] [(mz, .inr (10, [.int (iZ ((0 : Nat) : Int)), .ref sA, .ref sB, .int (iZ ((rn : Nat) : Int)), .ref gO, .ref xO, .ref yO, .int (iZ ((un : Nat) : Int)), .ref dO, .ref zO, .ref wO, .ref mO, .int (iZ ((mn : Nat) : Int)), .ref aO, .ref bO, .int (iZ ((kc : Nat) : Int)), .ref uO, .ref vO, .int (iZ ((hT : Nat) : Int)), .int (iZ ((tu : Nat) : Int)), .int (iZ ((td : Nat) : Int)), .int (iZ ((ta : Nat) : Int)), .int (iZ ((tb : Nat) : Int)), .int (iZ ((tt : Nat) : Int)), .int (iZ ((tk : Nat) : Int)), .int (iZ ((tj : Nat) : Int))])), (sA, .inl (cI, 32, .inl (LI g1))), (sB, .inl (cI, 32, .inl (LI g2)))] 0 0 ⟨hx, hb, hml, hown, hts⟩ (c_X11_isHits l D cI cJ zn izn zk izk zu izu zd izd zs izs) (va_cwS 5 hts gX11_above_X11_isHits rfl rfl rfl (by decide +kernel) ⟨(Nat.le_of_ble_eq_true rfl), (Nat.le_of_ble_eq_true rfl)⟩) hK hP hD hS hA [] [0, 1, 2] rfl rfl rfl rfl (by decide) rfl hl.1 rfl (Nat.le_of_ble_eq_true rfl) dX11_above_12 ⟨(Nat.le_of_ble_eq_true rfl), (Nat.le_of_ble_eq_true rfl)⟩ (Nat.le_of_ble_eq_true rfl) (Nat.le_of_ble_eq_true rfl) (fun r_12 u9 H locs hw hP hD hS => ?_)
  obtain u9 := u9
  try dsimp only at hw
  obtain ⟨b1, wa1, wb1, wc1⟩ := hw
  have hP : va_P D vwCl [(mz, .inr (10, [.int (iZ ((0 : Nat) : Int)), .ref sA, .ref sB, .int (iZ ((rn : Nat) : Int)), .ref gO, .ref xO, .ref yO, .int (iZ ((un : Nat) : Int)), .ref dO, .ref zO, .ref wO, .ref mO, .int (iZ ((mn : Nat) : Int)), .ref aO, .ref bO, .int (iZ ((kc : Nat) : Int)), .ref uO, .ref vO, .int (iZ ((hT : Nat) : Int)), .int (iZ ((tu : Nat) : Int)), .int (iZ ((td : Nat) : Int)), .int (iZ ((ta : Nat) : Int)), .int (iZ ((tb : Nat) : Int)), .int (iZ ((tt : Nat) : Int)), .int (iZ ((tk : Nat) : Int)), .int (iZ ((tj : Nat) : Int))])), (sA, .inl (cI, 32, .inl (LI g1))), (sB, .inl (cI, 32, .inl (LI g2)))] H := hP
  have hD : va_D A [(mz, .inr (10, [.int (iZ ((0 : Nat) : Int)), .ref sA, .ref sB, .int (iZ ((rn : Nat) : Int)), .ref gO, .ref xO, .ref yO, .int (iZ ((un : Nat) : Int)), .ref dO, .ref zO, .ref wO, .ref mO, .int (iZ ((mn : Nat) : Int)), .ref aO, .ref bO, .int (iZ ((kc : Nat) : Int)), .ref uO, .ref vO, .int (iZ ((hT : Nat) : Int)), .int (iZ ((tu : Nat) : Int)), .int (iZ ((td : Nat) : Int)), .int (iZ ((ta : Nat) : Int)), .int (iZ ((tb : Nat) : Int)), .int (iZ ((tt : Nat) : Int)), .int (iZ ((tk : Nat) : Int)), .int (iZ ((tj : Nat) : Int))])), (sA, .inl (cI, 32, .inl (LI g1))), (sB, .inl (cI, 32, .inl (LI g2)))] := hD
  refine tp_i (y := (iZ (b1))) (wa1) ?_
  refine zb_if_eq (x := (b1)) (tgt := 31) hx hb dX11_above_15 (by decide) ⟨by omega, by omega⟩ (fun c_15 => ?_) (fun c_15 => ?_)
  · have nv1 : ¬ vHits zn zk zu zd zs := fun h9 => absurd (wc1.mpr h9) (by omega)
    clear wc1
    refine lv_ldc2 hx hb hown hh_2 dX11_above_31 (tp_l (y := lZ (-1 : Int)) (by decide) ?_)
    exact hret _ (g1, g2) _ _ _ _ _ _ (Nat.le_of_ble_eq_true rfl) (Nat.le_of_ble_eq_true rfl) dX11_above_34 (by first | exact ⟨fun h9 => absurd h9.1 nv1, fun _ => rfl⟩ | exact ⟨fun h9 => absurd h9.2 (by omega), fun _ => rfl⟩) hP hD hS
  · have hv1 : vHits zn zk zu zd zs := wc1.mp (by omega)
    clear wc1
    obtain ⟨⟨v1, v2⟩, ⟨v3, v4⟩, ⟨v5, v6⟩, ⟨v7, v8⟩, v9⟩ := hv1
    refine lv_iload hx hb dX11_above_18 (lv_at hl 6 rfl) ?_
    refine z_i2l (z := (zi)) hx hb dX11_above_20 ⟨by omega, by omega⟩ rfl ?_
    refine zc_lconst (z := ((0 : Nat) : Int)) hx hb dX11_above_21 (by decide) ?_
    refine lv_ldc2 hx hb hown hh_3 dX11_above_22 (tp_l (y := lZ ((10 : Nat) : Int)) (by decide) ?_)
    refine ca_iS [.long (lZ (zi)), .long (lZ ((0 : Nat) : Int)), .long (lZ ((10 : Nat) : Int))] [] [(mz, .inr (10, [.int (iZ ((0 : Nat) : Int)), .ref sA, .ref sB, .int (iZ ((rn : Nat) : Int)), .ref gO, .ref xO, .ref yO, .int (iZ ((un : Nat) : Int)), .ref dO, .ref zO, .ref wO, .ref mO, .int (iZ ((mn : Nat) : Int)), .ref aO, .ref bO, .int (iZ ((kc : Nat) : Int)), .ref uO, .ref vO, .int (iZ ((hT : Nat) : Int)), .int (iZ ((tu : Nat) : Int)), .int (iZ ((td : Nat) : Int)), .int (iZ ((ta : Nat) : Int)), .int (iZ ((tb : Nat) : Int)), .int (iZ ((tt : Nat) : Int)), .int (iZ ((tk : Nat) : Int)), .int (iZ ((tj : Nat) : Int))])), (sA, .inl (cI, 32, .inl (LI g1))), (sB, .inl (cI, 32, .inl (LI g2)))] 0 0 ⟨hx, hb, hml, hown, hts⟩ (c_X11_in l D cI cJ zi ((0 : Nat) : Int) ((10 : Nat) : Int) ⟨by omega, by omega⟩ ⟨by omega, by omega⟩ ⟨by omega, by omega⟩) (va_cwS 3 hts gX11_above_X11_in rfl rfl rfl (by decide +kernel) ⟨(Nat.le_of_ble_eq_true rfl), (Nat.le_of_ble_eq_true rfl)⟩) hK hP hD hS hA [] [0, 1, 2] rfl rfl rfl rfl (by decide) rfl hl.1 rfl (Nat.le_of_ble_eq_true rfl) dX11_above_25 ⟨(Nat.le_of_ble_eq_true rfl), (Nat.le_of_ble_eq_true rfl)⟩ (Nat.le_of_ble_eq_true rfl) (Nat.le_of_ble_eq_true rfl) (fun r_25 u9 H locs hw hP hD hS => ?_)
    obtain u9 := u9
    try dsimp only at hw
    obtain ⟨b2, wa2, wb2, wc2⟩ := hw
    have hP : va_P D vwCl [(mz, .inr (10, [.int (iZ ((0 : Nat) : Int)), .ref sA, .ref sB, .int (iZ ((rn : Nat) : Int)), .ref gO, .ref xO, .ref yO, .int (iZ ((un : Nat) : Int)), .ref dO, .ref zO, .ref wO, .ref mO, .int (iZ ((mn : Nat) : Int)), .ref aO, .ref bO, .int (iZ ((kc : Nat) : Int)), .ref uO, .ref vO, .int (iZ ((hT : Nat) : Int)), .int (iZ ((tu : Nat) : Int)), .int (iZ ((td : Nat) : Int)), .int (iZ ((ta : Nat) : Int)), .int (iZ ((tb : Nat) : Int)), .int (iZ ((tt : Nat) : Int)), .int (iZ ((tk : Nat) : Int)), .int (iZ ((tj : Nat) : Int))])), (sA, .inl (cI, 32, .inl (LI g1))), (sB, .inl (cI, 32, .inl (LI g2)))] H := hP
    have hD : va_D A [(mz, .inr (10, [.int (iZ ((0 : Nat) : Int)), .ref sA, .ref sB, .int (iZ ((rn : Nat) : Int)), .ref gO, .ref xO, .ref yO, .int (iZ ((un : Nat) : Int)), .ref dO, .ref zO, .ref wO, .ref mO, .int (iZ ((mn : Nat) : Int)), .ref aO, .ref bO, .int (iZ ((kc : Nat) : Int)), .ref uO, .ref vO, .int (iZ ((hT : Nat) : Int)), .int (iZ ((tu : Nat) : Int)), .int (iZ ((td : Nat) : Int)), .int (iZ ((ta : Nat) : Int)), .int (iZ ((tb : Nat) : Int)), .int (iZ ((tt : Nat) : Int)), .int (iZ ((tk : Nat) : Int)), .int (iZ ((tj : Nat) : Int))])), (sA, .inl (cI, 32, .inl (LI g1))), (sB, .inl (cI, 32, .inl (LI g2)))] := hD
    refine tp_i (y := (iZ (b2))) (wa2) ?_
    refine zb_if_ne (x := (b2)) (tgt := 35) hx hb dX11_above_28 (by decide) ⟨by omega, by omega⟩ (fun c_28 => ?_) (fun c_28 => ?_)
    · obtain ⟨n, rfl⟩ : ∃ x9 : Nat, zn = (x9 : Int) := ⟨zn.toNat, by omega⟩
      obtain ⟨k, rfl⟩ : ∃ x9 : Nat, zk = (x9 : Int) := ⟨zk.toNat, by omega⟩
      obtain ⟨up, rfl⟩ : ∃ x9 : Nat, zu = (x9 : Int) := ⟨zu.toNat, by omega⟩
      obtain ⟨down, rfl⟩ : ∃ x9 : Nat, zd = (x9 : Int) := ⟨zd.toNat, by omega⟩
      obtain ⟨side, rfl⟩ : ∃ x9 : Nat, zs = (x9 : Int) := ⟨zs.toNat, by omega⟩
      obtain ⟨i, rfl⟩ : ∃ x9 : Nat, zi = (x9 : Int) := ⟨zi.toNat, by omega⟩
      refine lv_aload_n hx hb dX11_above_35 rfl (lv_at hl 0 rfl) ?_
      refine lv_iload_n hx hb dX11_above_36 rfl (lv_at hl 1 rfl) ?_
      refine lv_iload_n hx hb dX11_above_37 rfl (lv_at hl 2 rfl) ?_
      refine lv_iload_n hx hb dX11_above_38 rfl (lv_at hl 3 rfl) ?_
      refine lv_iload hx hb dX11_above_39 (lv_at hl 4 rfl) ?_
      refine lv_iload hx hb dX11_above_41 (lv_at hl 5 rfl) ?_
      refine ca_vV [.int (iZ ((n : Nat) : Int)), .int (iZ ((k : Nat) : Int)), .int (iZ ((up : Nat) : Int)), .int (iZ ((down : Nat) : Int)), .int (iZ ((side : Nat) : Int))] [] [] 0 0 ⟨hx, hb, hml, hown, hts⟩ (c_X11_sumUp l D cI cJ mz sA sB gO xO yO dO zO wO mO aO bO uO vO 0 rn un mn kc hT tu td ta tb tt tk tj g1 g2 n k up down side (by omega) (by omega) (by omega) (by omega) (by omega)) (cwV 5 hts gX11_above_X11_sumUp rfl rfl rfl (by decide +kernel) ⟨(Nat.le_of_ble_eq_true rfl), (Nat.le_of_ble_eq_true rfl)⟩) hK hP hD hS hA [0, 1, 2] [] rfl rfl rfl rfl (by decide) 0 rfl rfl rfl hl.1 rfl (Nat.le_of_ble_eq_true rfl) dX11_above_43 ⟨(Nat.le_of_ble_eq_true rfl), (Nat.le_of_ble_eq_true rfl)⟩ (Nat.le_of_ble_eq_true rfl) (Nat.le_of_ble_eq_true rfl) (fun u9 H locs hw hP hD hS => ?_)
      obtain ⟨gA, gB⟩ := u9
      try dsimp only at hw
      have hw1 := hw
      have hP : va_P D vwCl [(mz, .inr (10, [.int (iZ ((0 : Nat) : Int)), .ref sA, .ref sB, .int (iZ ((rn : Nat) : Int)), .ref gO, .ref xO, .ref yO, .int (iZ ((un : Nat) : Int)), .ref dO, .ref zO, .ref wO, .ref mO, .int (iZ ((mn : Nat) : Int)), .ref aO, .ref bO, .int (iZ ((kc : Nat) : Int)), .ref uO, .ref vO, .int (iZ ((hT : Nat) : Int)), .int (iZ ((tu : Nat) : Int)), .int (iZ ((td : Nat) : Int)), .int (iZ ((ta : Nat) : Int)), .int (iZ ((tb : Nat) : Int)), .int (iZ ((tt : Nat) : Int)), .int (iZ ((tk : Nat) : Int)), .int (iZ ((tj : Nat) : Int))])), (sA, .inl (cI, 32, .inl (LI gA))), (sB, .inl (cI, 32, .inl (LI gB)))] H := hP
      have hD : va_D A [(mz, .inr (10, [.int (iZ ((0 : Nat) : Int)), .ref sA, .ref sB, .int (iZ ((rn : Nat) : Int)), .ref gO, .ref xO, .ref yO, .int (iZ ((un : Nat) : Int)), .ref dO, .ref zO, .ref wO, .ref mO, .int (iZ ((mn : Nat) : Int)), .ref aO, .ref bO, .int (iZ ((kc : Nat) : Int)), .ref uO, .ref vO, .int (iZ ((hT : Nat) : Int)), .int (iZ ((tu : Nat) : Int)), .int (iZ ((td : Nat) : Int)), .int (iZ ((ta : Nat) : Int)), .int (iZ ((tb : Nat) : Int)), .int (iZ ((tt : Nat) : Int)), .int (iZ ((tk : Nat) : Int)), .int (iZ ((tj : Nat) : Int))])), (sA, .inl (cI, 32, .inl (LI gA))), (sB, .inl (cI, 32, .inl (LI gB)))] := hD
      have hd1 := hw1.1 (2 * i) (by omega)
      have hd2 := hw1.1 (2 * i + 1) (by omega)
      refine lv_aload_n hx hb dX11_above_46 rfl (lv_at hl 0 rfl) ?_
      refine va_get (D := D) (ci := 10) (v := .ref sA) (C := RX11) (T := TX11) (N := 26) hx hb hts hh_1 hown hK hP 0 rfl rfl 1 (by decide) hh_4 (fun _ h9 => h9) rfl dX11_above_47 ?_
      refine zc_iconst (z := ((2 : Nat) : Int)) hx hb dX11_above_50 (by decide) ?_
      refine lv_iload hx hb dX11_above_51 (lv_at hl 6 rfl) ?_
      refine zi_mul (z := ((2 * i : Nat) : Int)) hx hb dX11_above_53 (Int.natCast_mul _ _).symm ?_
      refine za_iald hx hb hK hP 1 0 rfl rfl (2 * i) (v := ((gA (2 * i) : Nat) : Int)) (by decide) rfl (by omega) (rfl) dX11_above_54 ?_
      refine z_i2l (z := ((gA (2 * i) : Nat) : Int)) hx hb dX11_above_55 ⟨by omega, by omega⟩ rfl ?_
      refine lv_aload_n hx hb dX11_above_56 rfl (lv_at hl 0 rfl) ?_
      refine va_get (D := D) (ci := 10) (v := .ref sA) (C := RX11) (T := TX11) (N := 26) hx hb hts hh_1 hown hK hP 0 rfl rfl 1 (by decide) hh_4 (fun _ h9 => h9) rfl dX11_above_57 ?_
      refine zc_iconst (z := ((2 : Nat) : Int)) hx hb dX11_above_60 (by decide) ?_
      refine lv_iload hx hb dX11_above_61 (lv_at hl 6 rfl) ?_
      refine zi_mul (z := ((2 * i : Nat) : Int)) hx hb dX11_above_63 (Int.natCast_mul _ _).symm ?_
      refine zc_iconst (z := ((1 : Nat) : Int)) hx hb dX11_above_64 (by decide) ?_
      refine zi_add (z := (((2 * i) + 1 : Nat) : Int)) hx hb dX11_above_65 (by omega) ?_
      refine za_iald hx hb hK hP 1 0 rfl rfl ((2 * i) + 1) (v := ((gA ((2 * i) + 1) : Nat) : Int)) (by decide) rfl (by omega) (rfl) dX11_above_66 ?_
      refine z_i2l (z := ((gA ((2 * i) + 1) : Nat) : Int)) hx hb dX11_above_67 ⟨by omega, by omega⟩ rfl ?_
      refine zc_bipush (z := ((16 : Nat) : Int)) hx hb dX11_above_68 (by decide) ?_
      refine lv_lshl (v := (lZ ((gA (2 * i + 1) * 65536 : Nat) : Int))) hx hb dX11_above_70 (z_lshl _ (by decide)) ?_
      refine lv_lor hx hb dX11_above_71 (tp_l (y := (lZ ((gA (2 * i) + gA (2 * i + 1) * 65536 : Nat) : Int))) (l_or16' hd1 hd2) ?_)
      exact hret _ (gA, gB) _ _ _ _ _ _ (Nat.le_of_ble_eq_true rfl) (Nat.le_of_ble_eq_true rfl) dX11_above_72 (⟨fun _ => by rw [mo_limb hw1 (by omega)]; rfl, fun h9 => absurd ⟨⟨⟨by omega, by omega⟩, ⟨by omega, by omega⟩, ⟨by omega, by omega⟩, ⟨by omega, by omega⟩, by omega⟩, by omega, by omega⟩ h9⟩) hP hD hS
    · refine lv_ldc2 hx hb hown hh_2 dX11_above_31 (tp_l (y := lZ (-1 : Int)) (by decide) ?_)
      exact hret _ (g1, g2) _ _ _ _ _ _ (Nat.le_of_ble_eq_true rfl) (Nat.le_of_ble_eq_true rfl) dX11_above_34 (by first | exact ⟨fun h9 => absurd h9.1 nv1, fun _ => rfl⟩ | exact ⟨fun h9 => absurd h9.2 (by omega), fun _ => rfl⟩) hP hD hS
def rmX11_beside : Room := { frames := 3, cells := 0, slots := 0, locals := 78 }
set_option maxHeartbeats 4000000 in
set_option maxRecDepth 100000 in
theorem c_X11_beside (l : Launch) (D : va_G) (cI cJ : ClassId) (mz sA sB gO xO yO dO zO wO mO aO bO uO vO : Nat) (th rn un mn kc hT tu td ta tb tt tk tj : Nat) (g1 g2 : Nat → Nat) (n k up down side : Nat) (hn : n ≤ 30) (hk : k ≤ n) (hd : down ≤ 1000) (hu : up ≤ down) (hsd : side ≤ 1) (a b : Nat) (ha : a ≤ 1000) (hb0 : b ≤ 1000) : Ci l D vwCl (tyT cI cJ) yX11_beside wsX11_beside rmX11_beside [.ref mz, .int (iZ ((n : Nat) : Int)), .int (iZ ((k : Nat) : Int)), .int (iZ ((up : Nat) : Int)), .int (iZ ((down : Nat) : Int)), .int (iZ ((side : Nat) : Int)), .int (iZ ((a : Nat) : Int)), .int (iZ ((b : Nat) : Int))] [(mz, .inr (10, [.int (iZ ((th : Nat) : Int)), .ref sA, .ref sB, .int (iZ ((rn : Nat) : Int)), .ref gO, .ref xO, .ref yO, .int (iZ ((un : Nat) : Int)), .ref dO, .ref zO, .ref wO, .ref mO, .int (iZ ((mn : Nat) : Int)), .ref aO, .ref bO, .int (iZ ((kc : Nat) : Int)), .ref uO, .ref vO, .int (iZ ((hT : Nat) : Int)), .int (iZ ((tu : Nat) : Int)), .int (iZ ((td : Nat) : Int)), .int (iZ ((ta : Nat) : Int)), .int (iZ ((tb : Nat) : Int)), .int (iZ ((tt : Nat) : Int)), .int (iZ ((tk : Nat) : Int)), .int (iZ ((tj : Nat) : Int))])), (sA, .inl (cI, 32, .inl (LI g1))), (sB, .inl (cI, 32, .inl (LI g2)))] ((Nat → Nat) × (Nat → Nat)) (fun r _ => r = iZ (cmpZ (habv n k up down side * b) (a * down ^ n))) (fun r => [(mz, .inr (10, [.int (iZ ((th : Nat) : Int)), .ref sA, .ref sB, .int (iZ ((rn : Nat) : Int)), .ref gO, .ref xO, .ref yO, .int (iZ ((un : Nat) : Int)), .ref dO, .ref zO, .ref wO, .ref mO, .int (iZ ((mn : Nat) : Int)), .ref aO, .ref bO, .int (iZ ((kc : Nat) : Int)), .ref uO, .ref vO, .int (iZ ((hT : Nat) : Int)), .int (iZ ((tu : Nat) : Int)), .int (iZ ((td : Nat) : Int)), .int (iZ ((ta : Nat) : Int)), .int (iZ ((tb : Nat) : Int)), .int (iZ ((tt : Nat) : Int)), .int (iZ ((tk : Nat) : Int)), .int (iZ ((tj : Nat) : Int))])), (sA, .inl (cI, 32, .inl (LI r.1))), (sB, .inl (cI, 32, .inl (LI r.2)))]) := by
  refine en_i (cc := cX11_beside) (maxL := 8) (by decide) rfl [(0, .ref mz), (1, .int (iZ ((n : Nat) : Int))), (2, .int (iZ ((k : Nat) : Int))), (3, .int (iZ ((up : Nat) : Int))), (4, .int (iZ ((down : Nat) : Int))), (5, .int (iZ ((side : Nat) : Int))), (6, .int (iZ ((a : Nat) : Int))), (7, .int (iZ ((b : Nat) : Int)))] (Nat.le_of_ble_eq_true rfl) rfl ?_
  intro p e s m args below meth c Q A hx hb hml hown hts hnm hK hP hD hA hS hret ls hl
  have hh_0 := hts (.fieldLink RX11 7 "BoundDrawsModel" "sum" "[I") (by decide +kernel)
  have hh_1 := (show ∀ w ∈ wsX110, w ∈ wsX11_beside by decide +kernel)
  have hh_2 := hts (.fieldLink RX11 13 "BoundDrawsModel" "one" "[I") (by decide +kernel)
  refine lv_aload_n hx hb dX11_beside_0 rfl (lv_at hl 0 rfl) ?_
  refine lv_iload_n hx hb dX11_beside_1 rfl (lv_at hl 1 rfl) ?_
  refine lv_iload_n hx hb dX11_beside_2 rfl (lv_at hl 2 rfl) ?_
  refine lv_iload_n hx hb dX11_beside_3 rfl (lv_at hl 3 rfl) ?_
  refine lv_iload hx hb dX11_beside_4 (lv_at hl 4 rfl) ?_
  refine lv_iload hx hb dX11_beside_6 (lv_at hl 5 rfl) ?_
  refine ca_vV [.int (iZ ((n : Nat) : Int)), .int (iZ ((k : Nat) : Int)), .int (iZ ((up : Nat) : Int)), .int (iZ ((down : Nat) : Int)), .int (iZ ((side : Nat) : Int))] [] [] 0 0 ⟨hx, hb, hml, hown, hts⟩ (c_X11_sumUp l D cI cJ mz sA sB gO xO yO dO zO wO mO aO bO uO vO th rn un mn kc hT tu td ta tb tt tk tj g1 g2 n k up down side hn hk hd hu hsd) (cwV 5 hts gX11_beside_X11_sumUp rfl rfl rfl (by decide +kernel) ⟨(Nat.le_of_ble_eq_true rfl), (Nat.le_of_ble_eq_true rfl)⟩) hK hP hD hS hA [0, 1, 2] [] rfl rfl rfl rfl (by decide) 0 rfl rfl rfl hl.1 rfl (Nat.le_of_ble_eq_true rfl) dX11_beside_8 ⟨(Nat.le_of_ble_eq_true rfl), (Nat.le_of_ble_eq_true rfl)⟩ (Nat.le_of_ble_eq_true rfl) (Nat.le_of_ble_eq_true rfl) (fun u9 H locs hw hP hD hS => ?_)
  obtain ⟨gA, gB⟩ := u9
  try dsimp only at hw
  have hw1 := hw
  have hP : va_P D vwCl [(mz, .inr (10, [.int (iZ ((th : Nat) : Int)), .ref sA, .ref sB, .int (iZ ((rn : Nat) : Int)), .ref gO, .ref xO, .ref yO, .int (iZ ((un : Nat) : Int)), .ref dO, .ref zO, .ref wO, .ref mO, .int (iZ ((mn : Nat) : Int)), .ref aO, .ref bO, .int (iZ ((kc : Nat) : Int)), .ref uO, .ref vO, .int (iZ ((hT : Nat) : Int)), .int (iZ ((tu : Nat) : Int)), .int (iZ ((td : Nat) : Int)), .int (iZ ((ta : Nat) : Int)), .int (iZ ((tb : Nat) : Int)), .int (iZ ((tt : Nat) : Int)), .int (iZ ((tk : Nat) : Int)), .int (iZ ((tj : Nat) : Int))])), (sA, .inl (cI, 32, .inl (LI gA))), (sB, .inl (cI, 32, .inl (LI gB)))] H := hP
  have hD : va_D A [(mz, .inr (10, [.int (iZ ((th : Nat) : Int)), .ref sA, .ref sB, .int (iZ ((rn : Nat) : Int)), .ref gO, .ref xO, .ref yO, .int (iZ ((un : Nat) : Int)), .ref dO, .ref zO, .ref wO, .ref mO, .int (iZ ((mn : Nat) : Int)), .ref aO, .ref bO, .int (iZ ((kc : Nat) : Int)), .ref uO, .ref vO, .int (iZ ((hT : Nat) : Int)), .int (iZ ((tu : Nat) : Int)), .int (iZ ((td : Nat) : Int)), .int (iZ ((ta : Nat) : Int)), .int (iZ ((tb : Nat) : Int)), .int (iZ ((tt : Nat) : Int)), .int (iZ ((tk : Nat) : Int)), .int (iZ ((tj : Nat) : Int))])), (sA, .inl (cI, 32, .inl (LI gA))), (sB, .inl (cI, 32, .inl (LI gB)))] := hD
  refine lv_aload_n hx hb dX11_beside_11 rfl (lv_at hl 0 rfl) ?_
  refine va_get (D := D) (ci := 10) (v := .ref sA) (C := RX11) (T := TX11) (N := 26) hx hb hts hh_1 hown hK hP 0 rfl rfl 1 (by decide) hh_0 (fun _ h9 => h9) rfl dX11_beside_12 ?_
  refine lv_iload hx hb dX11_beside_15 (lv_at hl 7 rfl) ?_
  refine z_i2l (z := ((b : Nat) : Int)) hx hb dX11_beside_17 ⟨by omega, by omega⟩ rfl ?_
  refine ca_vS [.ref sA, .long (lZ ((b : Nat) : Int))] [] [(mz, .inr (10, [.int (iZ ((th : Nat) : Int)), .ref sA, .ref sB, .int (iZ ((rn : Nat) : Int)), .ref gO, .ref xO, .ref yO, .int (iZ ((un : Nat) : Int)), .ref dO, .ref zO, .ref wO, .ref mO, .int (iZ ((mn : Nat) : Int)), .ref aO, .ref bO, .int (iZ ((kc : Nat) : Int)), .ref uO, .ref vO, .int (iZ ((hT : Nat) : Int)), .int (iZ ((tu : Nat) : Int)), .int (iZ ((td : Nat) : Int)), .int (iZ ((ta : Nat) : Int)), .int (iZ ((tb : Nat) : Int)), .int (iZ ((tt : Nat) : Int)), .int (iZ ((tk : Nat) : Int)), .int (iZ ((tj : Nat) : Int))])), (sB, .inl (cI, 32, .inl (LI gB)))] 0 0 ⟨hx, hb, hml, hown, hts⟩ (c_X11_times l D cI cJ sA gA (habv n k up down side) b hw1 (by omega) (Nat.lt_of_lt_of_le (habv_b hn hk hd hu hb0) B_le)) (va_cwS 2 hts gX11_beside_X11_times rfl rfl rfl (by decide +kernel) ⟨(Nat.le_of_ble_eq_true rfl), (Nat.le_of_ble_eq_true rfl)⟩) hK hP hD hS hA [1] [0, 2] rfl rfl rfl rfl (by decide) rfl hl.1 rfl (Nat.le_of_ble_eq_true rfl) dX11_beside_18 ⟨(Nat.le_of_ble_eq_true rfl), (Nat.le_of_ble_eq_true rfl)⟩ (Nat.le_of_ble_eq_true rfl) (Nat.le_of_ble_eq_true rfl) (fun gC H locs hw hP hD hS => ?_)
  try dsimp only at hw
  have hw2 := hw
  have hP : va_P D vwCl [(mz, .inr (10, [.int (iZ ((th : Nat) : Int)), .ref sA, .ref sB, .int (iZ ((rn : Nat) : Int)), .ref gO, .ref xO, .ref yO, .int (iZ ((un : Nat) : Int)), .ref dO, .ref zO, .ref wO, .ref mO, .int (iZ ((mn : Nat) : Int)), .ref aO, .ref bO, .int (iZ ((kc : Nat) : Int)), .ref uO, .ref vO, .int (iZ ((hT : Nat) : Int)), .int (iZ ((tu : Nat) : Int)), .int (iZ ((td : Nat) : Int)), .int (iZ ((ta : Nat) : Int)), .int (iZ ((tb : Nat) : Int)), .int (iZ ((tt : Nat) : Int)), .int (iZ ((tk : Nat) : Int)), .int (iZ ((tj : Nat) : Int))])), (sB, .inl (cI, 32, .inl (LI gB))), (sA, .inl (cI, 32, .inl (LI gC)))] H := hP
  have hD : va_D A [(mz, .inr (10, [.int (iZ ((th : Nat) : Int)), .ref sA, .ref sB, .int (iZ ((rn : Nat) : Int)), .ref gO, .ref xO, .ref yO, .int (iZ ((un : Nat) : Int)), .ref dO, .ref zO, .ref wO, .ref mO, .int (iZ ((mn : Nat) : Int)), .ref aO, .ref bO, .int (iZ ((kc : Nat) : Int)), .ref uO, .ref vO, .int (iZ ((hT : Nat) : Int)), .int (iZ ((tu : Nat) : Int)), .int (iZ ((td : Nat) : Int)), .int (iZ ((ta : Nat) : Int)), .int (iZ ((tb : Nat) : Int)), .int (iZ ((tt : Nat) : Int)), .int (iZ ((tk : Nat) : Int)), .int (iZ ((tj : Nat) : Int))])), (sB, .inl (cI, 32, .inl (LI gB))), (sA, .inl (cI, 32, .inl (LI gC)))] := hD
  refine lv_aload_n hx hb dX11_beside_21 rfl (lv_at hl 0 rfl) ?_
  refine va_get (D := D) (ci := 10) (v := .ref sB) (C := RX11) (T := TX11) (N := 26) hx hb hts hh_1 hown hK hP 0 rfl rfl 2 (by decide) hh_2 (fun _ h9 => h9) rfl dX11_beside_22 ?_
  refine lv_iload hx hb dX11_beside_25 (lv_at hl 4 rfl) ?_
  refine lv_iload_n hx hb dX11_beside_27 rfl (lv_at hl 1 rfl) ?_
  refine ca_vS [.ref sB, .int (iZ ((down : Nat) : Int)), .int (iZ ((n : Nat) : Int))] [] [(mz, .inr (10, [.int (iZ ((th : Nat) : Int)), .ref sA, .ref sB, .int (iZ ((rn : Nat) : Int)), .ref gO, .ref xO, .ref yO, .int (iZ ((un : Nat) : Int)), .ref dO, .ref zO, .ref wO, .ref mO, .int (iZ ((mn : Nat) : Int)), .ref aO, .ref bO, .int (iZ ((kc : Nat) : Int)), .ref uO, .ref vO, .int (iZ ((hT : Nat) : Int)), .int (iZ ((tu : Nat) : Int)), .int (iZ ((td : Nat) : Int)), .int (iZ ((ta : Nat) : Int)), .int (iZ ((tb : Nat) : Int)), .int (iZ ((tt : Nat) : Int)), .int (iZ ((tk : Nat) : Int)), .int (iZ ((tj : Nat) : Int))])), (sA, .inl (cI, 32, .inl (LI gC)))] 0 0 ⟨hx, hb, hml, hown, hts⟩ (c_X11_power l D cI cJ sB gB down n hd (by omega) (fun i hi => Nat.lt_of_lt_of_le (pow_b hd (by omega) hd) B_le)) (va_cwS 3 hts gX11_beside_X11_power rfl rfl rfl (by decide +kernel) ⟨(Nat.le_of_ble_eq_true rfl), (Nat.le_of_ble_eq_true rfl)⟩) hK hP hD hS hA [1] [0, 2] rfl rfl rfl rfl (by decide) rfl hl.1 rfl (Nat.le_of_ble_eq_true rfl) dX11_beside_28 ⟨(Nat.le_of_ble_eq_true rfl), (Nat.le_of_ble_eq_true rfl)⟩ (Nat.le_of_ble_eq_true rfl) (Nat.le_of_ble_eq_true rfl) (fun gD H locs hw hP hD hS => ?_)
  try dsimp only at hw
  have hw3 := hw
  have hP : va_P D vwCl [(mz, .inr (10, [.int (iZ ((th : Nat) : Int)), .ref sA, .ref sB, .int (iZ ((rn : Nat) : Int)), .ref gO, .ref xO, .ref yO, .int (iZ ((un : Nat) : Int)), .ref dO, .ref zO, .ref wO, .ref mO, .int (iZ ((mn : Nat) : Int)), .ref aO, .ref bO, .int (iZ ((kc : Nat) : Int)), .ref uO, .ref vO, .int (iZ ((hT : Nat) : Int)), .int (iZ ((tu : Nat) : Int)), .int (iZ ((td : Nat) : Int)), .int (iZ ((ta : Nat) : Int)), .int (iZ ((tb : Nat) : Int)), .int (iZ ((tt : Nat) : Int)), .int (iZ ((tk : Nat) : Int)), .int (iZ ((tj : Nat) : Int))])), (sA, .inl (cI, 32, .inl (LI gC))), (sB, .inl (cI, 32, .inl (LI gD)))] H := hP
  have hD : va_D A [(mz, .inr (10, [.int (iZ ((th : Nat) : Int)), .ref sA, .ref sB, .int (iZ ((rn : Nat) : Int)), .ref gO, .ref xO, .ref yO, .int (iZ ((un : Nat) : Int)), .ref dO, .ref zO, .ref wO, .ref mO, .int (iZ ((mn : Nat) : Int)), .ref aO, .ref bO, .int (iZ ((kc : Nat) : Int)), .ref uO, .ref vO, .int (iZ ((hT : Nat) : Int)), .int (iZ ((tu : Nat) : Int)), .int (iZ ((td : Nat) : Int)), .int (iZ ((ta : Nat) : Int)), .int (iZ ((tb : Nat) : Int)), .int (iZ ((tt : Nat) : Int)), .int (iZ ((tk : Nat) : Int)), .int (iZ ((tj : Nat) : Int))])), (sA, .inl (cI, 32, .inl (LI gC))), (sB, .inl (cI, 32, .inl (LI gD)))] := hD
  refine lv_aload_n hx hb dX11_beside_31 rfl (lv_at hl 0 rfl) ?_
  refine va_get (D := D) (ci := 10) (v := .ref sB) (C := RX11) (T := TX11) (N := 26) hx hb hts hh_1 hown hK hP 0 rfl rfl 2 (by decide) hh_2 (fun _ h9 => h9) rfl dX11_beside_32 ?_
  refine lv_iload hx hb dX11_beside_35 (lv_at hl 6 rfl) ?_
  refine z_i2l (z := ((a : Nat) : Int)) hx hb dX11_beside_37 ⟨by omega, by omega⟩ rfl ?_
  refine ca_vS [.ref sB, .long (lZ ((a : Nat) : Int))] [] [(mz, .inr (10, [.int (iZ ((th : Nat) : Int)), .ref sA, .ref sB, .int (iZ ((rn : Nat) : Int)), .ref gO, .ref xO, .ref yO, .int (iZ ((un : Nat) : Int)), .ref dO, .ref zO, .ref wO, .ref mO, .int (iZ ((mn : Nat) : Int)), .ref aO, .ref bO, .int (iZ ((kc : Nat) : Int)), .ref uO, .ref vO, .int (iZ ((hT : Nat) : Int)), .int (iZ ((tu : Nat) : Int)), .int (iZ ((td : Nat) : Int)), .int (iZ ((ta : Nat) : Int)), .int (iZ ((tb : Nat) : Int)), .int (iZ ((tt : Nat) : Int)), .int (iZ ((tk : Nat) : Int)), .int (iZ ((tj : Nat) : Int))])), (sA, .inl (cI, 32, .inl (LI gC)))] 0 0 ⟨hx, hb, hml, hown, hts⟩ (c_X11_times l D cI cJ sB gD (down ^ n) a hw3 (by omega) (Nat.lt_of_lt_of_le (pow_b hd (by omega) ha) B_le)) (va_cwS 2 hts gX11_beside_X11_times rfl rfl rfl (by decide +kernel) ⟨(Nat.le_of_ble_eq_true rfl), (Nat.le_of_ble_eq_true rfl)⟩) hK hP hD hS hA [2] [0, 1] rfl rfl rfl rfl (by decide) rfl hl.1 rfl (Nat.le_of_ble_eq_true rfl) dX11_beside_38 ⟨(Nat.le_of_ble_eq_true rfl), (Nat.le_of_ble_eq_true rfl)⟩ (Nat.le_of_ble_eq_true rfl) (Nat.le_of_ble_eq_true rfl) (fun gE H locs hw hP hD hS => ?_)
  try dsimp only at hw
  have hw4 := hw
  have hP : va_P D vwCl [(mz, .inr (10, [.int (iZ ((th : Nat) : Int)), .ref sA, .ref sB, .int (iZ ((rn : Nat) : Int)), .ref gO, .ref xO, .ref yO, .int (iZ ((un : Nat) : Int)), .ref dO, .ref zO, .ref wO, .ref mO, .int (iZ ((mn : Nat) : Int)), .ref aO, .ref bO, .int (iZ ((kc : Nat) : Int)), .ref uO, .ref vO, .int (iZ ((hT : Nat) : Int)), .int (iZ ((tu : Nat) : Int)), .int (iZ ((td : Nat) : Int)), .int (iZ ((ta : Nat) : Int)), .int (iZ ((tb : Nat) : Int)), .int (iZ ((tt : Nat) : Int)), .int (iZ ((tk : Nat) : Int)), .int (iZ ((tj : Nat) : Int))])), (sA, .inl (cI, 32, .inl (LI gC))), (sB, .inl (cI, 32, .inl (LI gE)))] H := hP
  have hD : va_D A [(mz, .inr (10, [.int (iZ ((th : Nat) : Int)), .ref sA, .ref sB, .int (iZ ((rn : Nat) : Int)), .ref gO, .ref xO, .ref yO, .int (iZ ((un : Nat) : Int)), .ref dO, .ref zO, .ref wO, .ref mO, .int (iZ ((mn : Nat) : Int)), .ref aO, .ref bO, .int (iZ ((kc : Nat) : Int)), .ref uO, .ref vO, .int (iZ ((hT : Nat) : Int)), .int (iZ ((tu : Nat) : Int)), .int (iZ ((td : Nat) : Int)), .int (iZ ((ta : Nat) : Int)), .int (iZ ((tb : Nat) : Int)), .int (iZ ((tt : Nat) : Int)), .int (iZ ((tk : Nat) : Int)), .int (iZ ((tj : Nat) : Int))])), (sA, .inl (cI, 32, .inl (LI gC))), (sB, .inl (cI, 32, .inl (LI gE)))] := hD
  refine lv_aload_n hx hb dX11_beside_41 rfl (lv_at hl 0 rfl) ?_
  refine va_get (D := D) (ci := 10) (v := .ref sA) (C := RX11) (T := TX11) (N := 26) hx hb hts hh_1 hown hK hP 0 rfl rfl 1 (by decide) hh_0 (fun _ h9 => h9) rfl dX11_beside_42 ?_
  refine lv_aload_n hx hb dX11_beside_45 rfl (lv_at hl 0 rfl) ?_
  refine va_get (D := D) (ci := 10) (v := .ref sB) (C := RX11) (T := TX11) (N := 26) hx hb hts hh_1 hown hK hP 0 rfl rfl 2 (by decide) hh_2 (fun _ h9 => h9) rfl dX11_beside_46 ?_
  refine ca_iS [.ref sA, .ref sB] [] [(mz, .inr (10, [.int (iZ ((th : Nat) : Int)), .ref sA, .ref sB, .int (iZ ((rn : Nat) : Int)), .ref gO, .ref xO, .ref yO, .int (iZ ((un : Nat) : Int)), .ref dO, .ref zO, .ref wO, .ref mO, .int (iZ ((mn : Nat) : Int)), .ref aO, .ref bO, .int (iZ ((kc : Nat) : Int)), .ref uO, .ref vO, .int (iZ ((hT : Nat) : Int)), .int (iZ ((tu : Nat) : Int)), .int (iZ ((td : Nat) : Int)), .int (iZ ((ta : Nat) : Int)), .int (iZ ((tb : Nat) : Int)), .int (iZ ((tt : Nat) : Int)), .int (iZ ((tk : Nat) : Int)), .int (iZ ((tj : Nat) : Int))]))] 0 0 ⟨hx, hb, hml, hown, hts⟩ (c_X11_compared l D cI cJ sA sB gC gE _ _ hw2 hw4) (va_cwS 2 hts gX11_beside_X11_compared rfl rfl rfl (by decide +kernel) ⟨(Nat.le_of_ble_eq_true rfl), (Nat.le_of_ble_eq_true rfl)⟩) hK hP hD hS hA [1, 2] [0] rfl rfl rfl rfl (by decide) rfl hl.1 rfl (Nat.le_of_ble_eq_true rfl) dX11_beside_49 ⟨(Nat.le_of_ble_eq_true rfl), (Nat.le_of_ble_eq_true rfl)⟩ (Nat.le_of_ble_eq_true rfl) (Nat.le_of_ble_eq_true rfl) (fun r_49 u9 H locs hw hP hD hS => ?_)
  obtain u9 := u9
  try dsimp only at hw
  have hP : va_P D vwCl [(mz, .inr (10, [.int (iZ ((th : Nat) : Int)), .ref sA, .ref sB, .int (iZ ((rn : Nat) : Int)), .ref gO, .ref xO, .ref yO, .int (iZ ((un : Nat) : Int)), .ref dO, .ref zO, .ref wO, .ref mO, .int (iZ ((mn : Nat) : Int)), .ref aO, .ref bO, .int (iZ ((kc : Nat) : Int)), .ref uO, .ref vO, .int (iZ ((hT : Nat) : Int)), .int (iZ ((tu : Nat) : Int)), .int (iZ ((td : Nat) : Int)), .int (iZ ((ta : Nat) : Int)), .int (iZ ((tb : Nat) : Int)), .int (iZ ((tt : Nat) : Int)), .int (iZ ((tk : Nat) : Int)), .int (iZ ((tj : Nat) : Int))])), (sA, .inl (cI, 32, .inl (LI gC))), (sB, .inl (cI, 32, .inl (LI gE)))] H := hP
  have hD : va_D A [(mz, .inr (10, [.int (iZ ((th : Nat) : Int)), .ref sA, .ref sB, .int (iZ ((rn : Nat) : Int)), .ref gO, .ref xO, .ref yO, .int (iZ ((un : Nat) : Int)), .ref dO, .ref zO, .ref wO, .ref mO, .int (iZ ((mn : Nat) : Int)), .ref aO, .ref bO, .int (iZ ((kc : Nat) : Int)), .ref uO, .ref vO, .int (iZ ((hT : Nat) : Int)), .int (iZ ((tu : Nat) : Int)), .int (iZ ((td : Nat) : Int)), .int (iZ ((ta : Nat) : Int)), .int (iZ ((tb : Nat) : Int)), .int (iZ ((tt : Nat) : Int)), .int (iZ ((tk : Nat) : Int)), .int (iZ ((tj : Nat) : Int))])), (sA, .inl (cI, 32, .inl (LI gC))), (sB, .inl (cI, 32, .inl (LI gE)))] := hD
  exact hret _ (gC, gE) _ _ _ _ _ _ (Nat.le_of_ble_eq_true rfl) (Nat.le_of_ble_eq_true rfl) rfl dX11_beside_52 (by rw [hw, Nat.mul_comm (down ^ n) a]) hP hD hS
def rmX11_odds : Room := { frames := 4, cells := 0, slots := 0, locals := 105 }
set_option maxHeartbeats 4000000 in
set_option maxRecDepth 100000 in
theorem c_X11_odds (l : Launch) (D : va_G) (cI cJ : ClassId) (mz sA sB gO xO yO dO zO wO mO aO bO uO vO : Nat) (th rn un mn kc hT tu td ta tb tt tk tj : Nat) (g1 g2 : Nat → Nat) (zn : Int) (izn : iR zn) (zk : Int) (izk : iR zk) (zu : Int) (izu : iR zu) (zd : Int) (izd : iR zd) (zs : Int) (izs : iR zs) (za : Int) (iza : iR za) (zb : Int) (izb : iR zb) : Ci l D vwCl (tyT cI cJ) yX11_odds wsX11_odds rmX11_odds [.ref mz, .int (iZ (zn)), .int (iZ (zk)), .int (iZ (zu)), .int (iZ (zd)), .int (iZ (zs)), .int (iZ (za)), .int (iZ (zb))] [(mz, .inr (10, [.int (iZ ((th : Nat) : Int)), .ref sA, .ref sB, .int (iZ ((rn : Nat) : Int)), .ref gO, .ref xO, .ref yO, .int (iZ ((un : Nat) : Int)), .ref dO, .ref zO, .ref wO, .ref mO, .int (iZ ((mn : Nat) : Int)), .ref aO, .ref bO, .int (iZ ((kc : Nat) : Int)), .ref uO, .ref vO, .int (iZ ((hT : Nat) : Int)), .int (iZ ((tu : Nat) : Int)), .int (iZ ((td : Nat) : Int)), .int (iZ ((ta : Nat) : Int)), .int (iZ ((tb : Nat) : Int)), .int (iZ ((tt : Nat) : Int)), .int (iZ ((tk : Nat) : Int)), .int (iZ ((tj : Nat) : Int))])), (sA, .inl (cI, 32, .inl (LI g1))), (sB, .inl (cI, 32, .inl (LI g2)))] ((Nat → Nat) × (Nat → Nat)) (fun r _ => sOdds zn zk zu zd zs za zb r) (fun r => [(mz, .inr (10, [.int (iZ ((0 : Nat) : Int)), .ref sA, .ref sB, .int (iZ ((rn : Nat) : Int)), .ref gO, .ref xO, .ref yO, .int (iZ ((un : Nat) : Int)), .ref dO, .ref zO, .ref wO, .ref mO, .int (iZ ((mn : Nat) : Int)), .ref aO, .ref bO, .int (iZ ((kc : Nat) : Int)), .ref uO, .ref vO, .int (iZ ((hT : Nat) : Int)), .int (iZ ((tu : Nat) : Int)), .int (iZ ((td : Nat) : Int)), .int (iZ ((ta : Nat) : Int)), .int (iZ ((tb : Nat) : Int)), .int (iZ ((tt : Nat) : Int)), .int (iZ ((tk : Nat) : Int)), .int (iZ ((tj : Nat) : Int))])), (sA, .inl (cI, 32, .inl (LI r.1))), (sB, .inl (cI, 32, .inl (LI r.2)))]) := by
  refine en_i (cc := cX11_odds) (maxL := 8) (by decide) rfl [(0, .ref mz), (1, .int (iZ (zn))), (2, .int (iZ (zk))), (3, .int (iZ (zu))), (4, .int (iZ (zd))), (5, .int (iZ (zs))), (6, .int (iZ (za))), (7, .int (iZ (zb)))] (Nat.le_of_ble_eq_true rfl) rfl ?_
  intro p e s m args below meth c Q A hx hb hml hown hts hnm hK hP hD hA hS hret ls hl
  have hh_0 := hts (.fieldLink RX11 50 "BoundDrawsModel" "thrown" "I") (by decide +kernel)
  have hh_1 := (show ∀ w ∈ wsX110, w ∈ wsX11_odds by decide +kernel)
  have hh_2 := hts (.constantLong RX11 82 (1000)) (by decide +kernel)
  refine lv_aload_n hx hb dX11_odds_0 rfl (lv_at hl 0 rfl) ?_
  refine zc_iconst (z := ((0 : Nat) : Int)) hx hb dX11_odds_1 (by decide) ?_
  refine va_put (D := D) (ci := 10) (v := .int (iZ ((0 : Nat) : Int))) (ty := .int) (C := RX11) (T := TX11) (N := 26) hx hb hts hh_1 tyX11 tyX11_ok nmX11 hown hK hP hD hS 0 rfl rfl 0 (by decide) hh_0 (fun _ h9 => h9) rfl (by decide +kernel) rfl rfl (Nat.le_of_ble_eq_true rfl) dX11_odds_2 (fun H locs hP hD hS => ?_)
  have hP : va_P D vwCl [(mz, .inr (10, [.int (iZ ((0 : Nat) : Int)), .ref sA, .ref sB, .int (iZ ((rn : Nat) : Int)), .ref gO, .ref xO, .ref yO, .int (iZ ((un : Nat) : Int)), .ref dO, .ref zO, .ref wO, .ref mO, .int (iZ ((mn : Nat) : Int)), .ref aO, .ref bO, .int (iZ ((kc : Nat) : Int)), .ref uO, .ref vO, .int (iZ ((hT : Nat) : Int)), .int (iZ ((tu : Nat) : Int)), .int (iZ ((td : Nat) : Int)), .int (iZ ((ta : Nat) : Int)), .int (iZ ((tb : Nat) : Int)), .int (iZ ((tt : Nat) : Int)), .int (iZ ((tk : Nat) : Int)), .int (iZ ((tj : Nat) : Int))])), (sA, .inl (cI, 32, .inl (LI g1))), (sB, .inl (cI, 32, .inl (LI g2)))] H := hP
  have hD : va_D A [(mz, .inr (10, [.int (iZ ((0 : Nat) : Int)), .ref sA, .ref sB, .int (iZ ((rn : Nat) : Int)), .ref gO, .ref xO, .ref yO, .int (iZ ((un : Nat) : Int)), .ref dO, .ref zO, .ref wO, .ref mO, .int (iZ ((mn : Nat) : Int)), .ref aO, .ref bO, .int (iZ ((kc : Nat) : Int)), .ref uO, .ref vO, .int (iZ ((hT : Nat) : Int)), .int (iZ ((tu : Nat) : Int)), .int (iZ ((td : Nat) : Int)), .int (iZ ((ta : Nat) : Int)), .int (iZ ((tb : Nat) : Int)), .int (iZ ((tt : Nat) : Int)), .int (iZ ((tk : Nat) : Int)), .int (iZ ((tj : Nat) : Int))])), (sA, .inl (cI, 32, .inl (LI g1))), (sB, .inl (cI, 32, .inl (LI g2)))] := hD
  refine lv_iload_n hx hb dX11_odds_5 rfl (lv_at hl 1 rfl) ?_
  refine lv_iload_n hx hb dX11_odds_6 rfl (lv_at hl 2 rfl) ?_
  refine lv_iload_n hx hb dX11_odds_7 rfl (lv_at hl 3 rfl) ?_
  refine lv_iload hx hb dX11_odds_8 (lv_at hl 4 rfl) ?_
  refine lv_iload hx hb dX11_odds_10 (lv_at hl 5 rfl) ?_
  refine ca_iS [.int (iZ (zn)), .int (iZ (zk)), .int (iZ (zu)), .int (iZ (zd)), .int (iZ (zs))] [] [(mz, .inr (10, [.int (iZ ((0 : Nat) : Int)), .ref sA, .ref sB, .int (iZ ((rn : Nat) : Int)), .ref gO, .ref xO, .ref yO, .int (iZ ((un : Nat) : Int)), .ref dO, .ref zO, .ref wO, .ref mO, .int (iZ ((mn : Nat) : Int)), .ref aO, .ref bO, .int (iZ ((kc : Nat) : Int)), .ref uO, .ref vO, .int (iZ ((hT : Nat) : Int)), .int (iZ ((tu : Nat) : Int)), .int (iZ ((td : Nat) : Int)), .int (iZ ((ta : Nat) : Int)), .int (iZ ((tb : Nat) : Int)), .int (iZ ((tt : Nat) : Int)), .int (iZ ((tk : Nat) : Int)), .int (iZ ((tj : Nat) : Int))])), (sA, .inl (cI, 32, .inl (LI g1))), (sB, .inl (cI, 32, .inl (LI g2)))] 0 0 ⟨hx, hb, hml, hown, hts⟩ (c_X11_isHits l D cI cJ zn izn zk izk zu izu zd izd zs izs) (va_cwS 5 hts gX11_odds_X11_isHits rfl rfl rfl (by decide +kernel) ⟨(Nat.le_of_ble_eq_true rfl), (Nat.le_of_ble_eq_true rfl)⟩) hK hP hD hS hA [] [0, 1, 2] rfl rfl rfl rfl (by decide) rfl hl.1 rfl (Nat.le_of_ble_eq_true rfl) dX11_odds_12 ⟨(Nat.le_of_ble_eq_true rfl), (Nat.le_of_ble_eq_true rfl)⟩ (Nat.le_of_ble_eq_true rfl) (Nat.le_of_ble_eq_true rfl) (fun r_12 u9 H locs hw hP hD hS => ?_)
  obtain u9 := u9
  try dsimp only at hw
  obtain ⟨b1, wa1, wb1, wc1⟩ := hw
  have hP : va_P D vwCl [(mz, .inr (10, [.int (iZ ((0 : Nat) : Int)), .ref sA, .ref sB, .int (iZ ((rn : Nat) : Int)), .ref gO, .ref xO, .ref yO, .int (iZ ((un : Nat) : Int)), .ref dO, .ref zO, .ref wO, .ref mO, .int (iZ ((mn : Nat) : Int)), .ref aO, .ref bO, .int (iZ ((kc : Nat) : Int)), .ref uO, .ref vO, .int (iZ ((hT : Nat) : Int)), .int (iZ ((tu : Nat) : Int)), .int (iZ ((td : Nat) : Int)), .int (iZ ((ta : Nat) : Int)), .int (iZ ((tb : Nat) : Int)), .int (iZ ((tt : Nat) : Int)), .int (iZ ((tk : Nat) : Int)), .int (iZ ((tj : Nat) : Int))])), (sA, .inl (cI, 32, .inl (LI g1))), (sB, .inl (cI, 32, .inl (LI g2)))] H := hP
  have hD : va_D A [(mz, .inr (10, [.int (iZ ((0 : Nat) : Int)), .ref sA, .ref sB, .int (iZ ((rn : Nat) : Int)), .ref gO, .ref xO, .ref yO, .int (iZ ((un : Nat) : Int)), .ref dO, .ref zO, .ref wO, .ref mO, .int (iZ ((mn : Nat) : Int)), .ref aO, .ref bO, .int (iZ ((kc : Nat) : Int)), .ref uO, .ref vO, .int (iZ ((hT : Nat) : Int)), .int (iZ ((tu : Nat) : Int)), .int (iZ ((td : Nat) : Int)), .int (iZ ((ta : Nat) : Int)), .int (iZ ((tb : Nat) : Int)), .int (iZ ((tt : Nat) : Int)), .int (iZ ((tk : Nat) : Int)), .int (iZ ((tj : Nat) : Int))])), (sA, .inl (cI, 32, .inl (LI g1))), (sB, .inl (cI, 32, .inl (LI g2)))] := hD
  refine tp_i (y := (iZ (b1))) (wa1) ?_
  refine zb_if_eq (x := (b1)) (tgt := 44) hx hb dX11_odds_15 (by decide) ⟨by omega, by omega⟩ (fun c_15 => ?_) (fun c_15 => ?_)
  · have nv1 : ¬ vHits zn zk zu zd zs := fun h9 => absurd (wc1.mpr h9) (by omega)
    clear wc1
    refine zc_iconst (z := (-1 : Int)) hx hb dX11_odds_44 (by decide) ?_
    exact hret _ (g1, g2) _ _ _ _ _ _ (Nat.le_of_ble_eq_true rfl) (Nat.le_of_ble_eq_true rfl) rfl dX11_odds_45 (by first | exact ⟨fun h9 => absurd h9.1 nv1, fun _ => rfl⟩ | exact ⟨fun h9 => absurd h9.2 (by omega), fun _ => rfl⟩) hP hD hS
  · have hv1 : vHits zn zk zu zd zs := wc1.mp (by omega)
    clear wc1
    obtain ⟨⟨v1, v2⟩, ⟨v3, v4⟩, ⟨v5, v6⟩, ⟨v7, v8⟩, v9⟩ := hv1
    refine lv_iload hx hb dX11_odds_18 (lv_at hl 7 rfl) ?_
    refine z_i2l (z := (zb)) hx hb dX11_odds_20 ⟨by omega, by omega⟩ rfl ?_
    refine zc_lconst (z := ((1 : Nat) : Int)) hx hb dX11_odds_21 (by decide) ?_
    refine lv_ldc2 hx hb hown hh_2 dX11_odds_22 (tp_l (y := lZ ((1000 : Nat) : Int)) (by decide) ?_)
    refine ca_iS [.long (lZ (zb)), .long (lZ ((1 : Nat) : Int)), .long (lZ ((1000 : Nat) : Int))] [] [(mz, .inr (10, [.int (iZ ((0 : Nat) : Int)), .ref sA, .ref sB, .int (iZ ((rn : Nat) : Int)), .ref gO, .ref xO, .ref yO, .int (iZ ((un : Nat) : Int)), .ref dO, .ref zO, .ref wO, .ref mO, .int (iZ ((mn : Nat) : Int)), .ref aO, .ref bO, .int (iZ ((kc : Nat) : Int)), .ref uO, .ref vO, .int (iZ ((hT : Nat) : Int)), .int (iZ ((tu : Nat) : Int)), .int (iZ ((td : Nat) : Int)), .int (iZ ((ta : Nat) : Int)), .int (iZ ((tb : Nat) : Int)), .int (iZ ((tt : Nat) : Int)), .int (iZ ((tk : Nat) : Int)), .int (iZ ((tj : Nat) : Int))])), (sA, .inl (cI, 32, .inl (LI g1))), (sB, .inl (cI, 32, .inl (LI g2)))] 0 0 ⟨hx, hb, hml, hown, hts⟩ (c_X11_in l D cI cJ zb ((1 : Nat) : Int) ((1000 : Nat) : Int) ⟨by omega, by omega⟩ ⟨by omega, by omega⟩ ⟨by omega, by omega⟩) (va_cwS 3 hts gX11_odds_X11_in rfl rfl rfl (by decide +kernel) ⟨(Nat.le_of_ble_eq_true rfl), (Nat.le_of_ble_eq_true rfl)⟩) hK hP hD hS hA [] [0, 1, 2] rfl rfl rfl rfl (by decide) rfl hl.1 rfl (Nat.le_of_ble_eq_true rfl) dX11_odds_25 ⟨(Nat.le_of_ble_eq_true rfl), (Nat.le_of_ble_eq_true rfl)⟩ (Nat.le_of_ble_eq_true rfl) (Nat.le_of_ble_eq_true rfl) (fun r_25 u9 H locs hw hP hD hS => ?_)
    obtain u9 := u9
    try dsimp only at hw
    obtain ⟨b2, wa2, wb2, wc2⟩ := hw
    have hP : va_P D vwCl [(mz, .inr (10, [.int (iZ ((0 : Nat) : Int)), .ref sA, .ref sB, .int (iZ ((rn : Nat) : Int)), .ref gO, .ref xO, .ref yO, .int (iZ ((un : Nat) : Int)), .ref dO, .ref zO, .ref wO, .ref mO, .int (iZ ((mn : Nat) : Int)), .ref aO, .ref bO, .int (iZ ((kc : Nat) : Int)), .ref uO, .ref vO, .int (iZ ((hT : Nat) : Int)), .int (iZ ((tu : Nat) : Int)), .int (iZ ((td : Nat) : Int)), .int (iZ ((ta : Nat) : Int)), .int (iZ ((tb : Nat) : Int)), .int (iZ ((tt : Nat) : Int)), .int (iZ ((tk : Nat) : Int)), .int (iZ ((tj : Nat) : Int))])), (sA, .inl (cI, 32, .inl (LI g1))), (sB, .inl (cI, 32, .inl (LI g2)))] H := hP
    have hD : va_D A [(mz, .inr (10, [.int (iZ ((0 : Nat) : Int)), .ref sA, .ref sB, .int (iZ ((rn : Nat) : Int)), .ref gO, .ref xO, .ref yO, .int (iZ ((un : Nat) : Int)), .ref dO, .ref zO, .ref wO, .ref mO, .int (iZ ((mn : Nat) : Int)), .ref aO, .ref bO, .int (iZ ((kc : Nat) : Int)), .ref uO, .ref vO, .int (iZ ((hT : Nat) : Int)), .int (iZ ((tu : Nat) : Int)), .int (iZ ((td : Nat) : Int)), .int (iZ ((ta : Nat) : Int)), .int (iZ ((tb : Nat) : Int)), .int (iZ ((tt : Nat) : Int)), .int (iZ ((tk : Nat) : Int)), .int (iZ ((tj : Nat) : Int))])), (sA, .inl (cI, 32, .inl (LI g1))), (sB, .inl (cI, 32, .inl (LI g2)))] := hD
    refine tp_i (y := (iZ (b2))) (wa2) ?_
    refine zb_if_eq (x := (b2)) (tgt := 44) hx hb dX11_odds_28 (by decide) ⟨by omega, by omega⟩ (fun c_28 => ?_) (fun c_28 => ?_)
    · refine zc_iconst (z := (-1 : Int)) hx hb dX11_odds_44 (by decide) ?_
      exact hret _ (g1, g2) _ _ _ _ _ _ (Nat.le_of_ble_eq_true rfl) (Nat.le_of_ble_eq_true rfl) rfl dX11_odds_45 (by first | exact ⟨fun h9 => absurd h9.1 nv1, fun _ => rfl⟩ | exact ⟨fun h9 => absurd h9.2 (by omega), fun _ => rfl⟩) hP hD hS
    · refine lv_iload hx hb dX11_odds_31 (lv_at hl 6 rfl) ?_
      refine z_i2l (z := (za)) hx hb dX11_odds_33 ⟨by omega, by omega⟩ rfl ?_
      refine zc_lconst (z := ((0 : Nat) : Int)) hx hb dX11_odds_34 (by decide) ?_
      refine lv_iload hx hb dX11_odds_35 (lv_at hl 7 rfl) ?_
      refine z_i2l (z := (zb)) hx hb dX11_odds_37 ⟨by omega, by omega⟩ rfl ?_
      refine ca_iS [.long (lZ (za)), .long (lZ ((0 : Nat) : Int)), .long (lZ (zb))] [] [(mz, .inr (10, [.int (iZ ((0 : Nat) : Int)), .ref sA, .ref sB, .int (iZ ((rn : Nat) : Int)), .ref gO, .ref xO, .ref yO, .int (iZ ((un : Nat) : Int)), .ref dO, .ref zO, .ref wO, .ref mO, .int (iZ ((mn : Nat) : Int)), .ref aO, .ref bO, .int (iZ ((kc : Nat) : Int)), .ref uO, .ref vO, .int (iZ ((hT : Nat) : Int)), .int (iZ ((tu : Nat) : Int)), .int (iZ ((td : Nat) : Int)), .int (iZ ((ta : Nat) : Int)), .int (iZ ((tb : Nat) : Int)), .int (iZ ((tt : Nat) : Int)), .int (iZ ((tk : Nat) : Int)), .int (iZ ((tj : Nat) : Int))])), (sA, .inl (cI, 32, .inl (LI g1))), (sB, .inl (cI, 32, .inl (LI g2)))] 0 0 ⟨hx, hb, hml, hown, hts⟩ (c_X11_in l D cI cJ za ((0 : Nat) : Int) zb ⟨by omega, by omega⟩ ⟨by omega, by omega⟩ ⟨by omega, by omega⟩) (va_cwS 3 hts gX11_odds_X11_in rfl rfl rfl (by decide +kernel) ⟨(Nat.le_of_ble_eq_true rfl), (Nat.le_of_ble_eq_true rfl)⟩) hK hP hD hS hA [] [0, 1, 2] rfl rfl rfl rfl (by decide) rfl hl.1 rfl (Nat.le_of_ble_eq_true rfl) dX11_odds_38 ⟨(Nat.le_of_ble_eq_true rfl), (Nat.le_of_ble_eq_true rfl)⟩ (Nat.le_of_ble_eq_true rfl) (Nat.le_of_ble_eq_true rfl) (fun r_38 u9 H locs hw hP hD hS => ?_)
      obtain u9 := u9
      try dsimp only at hw
      obtain ⟨b3, wa3, wb3, wc3⟩ := hw
      have hP : va_P D vwCl [(mz, .inr (10, [.int (iZ ((0 : Nat) : Int)), .ref sA, .ref sB, .int (iZ ((rn : Nat) : Int)), .ref gO, .ref xO, .ref yO, .int (iZ ((un : Nat) : Int)), .ref dO, .ref zO, .ref wO, .ref mO, .int (iZ ((mn : Nat) : Int)), .ref aO, .ref bO, .int (iZ ((kc : Nat) : Int)), .ref uO, .ref vO, .int (iZ ((hT : Nat) : Int)), .int (iZ ((tu : Nat) : Int)), .int (iZ ((td : Nat) : Int)), .int (iZ ((ta : Nat) : Int)), .int (iZ ((tb : Nat) : Int)), .int (iZ ((tt : Nat) : Int)), .int (iZ ((tk : Nat) : Int)), .int (iZ ((tj : Nat) : Int))])), (sA, .inl (cI, 32, .inl (LI g1))), (sB, .inl (cI, 32, .inl (LI g2)))] H := hP
      have hD : va_D A [(mz, .inr (10, [.int (iZ ((0 : Nat) : Int)), .ref sA, .ref sB, .int (iZ ((rn : Nat) : Int)), .ref gO, .ref xO, .ref yO, .int (iZ ((un : Nat) : Int)), .ref dO, .ref zO, .ref wO, .ref mO, .int (iZ ((mn : Nat) : Int)), .ref aO, .ref bO, .int (iZ ((kc : Nat) : Int)), .ref uO, .ref vO, .int (iZ ((hT : Nat) : Int)), .int (iZ ((tu : Nat) : Int)), .int (iZ ((td : Nat) : Int)), .int (iZ ((ta : Nat) : Int)), .int (iZ ((tb : Nat) : Int)), .int (iZ ((tt : Nat) : Int)), .int (iZ ((tk : Nat) : Int)), .int (iZ ((tj : Nat) : Int))])), (sA, .inl (cI, 32, .inl (LI g1))), (sB, .inl (cI, 32, .inl (LI g2)))] := hD
      refine tp_i (y := (iZ (b3))) (wa3) ?_
      refine zb_if_ne (x := (b3)) (tgt := 46) hx hb dX11_odds_41 (by decide) ⟨by omega, by omega⟩ (fun c_41 => ?_) (fun c_41 => ?_)
      · obtain ⟨n, rfl⟩ : ∃ x9 : Nat, zn = (x9 : Int) := ⟨zn.toNat, by omega⟩
        obtain ⟨k, rfl⟩ : ∃ x9 : Nat, zk = (x9 : Int) := ⟨zk.toNat, by omega⟩
        obtain ⟨up, rfl⟩ : ∃ x9 : Nat, zu = (x9 : Int) := ⟨zu.toNat, by omega⟩
        obtain ⟨down, rfl⟩ : ∃ x9 : Nat, zd = (x9 : Int) := ⟨zd.toNat, by omega⟩
        obtain ⟨side, rfl⟩ : ∃ x9 : Nat, zs = (x9 : Int) := ⟨zs.toNat, by omega⟩
        obtain ⟨a, rfl⟩ : ∃ x9 : Nat, za = (x9 : Int) := ⟨za.toNat, by omega⟩
        obtain ⟨b, rfl⟩ : ∃ x9 : Nat, zb = (x9 : Int) := ⟨zb.toNat, by omega⟩
        refine zc_iconst (z := ((1 : Nat) : Int)) hx hb dX11_odds_46 (by decide) ?_
        refine lv_aload_n hx hb dX11_odds_47 rfl (lv_at hl 0 rfl) ?_
        refine lv_iload_n hx hb dX11_odds_48 rfl (lv_at hl 1 rfl) ?_
        refine lv_iload_n hx hb dX11_odds_49 rfl (lv_at hl 2 rfl) ?_
        refine lv_iload_n hx hb dX11_odds_50 rfl (lv_at hl 3 rfl) ?_
        refine lv_iload hx hb dX11_odds_51 (lv_at hl 4 rfl) ?_
        refine lv_iload hx hb dX11_odds_53 (lv_at hl 5 rfl) ?_
        refine lv_iload hx hb dX11_odds_55 (lv_at hl 6 rfl) ?_
        refine lv_iload hx hb dX11_odds_57 (lv_at hl 7 rfl) ?_
        refine ca_iV [.int (iZ ((n : Nat) : Int)), .int (iZ ((k : Nat) : Int)), .int (iZ ((up : Nat) : Int)), .int (iZ ((down : Nat) : Int)), .int (iZ ((side : Nat) : Int)), .int (iZ ((a : Nat) : Int)), .int (iZ ((b : Nat) : Int))] [.int (iZ ((1 : Nat) : Int))] [] 0 0 ⟨hx, hb, hml, hown, hts⟩ (c_X11_beside l D cI cJ mz sA sB gO xO yO dO zO wO mO aO bO uO vO 0 rn un mn kc hT tu td ta tb tt tk tj g1 g2 n k up down side (by omega) (by omega) (by omega) (by omega) (by omega) a b (by omega) (by omega)) (cwV 7 hts gX11_odds_X11_beside rfl rfl rfl (by decide +kernel) ⟨(Nat.le_of_ble_eq_true rfl), (Nat.le_of_ble_eq_true rfl)⟩) hK hP hD hS hA [0, 1, 2] [] rfl rfl rfl rfl (by decide) 0 rfl rfl rfl hl.1 rfl (Nat.le_of_ble_eq_true rfl) dX11_odds_59 ⟨(Nat.le_of_ble_eq_true rfl), (Nat.le_of_ble_eq_true rfl)⟩ (Nat.le_of_ble_eq_true rfl) (Nat.le_of_ble_eq_true rfl) (fun r_59 u9 H locs hw hP hD hS => ?_)
        obtain ⟨gA, gB⟩ := u9
        try dsimp only at hw
        have hP : va_P D vwCl [(mz, .inr (10, [.int (iZ ((0 : Nat) : Int)), .ref sA, .ref sB, .int (iZ ((rn : Nat) : Int)), .ref gO, .ref xO, .ref yO, .int (iZ ((un : Nat) : Int)), .ref dO, .ref zO, .ref wO, .ref mO, .int (iZ ((mn : Nat) : Int)), .ref aO, .ref bO, .int (iZ ((kc : Nat) : Int)), .ref uO, .ref vO, .int (iZ ((hT : Nat) : Int)), .int (iZ ((tu : Nat) : Int)), .int (iZ ((td : Nat) : Int)), .int (iZ ((ta : Nat) : Int)), .int (iZ ((tb : Nat) : Int)), .int (iZ ((tt : Nat) : Int)), .int (iZ ((tk : Nat) : Int)), .int (iZ ((tj : Nat) : Int))])), (sA, .inl (cI, 32, .inl (LI gA))), (sB, .inl (cI, 32, .inl (LI gB)))] H := hP
        have hD : va_D A [(mz, .inr (10, [.int (iZ ((0 : Nat) : Int)), .ref sA, .ref sB, .int (iZ ((rn : Nat) : Int)), .ref gO, .ref xO, .ref yO, .int (iZ ((un : Nat) : Int)), .ref dO, .ref zO, .ref wO, .ref mO, .int (iZ ((mn : Nat) : Int)), .ref aO, .ref bO, .int (iZ ((kc : Nat) : Int)), .ref uO, .ref vO, .int (iZ ((hT : Nat) : Int)), .int (iZ ((tu : Nat) : Int)), .int (iZ ((td : Nat) : Int)), .int (iZ ((ta : Nat) : Int)), .int (iZ ((tb : Nat) : Int)), .int (iZ ((tt : Nat) : Int)), .int (iZ ((tk : Nat) : Int)), .int (iZ ((tj : Nat) : Int))])), (sA, .inl (cI, 32, .inl (LI gA))), (sB, .inl (cI, 32, .inl (LI gB)))] := hD
        refine tp_i (y := (iZ (cmpZ (habv n k up down side * b) (a * down ^ n)))) (hw) ?_
        refine zi_add (z := (((1 : Nat) : Int) + (cmpZ (habv n k up down side * b) (a * down ^ n)))) hx hb dX11_odds_62 rfl ?_
        exact hret _ (gA, gB) _ _ _ _ _ _ (Nat.le_of_ble_eq_true rfl) (Nat.le_of_ble_eq_true rfl) rfl dX11_odds_63 (⟨fun _ => rfl, fun h9 => absurd ⟨⟨⟨by omega, by omega⟩, ⟨by omega, by omega⟩, ⟨by omega, by omega⟩, ⟨by omega, by omega⟩, by omega⟩, ⟨by omega, by omega⟩, ⟨by omega, by omega⟩⟩ h9⟩) hP hD hS
      · refine zc_iconst (z := (-1 : Int)) hx hb dX11_odds_44 (by decide) ?_
        exact hret _ (g1, g2) _ _ _ _ _ _ (Nat.le_of_ble_eq_true rfl) (Nat.le_of_ble_eq_true rfl) rfl dX11_odds_45 (by first | exact ⟨fun h9 => absurd h9.1 nv1, fun _ => rfl⟩ | exact ⟨fun h9 => absurd h9.2 (by omega), fun _ => rfl⟩) hP hD hS
theorem habv_m {n k q : Nat} (hk : k ≤ n) (hq : q ≤ 1000) : habv n (n - k) (1000 - q) 1000 1 = habv n k q 1000 0 := by
  unfold habv
  rw [if_neg (by decide), if_pos rfl, show n - (n - k) = k by omega, show 1000 - (1000 - q) = q by omega]
def rmX11_bound : Room := { frames := 4, cells := 0, slots := 0, locals := 105 }
set_option maxHeartbeats 4000000 in
set_option maxRecDepth 100000 in
theorem c_X11_bound (l : Launch) (D : va_G) (cI cJ : ClassId) (mz sA sB gO xO yO dO zO wO mO aO bO uO vO : Nat) (th rn un mn kc hT tu td ta tb tt tk tj : Nat) (g1 g2 : Nat → Nat) (zn : Int) (izn : iR zn) (zk : Int) (izk : iR zk) (zs : Int) (izs : iR zs) (za : Int) (iza : iR za) (zb : Int) (izb : iR zb) : Ci l D vwCl (tyT cI cJ) yX11_bound wsX11_bound rmX11_bound [.ref mz, .int (iZ (zn)), .int (iZ (zk)), .int (iZ (zs)), .int (iZ (za)), .int (iZ (zb))] [(mz, .inr (10, [.int (iZ ((th : Nat) : Int)), .ref sA, .ref sB, .int (iZ ((rn : Nat) : Int)), .ref gO, .ref xO, .ref yO, .int (iZ ((un : Nat) : Int)), .ref dO, .ref zO, .ref wO, .ref mO, .int (iZ ((mn : Nat) : Int)), .ref aO, .ref bO, .int (iZ ((kc : Nat) : Int)), .ref uO, .ref vO, .int (iZ ((hT : Nat) : Int)), .int (iZ ((tu : Nat) : Int)), .int (iZ ((td : Nat) : Int)), .int (iZ ((ta : Nat) : Int)), .int (iZ ((tb : Nat) : Int)), .int (iZ ((tt : Nat) : Int)), .int (iZ ((tk : Nat) : Int)), .int (iZ ((tj : Nat) : Int))])), (sA, .inl (cI, 32, .inl (LI g1))), (sB, .inl (cI, 32, .inl (LI g2)))] (Nat × (Nat → Nat) × (Nat → Nat)) (fun r u => sBound zn zk zs za zb r ∧ (vBound zn zk zs ∧ ¬ vTrust za zb → u.1 = 1) ∧ (¬ (vBound zn zk zs ∧ ¬ vTrust za zb) → u.1 = 0)) (fun r => [(mz, .inr (10, [.int (iZ ((r.1 : Nat) : Int)), .ref sA, .ref sB, .int (iZ ((rn : Nat) : Int)), .ref gO, .ref xO, .ref yO, .int (iZ ((un : Nat) : Int)), .ref dO, .ref zO, .ref wO, .ref mO, .int (iZ ((mn : Nat) : Int)), .ref aO, .ref bO, .int (iZ ((kc : Nat) : Int)), .ref uO, .ref vO, .int (iZ ((hT : Nat) : Int)), .int (iZ ((tu : Nat) : Int)), .int (iZ ((td : Nat) : Int)), .int (iZ ((ta : Nat) : Int)), .int (iZ ((tb : Nat) : Int)), .int (iZ ((tt : Nat) : Int)), .int (iZ ((tk : Nat) : Int)), .int (iZ ((tj : Nat) : Int))])), (sA, .inl (cI, 32, .inl (LI r.2.1))), (sB, .inl (cI, 32, .inl (LI r.2.2)))]) := by
  refine en_i (cc := cX11_bound) (maxL := 10) (by decide) rfl [(0, .ref mz), (1, .int (iZ (zn))), (2, .int (iZ (zk))), (3, .int (iZ (zs))), (4, .int (iZ (za))), (5, .int (iZ (zb)))] (Nat.le_of_ble_eq_true rfl) rfl ?_
  intro p e s m args below meth c Q A hx hb hml hown hts hnm hK hP hD hA hS hret ls hl
  have hh_0 := hts (.fieldLink RX11 50 "BoundDrawsModel" "thrown" "I") (by decide +kernel)
  have hh_1 := (show ∀ w ∈ wsX110, w ∈ wsX11_bound by decide +kernel)
  have hh_2 := hts (.constantLong RX11 76 (30)) (by decide +kernel)
  refine lv_aload_n hx hb dX11_bound_0 rfl (lv_at hl 0 rfl) ?_
  refine zc_iconst (z := ((0 : Nat) : Int)) hx hb dX11_bound_1 (by decide) ?_
  refine va_put (D := D) (ci := 10) (v := .int (iZ ((0 : Nat) : Int))) (ty := .int) (C := RX11) (T := TX11) (N := 26) hx hb hts hh_1 tyX11 tyX11_ok nmX11 hown hK hP hD hS 0 rfl rfl 0 (by decide) hh_0 (fun _ h9 => h9) rfl (by decide +kernel) rfl rfl (Nat.le_of_ble_eq_true rfl) dX11_bound_2 (fun H locs hP hD hS => ?_)
  have hP : va_P D vwCl [(mz, .inr (10, [.int (iZ ((0 : Nat) : Int)), .ref sA, .ref sB, .int (iZ ((rn : Nat) : Int)), .ref gO, .ref xO, .ref yO, .int (iZ ((un : Nat) : Int)), .ref dO, .ref zO, .ref wO, .ref mO, .int (iZ ((mn : Nat) : Int)), .ref aO, .ref bO, .int (iZ ((kc : Nat) : Int)), .ref uO, .ref vO, .int (iZ ((hT : Nat) : Int)), .int (iZ ((tu : Nat) : Int)), .int (iZ ((td : Nat) : Int)), .int (iZ ((ta : Nat) : Int)), .int (iZ ((tb : Nat) : Int)), .int (iZ ((tt : Nat) : Int)), .int (iZ ((tk : Nat) : Int)), .int (iZ ((tj : Nat) : Int))])), (sA, .inl (cI, 32, .inl (LI g1))), (sB, .inl (cI, 32, .inl (LI g2)))] H := hP
  have hD : va_D A [(mz, .inr (10, [.int (iZ ((0 : Nat) : Int)), .ref sA, .ref sB, .int (iZ ((rn : Nat) : Int)), .ref gO, .ref xO, .ref yO, .int (iZ ((un : Nat) : Int)), .ref dO, .ref zO, .ref wO, .ref mO, .int (iZ ((mn : Nat) : Int)), .ref aO, .ref bO, .int (iZ ((kc : Nat) : Int)), .ref uO, .ref vO, .int (iZ ((hT : Nat) : Int)), .int (iZ ((tu : Nat) : Int)), .int (iZ ((td : Nat) : Int)), .int (iZ ((ta : Nat) : Int)), .int (iZ ((tb : Nat) : Int)), .int (iZ ((tt : Nat) : Int)), .int (iZ ((tk : Nat) : Int)), .int (iZ ((tj : Nat) : Int))])), (sA, .inl (cI, 32, .inl (LI g1))), (sB, .inl (cI, 32, .inl (LI g2)))] := hD
  refine lv_iload_n hx hb dX11_bound_5 rfl (lv_at hl 1 rfl) ?_
  refine z_i2l (z := (zn)) hx hb dX11_bound_6 ⟨by omega, by omega⟩ rfl ?_
  refine zc_lconst (z := ((1 : Nat) : Int)) hx hb dX11_bound_7 (by decide) ?_
  refine lv_ldc2 hx hb hown hh_2 dX11_bound_8 (tp_l (y := lZ ((30 : Nat) : Int)) (by decide) ?_)
  refine ca_iS [.long (lZ (zn)), .long (lZ ((1 : Nat) : Int)), .long (lZ ((30 : Nat) : Int))] [] [(mz, .inr (10, [.int (iZ ((0 : Nat) : Int)), .ref sA, .ref sB, .int (iZ ((rn : Nat) : Int)), .ref gO, .ref xO, .ref yO, .int (iZ ((un : Nat) : Int)), .ref dO, .ref zO, .ref wO, .ref mO, .int (iZ ((mn : Nat) : Int)), .ref aO, .ref bO, .int (iZ ((kc : Nat) : Int)), .ref uO, .ref vO, .int (iZ ((hT : Nat) : Int)), .int (iZ ((tu : Nat) : Int)), .int (iZ ((td : Nat) : Int)), .int (iZ ((ta : Nat) : Int)), .int (iZ ((tb : Nat) : Int)), .int (iZ ((tt : Nat) : Int)), .int (iZ ((tk : Nat) : Int)), .int (iZ ((tj : Nat) : Int))])), (sA, .inl (cI, 32, .inl (LI g1))), (sB, .inl (cI, 32, .inl (LI g2)))] 0 0 ⟨hx, hb, hml, hown, hts⟩ (c_X11_in l D cI cJ zn ((1 : Nat) : Int) ((30 : Nat) : Int) ⟨by omega, by omega⟩ ⟨by omega, by omega⟩ ⟨by omega, by omega⟩) (va_cwS 3 hts gX11_bound_X11_in rfl rfl rfl (by decide +kernel) ⟨(Nat.le_of_ble_eq_true rfl), (Nat.le_of_ble_eq_true rfl)⟩) hK hP hD hS hA [] [0, 1, 2] rfl rfl rfl rfl (by decide) rfl hl.1 rfl (Nat.le_of_ble_eq_true rfl) dX11_bound_11 ⟨(Nat.le_of_ble_eq_true rfl), (Nat.le_of_ble_eq_true rfl)⟩ (Nat.le_of_ble_eq_true rfl) (Nat.le_of_ble_eq_true rfl) (fun r_11 u9 H locs hw hP hD hS => ?_)
  obtain u9 := u9
  try dsimp only at hw
  obtain ⟨b1, wa1, wb1, wc1⟩ := hw
  have hP : va_P D vwCl [(mz, .inr (10, [.int (iZ ((0 : Nat) : Int)), .ref sA, .ref sB, .int (iZ ((rn : Nat) : Int)), .ref gO, .ref xO, .ref yO, .int (iZ ((un : Nat) : Int)), .ref dO, .ref zO, .ref wO, .ref mO, .int (iZ ((mn : Nat) : Int)), .ref aO, .ref bO, .int (iZ ((kc : Nat) : Int)), .ref uO, .ref vO, .int (iZ ((hT : Nat) : Int)), .int (iZ ((tu : Nat) : Int)), .int (iZ ((td : Nat) : Int)), .int (iZ ((ta : Nat) : Int)), .int (iZ ((tb : Nat) : Int)), .int (iZ ((tt : Nat) : Int)), .int (iZ ((tk : Nat) : Int)), .int (iZ ((tj : Nat) : Int))])), (sA, .inl (cI, 32, .inl (LI g1))), (sB, .inl (cI, 32, .inl (LI g2)))] H := hP
  have hD : va_D A [(mz, .inr (10, [.int (iZ ((0 : Nat) : Int)), .ref sA, .ref sB, .int (iZ ((rn : Nat) : Int)), .ref gO, .ref xO, .ref yO, .int (iZ ((un : Nat) : Int)), .ref dO, .ref zO, .ref wO, .ref mO, .int (iZ ((mn : Nat) : Int)), .ref aO, .ref bO, .int (iZ ((kc : Nat) : Int)), .ref uO, .ref vO, .int (iZ ((hT : Nat) : Int)), .int (iZ ((tu : Nat) : Int)), .int (iZ ((td : Nat) : Int)), .int (iZ ((ta : Nat) : Int)), .int (iZ ((tb : Nat) : Int)), .int (iZ ((tt : Nat) : Int)), .int (iZ ((tk : Nat) : Int)), .int (iZ ((tj : Nat) : Int))])), (sA, .inl (cI, 32, .inl (LI g1))), (sB, .inl (cI, 32, .inl (LI g2)))] := hD
  refine tp_i (y := (iZ (b1))) (wa1) ?_
  refine zb_if_eq (x := (b1)) (tgt := 38) hx hb dX11_bound_14 (by decide) ⟨by omega, by omega⟩ (fun c_14 => ?_) (fun c_14 => ?_)
  · have nb : ¬ vBound zn zk zs := fun h9 => by have h8 := h9.1; omega
    refine zc_iconst (z := (-1 : Int)) hx hb dX11_bound_38 (by decide) ?_
    exact hret _ (0, g1, g2) _ _ _ _ _ _ (Nat.le_of_ble_eq_true rfl) (Nat.le_of_ble_eq_true rfl) rfl dX11_bound_39 (⟨⟨fun h9 => absurd h9 nb, fun _ => rfl⟩, fun h9 => absurd h9.1 nb, fun _ => rfl⟩) hP hD hS
  · refine lv_iload_n hx hb dX11_bound_17 rfl (lv_at hl 2 rfl) ?_
    refine z_i2l (z := (zk)) hx hb dX11_bound_18 ⟨by omega, by omega⟩ rfl ?_
    refine zc_lconst (z := ((0 : Nat) : Int)) hx hb dX11_bound_19 (by decide) ?_
    refine lv_iload_n hx hb dX11_bound_20 rfl (lv_at hl 1 rfl) ?_
    refine z_i2l (z := (zn)) hx hb dX11_bound_21 ⟨by omega, by omega⟩ rfl ?_
    refine ca_iS [.long (lZ (zk)), .long (lZ ((0 : Nat) : Int)), .long (lZ (zn))] [] [(mz, .inr (10, [.int (iZ ((0 : Nat) : Int)), .ref sA, .ref sB, .int (iZ ((rn : Nat) : Int)), .ref gO, .ref xO, .ref yO, .int (iZ ((un : Nat) : Int)), .ref dO, .ref zO, .ref wO, .ref mO, .int (iZ ((mn : Nat) : Int)), .ref aO, .ref bO, .int (iZ ((kc : Nat) : Int)), .ref uO, .ref vO, .int (iZ ((hT : Nat) : Int)), .int (iZ ((tu : Nat) : Int)), .int (iZ ((td : Nat) : Int)), .int (iZ ((ta : Nat) : Int)), .int (iZ ((tb : Nat) : Int)), .int (iZ ((tt : Nat) : Int)), .int (iZ ((tk : Nat) : Int)), .int (iZ ((tj : Nat) : Int))])), (sA, .inl (cI, 32, .inl (LI g1))), (sB, .inl (cI, 32, .inl (LI g2)))] 0 0 ⟨hx, hb, hml, hown, hts⟩ (c_X11_in l D cI cJ zk ((0 : Nat) : Int) zn ⟨by omega, by omega⟩ ⟨by omega, by omega⟩ ⟨by omega, by omega⟩) (va_cwS 3 hts gX11_bound_X11_in rfl rfl rfl (by decide +kernel) ⟨(Nat.le_of_ble_eq_true rfl), (Nat.le_of_ble_eq_true rfl)⟩) hK hP hD hS hA [] [0, 1, 2] rfl rfl rfl rfl (by decide) rfl hl.1 rfl (Nat.le_of_ble_eq_true rfl) dX11_bound_22 ⟨(Nat.le_of_ble_eq_true rfl), (Nat.le_of_ble_eq_true rfl)⟩ (Nat.le_of_ble_eq_true rfl) (Nat.le_of_ble_eq_true rfl) (fun r_22 u9 H locs hw hP hD hS => ?_)
    obtain u9 := u9
    try dsimp only at hw
    obtain ⟨b2, wa2, wb2, wc2⟩ := hw
    have hP : va_P D vwCl [(mz, .inr (10, [.int (iZ ((0 : Nat) : Int)), .ref sA, .ref sB, .int (iZ ((rn : Nat) : Int)), .ref gO, .ref xO, .ref yO, .int (iZ ((un : Nat) : Int)), .ref dO, .ref zO, .ref wO, .ref mO, .int (iZ ((mn : Nat) : Int)), .ref aO, .ref bO, .int (iZ ((kc : Nat) : Int)), .ref uO, .ref vO, .int (iZ ((hT : Nat) : Int)), .int (iZ ((tu : Nat) : Int)), .int (iZ ((td : Nat) : Int)), .int (iZ ((ta : Nat) : Int)), .int (iZ ((tb : Nat) : Int)), .int (iZ ((tt : Nat) : Int)), .int (iZ ((tk : Nat) : Int)), .int (iZ ((tj : Nat) : Int))])), (sA, .inl (cI, 32, .inl (LI g1))), (sB, .inl (cI, 32, .inl (LI g2)))] H := hP
    have hD : va_D A [(mz, .inr (10, [.int (iZ ((0 : Nat) : Int)), .ref sA, .ref sB, .int (iZ ((rn : Nat) : Int)), .ref gO, .ref xO, .ref yO, .int (iZ ((un : Nat) : Int)), .ref dO, .ref zO, .ref wO, .ref mO, .int (iZ ((mn : Nat) : Int)), .ref aO, .ref bO, .int (iZ ((kc : Nat) : Int)), .ref uO, .ref vO, .int (iZ ((hT : Nat) : Int)), .int (iZ ((tu : Nat) : Int)), .int (iZ ((td : Nat) : Int)), .int (iZ ((ta : Nat) : Int)), .int (iZ ((tb : Nat) : Int)), .int (iZ ((tt : Nat) : Int)), .int (iZ ((tk : Nat) : Int)), .int (iZ ((tj : Nat) : Int))])), (sA, .inl (cI, 32, .inl (LI g1))), (sB, .inl (cI, 32, .inl (LI g2)))] := hD
    refine tp_i (y := (iZ (b2))) (wa2) ?_
    refine zb_if_eq (x := (b2)) (tgt := 38) hx hb dX11_bound_25 (by decide) ⟨by omega, by omega⟩ (fun c_25 => ?_) (fun c_25 => ?_)
    · have nb : ¬ vBound zn zk zs := fun h9 => by have h8 := h9.2.1; omega
      refine zc_iconst (z := (-1 : Int)) hx hb dX11_bound_38 (by decide) ?_
      exact hret _ (0, g1, g2) _ _ _ _ _ _ (Nat.le_of_ble_eq_true rfl) (Nat.le_of_ble_eq_true rfl) rfl dX11_bound_39 (⟨⟨fun h9 => absurd h9 nb, fun _ => rfl⟩, fun h9 => absurd h9.1 nb, fun _ => rfl⟩) hP hD hS
    · refine lv_iload_n hx hb dX11_bound_28 rfl (lv_at hl 3 rfl) ?_
      refine z_i2l (z := (zs)) hx hb dX11_bound_29 ⟨by omega, by omega⟩ rfl ?_
      refine zc_lconst (z := ((0 : Nat) : Int)) hx hb dX11_bound_30 (by decide) ?_
      refine zc_lconst (z := ((1 : Nat) : Int)) hx hb dX11_bound_31 (by decide) ?_
      refine ca_iS [.long (lZ (zs)), .long (lZ ((0 : Nat) : Int)), .long (lZ ((1 : Nat) : Int))] [] [(mz, .inr (10, [.int (iZ ((0 : Nat) : Int)), .ref sA, .ref sB, .int (iZ ((rn : Nat) : Int)), .ref gO, .ref xO, .ref yO, .int (iZ ((un : Nat) : Int)), .ref dO, .ref zO, .ref wO, .ref mO, .int (iZ ((mn : Nat) : Int)), .ref aO, .ref bO, .int (iZ ((kc : Nat) : Int)), .ref uO, .ref vO, .int (iZ ((hT : Nat) : Int)), .int (iZ ((tu : Nat) : Int)), .int (iZ ((td : Nat) : Int)), .int (iZ ((ta : Nat) : Int)), .int (iZ ((tb : Nat) : Int)), .int (iZ ((tt : Nat) : Int)), .int (iZ ((tk : Nat) : Int)), .int (iZ ((tj : Nat) : Int))])), (sA, .inl (cI, 32, .inl (LI g1))), (sB, .inl (cI, 32, .inl (LI g2)))] 0 0 ⟨hx, hb, hml, hown, hts⟩ (c_X11_in l D cI cJ zs ((0 : Nat) : Int) ((1 : Nat) : Int) ⟨by omega, by omega⟩ ⟨by omega, by omega⟩ ⟨by omega, by omega⟩) (va_cwS 3 hts gX11_bound_X11_in rfl rfl rfl (by decide +kernel) ⟨(Nat.le_of_ble_eq_true rfl), (Nat.le_of_ble_eq_true rfl)⟩) hK hP hD hS hA [] [0, 1, 2] rfl rfl rfl rfl (by decide) rfl hl.1 rfl (Nat.le_of_ble_eq_true rfl) dX11_bound_32 ⟨(Nat.le_of_ble_eq_true rfl), (Nat.le_of_ble_eq_true rfl)⟩ (Nat.le_of_ble_eq_true rfl) (Nat.le_of_ble_eq_true rfl) (fun r_32 u9 H locs hw hP hD hS => ?_)
      obtain u9 := u9
      try dsimp only at hw
      obtain ⟨b3, wa3, wb3, wc3⟩ := hw
      have hP : va_P D vwCl [(mz, .inr (10, [.int (iZ ((0 : Nat) : Int)), .ref sA, .ref sB, .int (iZ ((rn : Nat) : Int)), .ref gO, .ref xO, .ref yO, .int (iZ ((un : Nat) : Int)), .ref dO, .ref zO, .ref wO, .ref mO, .int (iZ ((mn : Nat) : Int)), .ref aO, .ref bO, .int (iZ ((kc : Nat) : Int)), .ref uO, .ref vO, .int (iZ ((hT : Nat) : Int)), .int (iZ ((tu : Nat) : Int)), .int (iZ ((td : Nat) : Int)), .int (iZ ((ta : Nat) : Int)), .int (iZ ((tb : Nat) : Int)), .int (iZ ((tt : Nat) : Int)), .int (iZ ((tk : Nat) : Int)), .int (iZ ((tj : Nat) : Int))])), (sA, .inl (cI, 32, .inl (LI g1))), (sB, .inl (cI, 32, .inl (LI g2)))] H := hP
      have hD : va_D A [(mz, .inr (10, [.int (iZ ((0 : Nat) : Int)), .ref sA, .ref sB, .int (iZ ((rn : Nat) : Int)), .ref gO, .ref xO, .ref yO, .int (iZ ((un : Nat) : Int)), .ref dO, .ref zO, .ref wO, .ref mO, .int (iZ ((mn : Nat) : Int)), .ref aO, .ref bO, .int (iZ ((kc : Nat) : Int)), .ref uO, .ref vO, .int (iZ ((hT : Nat) : Int)), .int (iZ ((tu : Nat) : Int)), .int (iZ ((td : Nat) : Int)), .int (iZ ((ta : Nat) : Int)), .int (iZ ((tb : Nat) : Int)), .int (iZ ((tt : Nat) : Int)), .int (iZ ((tk : Nat) : Int)), .int (iZ ((tj : Nat) : Int))])), (sA, .inl (cI, 32, .inl (LI g1))), (sB, .inl (cI, 32, .inl (LI g2)))] := hD
      refine tp_i (y := (iZ (b3))) (wa3) ?_
      refine zb_if_ne (x := (b3)) (tgt := 40) hx hb dX11_bound_35 (by decide) ⟨by omega, by omega⟩ (fun c_35 => ?_) (fun c_35 => ?_)
      · have yb : vBound zn zk zs := ⟨by omega, by omega, by omega⟩
        clear wc1 wc2 wc3
        obtain ⟨⟨v1, v2⟩, ⟨v3, v4⟩, v5⟩ := id yb
        refine lv_iload hx hb dX11_bound_40 (lv_at hl 4 rfl) ?_
        refine lv_iload hx hb dX11_bound_42 (lv_at hl 5 rfl) ?_
        refine ca_iS [.int (iZ (za)), .int (iZ (zb))] [] [(mz, .inr (10, [.int (iZ ((0 : Nat) : Int)), .ref sA, .ref sB, .int (iZ ((rn : Nat) : Int)), .ref gO, .ref xO, .ref yO, .int (iZ ((un : Nat) : Int)), .ref dO, .ref zO, .ref wO, .ref mO, .int (iZ ((mn : Nat) : Int)), .ref aO, .ref bO, .int (iZ ((kc : Nat) : Int)), .ref uO, .ref vO, .int (iZ ((hT : Nat) : Int)), .int (iZ ((tu : Nat) : Int)), .int (iZ ((td : Nat) : Int)), .int (iZ ((ta : Nat) : Int)), .int (iZ ((tb : Nat) : Int)), .int (iZ ((tt : Nat) : Int)), .int (iZ ((tk : Nat) : Int)), .int (iZ ((tj : Nat) : Int))])), (sA, .inl (cI, 32, .inl (LI g1))), (sB, .inl (cI, 32, .inl (LI g2)))] 0 0 ⟨hx, hb, hml, hown, hts⟩ (c_X11_isTrust l D cI cJ za iza zb izb) (va_cwS 2 hts gX11_bound_X11_isTrust rfl rfl rfl (by decide +kernel) ⟨(Nat.le_of_ble_eq_true rfl), (Nat.le_of_ble_eq_true rfl)⟩) hK hP hD hS hA [] [0, 1, 2] rfl rfl rfl rfl (by decide) rfl hl.1 rfl (Nat.le_of_ble_eq_true rfl) dX11_bound_44 ⟨(Nat.le_of_ble_eq_true rfl), (Nat.le_of_ble_eq_true rfl)⟩ (Nat.le_of_ble_eq_true rfl) (Nat.le_of_ble_eq_true rfl) (fun r_44 u9 H locs hw hP hD hS => ?_)
        obtain u9 := u9
        try dsimp only at hw
        obtain ⟨b4, wa4, wb4, wc4⟩ := hw
        have hP : va_P D vwCl [(mz, .inr (10, [.int (iZ ((0 : Nat) : Int)), .ref sA, .ref sB, .int (iZ ((rn : Nat) : Int)), .ref gO, .ref xO, .ref yO, .int (iZ ((un : Nat) : Int)), .ref dO, .ref zO, .ref wO, .ref mO, .int (iZ ((mn : Nat) : Int)), .ref aO, .ref bO, .int (iZ ((kc : Nat) : Int)), .ref uO, .ref vO, .int (iZ ((hT : Nat) : Int)), .int (iZ ((tu : Nat) : Int)), .int (iZ ((td : Nat) : Int)), .int (iZ ((ta : Nat) : Int)), .int (iZ ((tb : Nat) : Int)), .int (iZ ((tt : Nat) : Int)), .int (iZ ((tk : Nat) : Int)), .int (iZ ((tj : Nat) : Int))])), (sA, .inl (cI, 32, .inl (LI g1))), (sB, .inl (cI, 32, .inl (LI g2)))] H := hP
        have hD : va_D A [(mz, .inr (10, [.int (iZ ((0 : Nat) : Int)), .ref sA, .ref sB, .int (iZ ((rn : Nat) : Int)), .ref gO, .ref xO, .ref yO, .int (iZ ((un : Nat) : Int)), .ref dO, .ref zO, .ref wO, .ref mO, .int (iZ ((mn : Nat) : Int)), .ref aO, .ref bO, .int (iZ ((kc : Nat) : Int)), .ref uO, .ref vO, .int (iZ ((hT : Nat) : Int)), .int (iZ ((tu : Nat) : Int)), .int (iZ ((td : Nat) : Int)), .int (iZ ((ta : Nat) : Int)), .int (iZ ((tb : Nat) : Int)), .int (iZ ((tt : Nat) : Int)), .int (iZ ((tk : Nat) : Int)), .int (iZ ((tj : Nat) : Int))])), (sA, .inl (cI, 32, .inl (LI g1))), (sB, .inl (cI, 32, .inl (LI g2)))] := hD
        refine tp_i (y := (iZ (b4))) (wa4) ?_
        refine zb_if_ne (x := (b4)) (tgt := 57) hx hb dX11_bound_47 (by decide) ⟨by omega, by omega⟩ (fun c_47 => ?_) (fun c_47 => ?_)
        · have yt : vTrust za zb := wc4.mp (by omega)
          clear wc4
          obtain ⟨⟨w1, w2⟩, w3, w4⟩ := id yt
          obtain ⟨n, rfl⟩ : ∃ x9 : Nat, zn = (x9 : Int) := ⟨zn.toNat, by omega⟩
          obtain ⟨k, rfl⟩ : ∃ x9 : Nat, zk = (x9 : Int) := ⟨zk.toNat, by omega⟩
          obtain ⟨side, rfl⟩ : ∃ x9 : Nat, zs = (x9 : Int) := ⟨zs.toNat, by omega⟩
          obtain ⟨a, rfl⟩ : ∃ x9 : Nat, za = (x9 : Int) := ⟨za.toNat, by omega⟩
          obtain ⟨b, rfl⟩ : ∃ x9 : Nat, zb = (x9 : Int) := ⟨zb.toNat, by omega⟩
          rcases (show side = 0 ∨ side = 1 by omega) with rfl | rfl
          · refine zc_iconst (z := ((0 : Nat) : Int)) hx hb dX11_bound_57 (by decide) ?_
            refine lv_istore (lv' := [(6, .int (iZ ((0 : Nat) : Int))), (0, .ref mz), (1, .int (iZ ((n : Nat) : Int))), (2, .int (iZ ((k : Nat) : Int))), (3, .int (iZ ((0 : Nat) : Int))), (4, .int (iZ ((a : Nat) : Int))), (5, .int (iZ ((b : Nat) : Int)))]) hx hb dX11_bound_58 hl (by decide) rfl (fun ls hl => ?_)
            refine zc_sipush (z := ((1000 : Nat) : Int)) hx hb dX11_bound_60 (by decide) ?_
            refine lv_istore (lv' := [(7, .int (iZ ((1000 : Nat) : Int))), (6, .int (iZ ((0 : Nat) : Int))), (0, .ref mz), (1, .int (iZ ((n : Nat) : Int))), (2, .int (iZ ((k : Nat) : Int))), (3, .int (iZ ((0 : Nat) : Int))), (4, .int (iZ ((a : Nat) : Int))), (5, .int (iZ ((b : Nat) : Int)))]) hx hb dX11_bound_63 hl (by decide) rfl (fun ls hl => ?_)
            have pt_65 : ∀ f : Nat, ∀ (lo hi : Nat) (g1 g2 : Nat → Nat), (hlh : lo ≤ hi) → (hh : hi ≤ 1000) → (hR : bsr (goodU n k a b) (hi - lo + 1) lo hi = upr n k a b) → (hf : hi < lo + f) → (H : Heap) → (locs : List Loc) → va_P D vwCl [(mz, .inr (10, [.int (iZ ((0 : Nat) : Int)), .ref sA, .ref sB, .int (iZ ((rn : Nat) : Int)), .ref gO, .ref xO, .ref yO, .int (iZ ((un : Nat) : Int)), .ref dO, .ref zO, .ref wO, .ref mO, .int (iZ ((mn : Nat) : Int)), .ref aO, .ref bO, .int (iZ ((kc : Nat) : Int)), .ref uO, .ref vO, .int (iZ ((hT : Nat) : Int)), .int (iZ ((tu : Nat) : Int)), .int (iZ ((td : Nat) : Int)), .int (iZ ((ta : Nat) : Int)), .int (iZ ((tb : Nat) : Int)), .int (iZ ((tt : Nat) : Int)), .int (iZ ((tk : Nat) : Int)), .int (iZ ((tj : Nat) : Int))])), (sA, .inl (cI, 32, .inl (LI g1))), (sB, .inl (cI, 32, .inl (LI g2)))] H → va_D A [(mz, .inr (10, [.int (iZ ((0 : Nat) : Int)), .ref sA, .ref sB, .int (iZ ((rn : Nat) : Int)), .ref gO, .ref xO, .ref yO, .int (iZ ((un : Nat) : Int)), .ref dO, .ref zO, .ref wO, .ref mO, .int (iZ ((mn : Nat) : Int)), .ref aO, .ref bO, .int (iZ ((kc : Nat) : Int)), .ref uO, .ref vO, .int (iZ ((hT : Nat) : Int)), .int (iZ ((tu : Nat) : Int)), .int (iZ ((td : Nat) : Int)), .int (iZ ((ta : Nat) : Int)), .int (iZ ((tb : Nat) : Int)), .int (iZ ((tt : Nat) : Int)), .int (iZ ((tk : Nat) : Int)), .int (iZ ((tj : Nat) : Int))])), (sA, .inl (cI, 32, .inl (LI g1))), (sB, .inl (cI, 32, .inl (LI g2)))] → va_S A s.heap H locs → (ls : Array Slot) → lv_has ls 10 [(7, .int (iZ ((hi : Nat) : Int))), (6, .int (iZ ((lo : Nat) : Int))), (0, .ref mz), (1, .int (iZ ((n : Nat) : Int))), (2, .int (iZ ((k : Nat) : Int))), (3, .int (iZ ((0 : Nat) : Int))), (4, .int (iZ ((a : Nat) : Int))), (5, .int (iZ ((b : Nat) : Int)))] → W p l e rmX11_bound s m args below meth c H locs 0 0 Q (F0 m 65 ls []) := by
              intro f
              induction f with
              | zero =>
                intro lo hi g1 g2 hlh hh hR hf H locs hP hD hS ls hl
                exfalso; omega
              | succ f ih_65 =>
                intro lo hi g1 g2 hlh hh hR hf H locs hP hD hS ls hl
                refine lv_iload hx hb dX11_bound_65 (lv_at hl 1 rfl) ?_
                refine lv_iload hx hb dX11_bound_67 (lv_at hl 0 rfl) ?_
                refine zb_icmp_ge (x := ((lo : Nat) : Int)) (y := ((hi : Nat) : Int)) (tgt := 195) hx hb dX11_bound_69 (by decide) ⟨by omega, by omega⟩ ⟨by omega, by omega⟩ (fun c_69 => ?_) (fun c_69 => ?_)
                · refine lv_iload hx hb dX11_bound_195 (lv_at hl 1 rfl) ?_
                  exact hret _ (0, g1, g2) _ _ _ _ _ _ (Nat.le_of_ble_eq_true rfl) (Nat.le_of_ble_eq_true rfl) rfl dX11_bound_197 (⟨⟨fun _ _ => by have h8 : lo = upr n k a b := (by rw [← hR, bsr_x (by omega) (by omega)]); rw [if_pos (by decide), Int.toNat_natCast, Int.toNat_natCast, Int.toNat_natCast, Int.toNat_natCast, ← h8], fun h9 => absurd yb h9⟩, fun h9 => absurd yt h9.2, fun _ => rfl⟩) hP hD hS
                · refine lv_iload_n hx hb dX11_bound_72 rfl (lv_at hl 5 rfl) ?_
                  refine zb_if_ne (x := ((0 : Nat) : Int)) (tgt := 86) hx hb dX11_bound_73 (by decide) ⟨by decide, by decide⟩ (fun c_73 => ?_) (fun c_73 => ?_)
                  · exact absurd c_73 (by decide)
                  · refine lv_iload hx hb dX11_bound_76 (lv_at hl 1 rfl) ?_
                    refine lv_iload hx hb dX11_bound_78 (lv_at hl 0 rfl) ?_
                    refine zi_add (z := ((lo + hi : Nat) : Int)) hx hb dX11_bound_80 (by omega) ?_
                    refine zc_iconst (z := ((2 : Nat) : Int)) hx hb dX11_bound_81 (by decide) ?_
                    refine zi_div (z := (((lo + hi) / 2 : Nat) : Int)) hx hb dX11_bound_82 (by omega) (by omega) (by omega) (by omega) (by omega) ?_
                    refine lv_goto (tgt := 95) hx hb dX11_bound_83 (by decide) ?_
                    refine lv_istore (lv' := [(8, .int (iZ (((lo + hi) / 2 : Nat) : Int))), (7, .int (iZ ((hi : Nat) : Int))), (6, .int (iZ ((lo : Nat) : Int))), (0, .ref mz), (1, .int (iZ ((n : Nat) : Int))), (2, .int (iZ ((k : Nat) : Int))), (3, .int (iZ ((0 : Nat) : Int))), (4, .int (iZ ((a : Nat) : Int))), (5, .int (iZ ((b : Nat) : Int)))]) hx hb dX11_bound_95 hl (by decide) rfl (fun ls hl => ?_)
                    refine lv_aload_n hx hb dX11_bound_97 rfl (lv_at hl 3 rfl) ?_
                    refine lv_iload_n hx hb dX11_bound_98 rfl (lv_at hl 4 rfl) ?_
                    refine lv_iload_n hx hb dX11_bound_99 rfl (lv_at hl 5 rfl) ?_
                    refine lv_iload hx hb dX11_bound_100 (lv_at hl 0 rfl) ?_
                    refine zc_sipush (z := ((1000 : Nat) : Int)) hx hb dX11_bound_102 (by decide) ?_
                    refine zc_iconst (z := ((1 : Nat) : Int)) hx hb dX11_bound_105 (by decide) ?_
                    refine lv_iload_n hx hb dX11_bound_106 rfl (lv_at hl 6 rfl) ?_
                    refine zi_sub (z := ((1 : Nat) : Int)) hx hb dX11_bound_107 (by decide) ?_
                    refine lv_iload hx hb dX11_bound_108 (lv_at hl 7 rfl) ?_
                    refine lv_iload hx hb dX11_bound_110 (lv_at hl 8 rfl) ?_
                    refine ca_iV [.int (iZ ((n : Nat) : Int)), .int (iZ ((k : Nat) : Int)), .int (iZ (((lo + hi) / 2 : Nat) : Int)), .int (iZ ((1000 : Nat) : Int)), .int (iZ ((1 : Nat) : Int)), .int (iZ ((a : Nat) : Int)), .int (iZ ((b : Nat) : Int))] [] [] 0 0 ⟨hx, hb, hml, hown, hts⟩ (c_X11_beside l D cI cJ mz sA sB gO xO yO dO zO wO mO aO bO uO vO 0 rn un mn kc hT tu td ta tb tt tk tj g1 g2 n k ((lo + hi) / 2) 1000 1 (by omega) (by omega) (by decide) (by omega) (by decide) a b (by omega) (by omega)) (cwV 7 hts gX11_bound_X11_beside rfl rfl rfl (by decide +kernel) ⟨(Nat.le_of_ble_eq_true rfl), (Nat.le_of_ble_eq_true rfl)⟩) hK hP hD hS hA [0, 1, 2] [] rfl rfl rfl rfl (by decide) 0 rfl rfl rfl hl.1 rfl (Nat.le_of_ble_eq_true rfl) dX11_bound_112 ⟨(Nat.le_of_ble_eq_true rfl), (Nat.le_of_ble_eq_true rfl)⟩ (Nat.le_of_ble_eq_true rfl) (Nat.le_of_ble_eq_true rfl) (fun r_112 u9 H locs hw hP hD hS => ?_)
                    obtain ⟨gA, gB⟩ := u9
                    try dsimp only at hw
                    have hP : va_P D vwCl [(mz, .inr (10, [.int (iZ ((0 : Nat) : Int)), .ref sA, .ref sB, .int (iZ ((rn : Nat) : Int)), .ref gO, .ref xO, .ref yO, .int (iZ ((un : Nat) : Int)), .ref dO, .ref zO, .ref wO, .ref mO, .int (iZ ((mn : Nat) : Int)), .ref aO, .ref bO, .int (iZ ((kc : Nat) : Int)), .ref uO, .ref vO, .int (iZ ((hT : Nat) : Int)), .int (iZ ((tu : Nat) : Int)), .int (iZ ((td : Nat) : Int)), .int (iZ ((ta : Nat) : Int)), .int (iZ ((tb : Nat) : Int)), .int (iZ ((tt : Nat) : Int)), .int (iZ ((tk : Nat) : Int)), .int (iZ ((tj : Nat) : Int))])), (sA, .inl (cI, 32, .inl (LI gA))), (sB, .inl (cI, 32, .inl (LI gB)))] H := hP
                    have hD : va_D A [(mz, .inr (10, [.int (iZ ((0 : Nat) : Int)), .ref sA, .ref sB, .int (iZ ((rn : Nat) : Int)), .ref gO, .ref xO, .ref yO, .int (iZ ((un : Nat) : Int)), .ref dO, .ref zO, .ref wO, .ref mO, .int (iZ ((mn : Nat) : Int)), .ref aO, .ref bO, .int (iZ ((kc : Nat) : Int)), .ref uO, .ref vO, .int (iZ ((hT : Nat) : Int)), .int (iZ ((tu : Nat) : Int)), .int (iZ ((td : Nat) : Int)), .int (iZ ((ta : Nat) : Int)), .int (iZ ((tb : Nat) : Int)), .int (iZ ((tt : Nat) : Int)), .int (iZ ((tk : Nat) : Int)), .int (iZ ((tj : Nat) : Int))])), (sA, .inl (cI, 32, .inl (LI gA))), (sB, .inl (cI, 32, .inl (LI gB)))] := hD
                    have hcr := cmpZ_r (habv n k ((lo + hi) / 2) 1000 1 * b) (a * 1000 ^ n)
                    refine tp_i (y := (iZ (cmpZ (habv n k ((lo + hi) / 2) 1000 1 * b) (a * 1000 ^ n)))) (hw) ?_
                    refine zb_if_gt (x := (cmpZ (habv n k ((lo + hi) / 2) 1000 1 * b) (a * 1000 ^ n))) (tgt := 122) hx hb dX11_bound_115 (by decide) ⟨by omega, by omega⟩ (fun c_115 => ?_) (fun c_115 => ?_)
                    · have hgd : goodU n k a b ((lo + hi) / 2) = false := by unfold goodU; rw [decide_eq_false_iff_not, ← cmpZ_le]; omega
                      refine zc_iconst (z := ((0 : Nat) : Int)) hx hb dX11_bound_122 (by decide) ?_
                      refine lv_istore (lv' := [(9, .int (iZ ((0 : Nat) : Int))), (8, .int (iZ (((lo + hi) / 2 : Nat) : Int))), (7, .int (iZ ((hi : Nat) : Int))), (6, .int (iZ ((lo : Nat) : Int))), (0, .ref mz), (1, .int (iZ ((n : Nat) : Int))), (2, .int (iZ ((k : Nat) : Int))), (3, .int (iZ ((0 : Nat) : Int))), (4, .int (iZ ((a : Nat) : Int))), (5, .int (iZ ((b : Nat) : Int)))]) hx hb dX11_bound_123 hl (by decide) rfl (fun ls hl => ?_)
                      refine lv_iload_n hx hb dX11_bound_125 rfl (lv_at hl 7 rfl) ?_
                      refine zb_if_ne (x := ((0 : Nat) : Int)) (tgt := 162) hx hb dX11_bound_126 (by decide) ⟨by decide, by decide⟩ (fun c_126 => ?_) (fun c_126 => ?_)
                      · exact absurd c_126 (by decide)
                      · refine lv_iload hx hb dX11_bound_129 (lv_at hl 0 rfl) ?_
                        refine zb_if_eq (x := ((0 : Nat) : Int)) (tgt := 139) hx hb dX11_bound_131 (by decide) ⟨by decide, by decide⟩ (fun c_131 => ?_) (fun c_131 => ?_)
                        · refine lv_iload hx hb dX11_bound_139 (lv_at hl 2 rfl) ?_
                          refine lv_istore (lv' := [(7, .int (iZ ((hi : Nat) : Int))), (9, .int (iZ ((0 : Nat) : Int))), (8, .int (iZ (((lo + hi) / 2 : Nat) : Int))), (6, .int (iZ ((lo : Nat) : Int))), (0, .ref mz), (1, .int (iZ ((n : Nat) : Int))), (2, .int (iZ ((k : Nat) : Int))), (3, .int (iZ ((0 : Nat) : Int))), (4, .int (iZ ((a : Nat) : Int))), (5, .int (iZ ((b : Nat) : Int)))]) hx hb dX11_bound_141 hl (by decide) rfl (fun ls hl => ?_)
                          refine lv_iload hx hb dX11_bound_143 (lv_at hl 1 rfl) ?_
                          refine zb_if_eq (x := ((0 : Nat) : Int)) (tgt := 153) hx hb dX11_bound_145 (by decide) ⟨by decide, by decide⟩ (fun c_145 => ?_) (fun c_145 => ?_)
                          · refine lv_iload hx hb dX11_bound_153 (lv_at hl 2 rfl) ?_
                            refine zc_iconst (z := ((1 : Nat) : Int)) hx hb dX11_bound_155 (by decide) ?_
                            refine zi_add (z := ((((lo + hi) / 2) + 1 : Nat) : Int)) hx hb dX11_bound_156 (by omega) ?_
                            refine lv_istore (lv' := [(6, .int (iZ ((((lo + hi) / 2) + 1 : Nat) : Int))), (7, .int (iZ ((hi : Nat) : Int))), (9, .int (iZ ((0 : Nat) : Int))), (8, .int (iZ (((lo + hi) / 2 : Nat) : Int))), (0, .ref mz), (1, .int (iZ ((n : Nat) : Int))), (2, .int (iZ ((k : Nat) : Int))), (3, .int (iZ ((0 : Nat) : Int))), (4, .int (iZ ((a : Nat) : Int))), (5, .int (iZ ((b : Nat) : Int)))]) hx hb dX11_bound_157 hl (by decide) rfl (fun ls hl => ?_)
                            refine lv_goto (tgt := 192) hx hb dX11_bound_159 (by decide) ?_
                            refine lv_goto (tgt := 65) hx hb dX11_bound_192 (by decide) ?_
                            exact ih_65 (((lo + hi) / 2) + 1) hi _ _ (by omega) (by omega) (by rw [← hR, bsr_f (by omega) (by omega) hgd]; exact bsr_ok _ (by omega) (by omega)) (by omega) _ _ hP hD hS ls (lv_sub hl [1, 0, 4, 5, 6, 7, 8, 9] rfl)
                          · exact absurd c_145 (by decide)
                        · exact absurd c_131 (by decide)
                    · have hgd : goodU n k a b ((lo + hi) / 2) = true := by unfold goodU; rw [decide_eq_true_eq, ← cmpZ_le]; omega
                      refine zc_iconst (z := ((1 : Nat) : Int)) hx hb dX11_bound_118 (by decide) ?_
                      refine lv_goto (tgt := 123) hx hb dX11_bound_119 (by decide) ?_
                      refine lv_istore (lv' := [(9, .int (iZ ((1 : Nat) : Int))), (8, .int (iZ (((lo + hi) / 2 : Nat) : Int))), (7, .int (iZ ((hi : Nat) : Int))), (6, .int (iZ ((lo : Nat) : Int))), (0, .ref mz), (1, .int (iZ ((n : Nat) : Int))), (2, .int (iZ ((k : Nat) : Int))), (3, .int (iZ ((0 : Nat) : Int))), (4, .int (iZ ((a : Nat) : Int))), (5, .int (iZ ((b : Nat) : Int)))]) hx hb dX11_bound_123 hl (by decide) rfl (fun ls hl => ?_)
                      refine lv_iload_n hx hb dX11_bound_125 rfl (lv_at hl 7 rfl) ?_
                      refine zb_if_ne (x := ((0 : Nat) : Int)) (tgt := 162) hx hb dX11_bound_126 (by decide) ⟨by decide, by decide⟩ (fun c_126 => ?_) (fun c_126 => ?_)
                      · exact absurd c_126 (by decide)
                      · refine lv_iload hx hb dX11_bound_129 (lv_at hl 0 rfl) ?_
                        refine zb_if_eq (x := ((1 : Nat) : Int)) (tgt := 139) hx hb dX11_bound_131 (by decide) ⟨by decide, by decide⟩ (fun c_131 => ?_) (fun c_131 => ?_)
                        · exact absurd c_131 (by decide)
                        · refine lv_iload hx hb dX11_bound_134 (lv_at hl 1 rfl) ?_
                          refine lv_goto (tgt := 141) hx hb dX11_bound_136 (by decide) ?_
                          refine lv_istore (lv' := [(7, .int (iZ (((lo + hi) / 2 : Nat) : Int))), (9, .int (iZ ((1 : Nat) : Int))), (8, .int (iZ (((lo + hi) / 2 : Nat) : Int))), (6, .int (iZ ((lo : Nat) : Int))), (0, .ref mz), (1, .int (iZ ((n : Nat) : Int))), (2, .int (iZ ((k : Nat) : Int))), (3, .int (iZ ((0 : Nat) : Int))), (4, .int (iZ ((a : Nat) : Int))), (5, .int (iZ ((b : Nat) : Int)))]) hx hb dX11_bound_141 hl (by decide) rfl (fun ls hl => ?_)
                          refine lv_iload hx hb dX11_bound_143 (lv_at hl 1 rfl) ?_
                          refine zb_if_eq (x := ((1 : Nat) : Int)) (tgt := 153) hx hb dX11_bound_145 (by decide) ⟨by decide, by decide⟩ (fun c_145 => ?_) (fun c_145 => ?_)
                          · exact absurd c_145 (by decide)
                          · refine lv_iload hx hb dX11_bound_148 (lv_at hl 3 rfl) ?_
                            refine lv_goto (tgt := 157) hx hb dX11_bound_150 (by decide) ?_
                            refine lv_istore (lv' := [(6, .int (iZ ((lo : Nat) : Int))), (7, .int (iZ (((lo + hi) / 2 : Nat) : Int))), (9, .int (iZ ((1 : Nat) : Int))), (8, .int (iZ (((lo + hi) / 2 : Nat) : Int))), (0, .ref mz), (1, .int (iZ ((n : Nat) : Int))), (2, .int (iZ ((k : Nat) : Int))), (3, .int (iZ ((0 : Nat) : Int))), (4, .int (iZ ((a : Nat) : Int))), (5, .int (iZ ((b : Nat) : Int)))]) hx hb dX11_bound_157 hl (by decide) rfl (fun ls hl => ?_)
                            refine lv_goto (tgt := 192) hx hb dX11_bound_159 (by decide) ?_
                            refine lv_goto (tgt := 65) hx hb dX11_bound_192 (by decide) ?_
                            exact ih_65 lo ((lo + hi) / 2) _ _ (by omega) (by omega) (by rw [← hR, bsr_t (by omega) (by omega) hgd]; exact bsr_ok _ (by omega) (by omega)) (by omega) _ _ hP hD hS ls (lv_sub hl [1, 0, 4, 5, 6, 7, 8, 9] rfl)
            exact pt_65 1001 0 1000 _ _ (by omega) (by omega) rfl (by omega) _ _ hP hD hS ls (lv_sub hl [0, 1, 2, 3, 4, 5, 6, 7] rfl)
          · refine zc_iconst (z := ((0 : Nat) : Int)) hx hb dX11_bound_57 (by decide) ?_
            refine lv_istore (lv' := [(6, .int (iZ ((0 : Nat) : Int))), (0, .ref mz), (1, .int (iZ ((n : Nat) : Int))), (2, .int (iZ ((k : Nat) : Int))), (3, .int (iZ ((1 : Nat) : Int))), (4, .int (iZ ((a : Nat) : Int))), (5, .int (iZ ((b : Nat) : Int)))]) hx hb dX11_bound_58 hl (by decide) rfl (fun ls hl => ?_)
            refine zc_sipush (z := ((1000 : Nat) : Int)) hx hb dX11_bound_60 (by decide) ?_
            refine lv_istore (lv' := [(7, .int (iZ ((1000 : Nat) : Int))), (6, .int (iZ ((0 : Nat) : Int))), (0, .ref mz), (1, .int (iZ ((n : Nat) : Int))), (2, .int (iZ ((k : Nat) : Int))), (3, .int (iZ ((1 : Nat) : Int))), (4, .int (iZ ((a : Nat) : Int))), (5, .int (iZ ((b : Nat) : Int)))]) hx hb dX11_bound_63 hl (by decide) rfl (fun ls hl => ?_)
            have pt_65 : ∀ f : Nat, ∀ (lo hi : Nat) (g1 g2 : Nat → Nat), (hlh : lo ≤ hi) → (hh : hi ≤ 1000) → (hR : bsr (goodU n (n - k) a b) (hi - lo + 1) (1000 - hi) (1000 - lo) = upr n (n - k) a b) → (hf : hi < lo + f) → (H : Heap) → (locs : List Loc) → va_P D vwCl [(mz, .inr (10, [.int (iZ ((0 : Nat) : Int)), .ref sA, .ref sB, .int (iZ ((rn : Nat) : Int)), .ref gO, .ref xO, .ref yO, .int (iZ ((un : Nat) : Int)), .ref dO, .ref zO, .ref wO, .ref mO, .int (iZ ((mn : Nat) : Int)), .ref aO, .ref bO, .int (iZ ((kc : Nat) : Int)), .ref uO, .ref vO, .int (iZ ((hT : Nat) : Int)), .int (iZ ((tu : Nat) : Int)), .int (iZ ((td : Nat) : Int)), .int (iZ ((ta : Nat) : Int)), .int (iZ ((tb : Nat) : Int)), .int (iZ ((tt : Nat) : Int)), .int (iZ ((tk : Nat) : Int)), .int (iZ ((tj : Nat) : Int))])), (sA, .inl (cI, 32, .inl (LI g1))), (sB, .inl (cI, 32, .inl (LI g2)))] H → va_D A [(mz, .inr (10, [.int (iZ ((0 : Nat) : Int)), .ref sA, .ref sB, .int (iZ ((rn : Nat) : Int)), .ref gO, .ref xO, .ref yO, .int (iZ ((un : Nat) : Int)), .ref dO, .ref zO, .ref wO, .ref mO, .int (iZ ((mn : Nat) : Int)), .ref aO, .ref bO, .int (iZ ((kc : Nat) : Int)), .ref uO, .ref vO, .int (iZ ((hT : Nat) : Int)), .int (iZ ((tu : Nat) : Int)), .int (iZ ((td : Nat) : Int)), .int (iZ ((ta : Nat) : Int)), .int (iZ ((tb : Nat) : Int)), .int (iZ ((tt : Nat) : Int)), .int (iZ ((tk : Nat) : Int)), .int (iZ ((tj : Nat) : Int))])), (sA, .inl (cI, 32, .inl (LI g1))), (sB, .inl (cI, 32, .inl (LI g2)))] → va_S A s.heap H locs → (ls : Array Slot) → lv_has ls 10 [(7, .int (iZ ((hi : Nat) : Int))), (6, .int (iZ ((lo : Nat) : Int))), (0, .ref mz), (1, .int (iZ ((n : Nat) : Int))), (2, .int (iZ ((k : Nat) : Int))), (3, .int (iZ ((1 : Nat) : Int))), (4, .int (iZ ((a : Nat) : Int))), (5, .int (iZ ((b : Nat) : Int)))] → W p l e rmX11_bound s m args below meth c H locs 0 0 Q (F0 m 65 ls []) := by
              intro f
              induction f with
              | zero =>
                intro lo hi g1 g2 hlh hh hR hf H locs hP hD hS ls hl
                exfalso; omega
              | succ f ih_65 =>
                intro lo hi g1 g2 hlh hh hR hf H locs hP hD hS ls hl
                refine lv_iload hx hb dX11_bound_65 (lv_at hl 1 rfl) ?_
                refine lv_iload hx hb dX11_bound_67 (lv_at hl 0 rfl) ?_
                refine zb_icmp_ge (x := ((lo : Nat) : Int)) (y := ((hi : Nat) : Int)) (tgt := 195) hx hb dX11_bound_69 (by decide) ⟨by omega, by omega⟩ ⟨by omega, by omega⟩ (fun c_69 => ?_) (fun c_69 => ?_)
                · refine lv_iload hx hb dX11_bound_195 (lv_at hl 1 rfl) ?_
                  exact hret _ (0, g1, g2) _ _ _ _ _ _ (Nat.le_of_ble_eq_true rfl) (Nat.le_of_ble_eq_true rfl) rfl dX11_bound_197 (⟨⟨fun _ _ => by have h8 := hR; rw [bsr_x (by omega) (by omega)] at h8; have h7 : lo = 1000 - upr n (n - k) a b := (by omega); rw [if_neg (by decide), Int.toNat_natCast, Int.toNat_natCast, Int.toNat_natCast, Int.toNat_natCast, ← h7], fun h9 => absurd yb h9⟩, fun h9 => absurd yt h9.2, fun _ => rfl⟩) hP hD hS
                · refine lv_iload_n hx hb dX11_bound_72 rfl (lv_at hl 5 rfl) ?_
                  refine zb_if_ne (x := ((1 : Nat) : Int)) (tgt := 86) hx hb dX11_bound_73 (by decide) ⟨by decide, by decide⟩ (fun c_73 => ?_) (fun c_73 => ?_)
                  · refine lv_iload hx hb dX11_bound_86 (lv_at hl 1 rfl) ?_
                    refine lv_iload hx hb dX11_bound_88 (lv_at hl 0 rfl) ?_
                    refine zi_add (z := ((lo + hi : Nat) : Int)) hx hb dX11_bound_90 (by omega) ?_
                    refine zc_iconst (z := ((1 : Nat) : Int)) hx hb dX11_bound_91 (by decide) ?_
                    refine zi_add (z := (((lo + hi) + 1 : Nat) : Int)) hx hb dX11_bound_92 (by omega) ?_
                    refine zc_iconst (z := ((2 : Nat) : Int)) hx hb dX11_bound_93 (by decide) ?_
                    refine zi_div (z := ((((lo + hi) + 1) / 2 : Nat) : Int)) hx hb dX11_bound_94 (by omega) (by omega) (by omega) (by omega) (by omega) ?_
                    refine lv_istore (lv' := [(8, .int (iZ ((((lo + hi) + 1) / 2 : Nat) : Int))), (7, .int (iZ ((hi : Nat) : Int))), (6, .int (iZ ((lo : Nat) : Int))), (0, .ref mz), (1, .int (iZ ((n : Nat) : Int))), (2, .int (iZ ((k : Nat) : Int))), (3, .int (iZ ((1 : Nat) : Int))), (4, .int (iZ ((a : Nat) : Int))), (5, .int (iZ ((b : Nat) : Int)))]) hx hb dX11_bound_95 hl (by decide) rfl (fun ls hl => ?_)
                    refine lv_aload_n hx hb dX11_bound_97 rfl (lv_at hl 3 rfl) ?_
                    refine lv_iload_n hx hb dX11_bound_98 rfl (lv_at hl 4 rfl) ?_
                    refine lv_iload_n hx hb dX11_bound_99 rfl (lv_at hl 5 rfl) ?_
                    refine lv_iload hx hb dX11_bound_100 (lv_at hl 0 rfl) ?_
                    refine zc_sipush (z := ((1000 : Nat) : Int)) hx hb dX11_bound_102 (by decide) ?_
                    refine zc_iconst (z := ((1 : Nat) : Int)) hx hb dX11_bound_105 (by decide) ?_
                    refine lv_iload_n hx hb dX11_bound_106 rfl (lv_at hl 6 rfl) ?_
                    refine zi_sub (z := ((0 : Nat) : Int)) hx hb dX11_bound_107 (by decide) ?_
                    refine lv_iload hx hb dX11_bound_108 (lv_at hl 7 rfl) ?_
                    refine lv_iload hx hb dX11_bound_110 (lv_at hl 8 rfl) ?_
                    refine ca_iV [.int (iZ ((n : Nat) : Int)), .int (iZ ((k : Nat) : Int)), .int (iZ ((((lo + hi) + 1) / 2 : Nat) : Int)), .int (iZ ((1000 : Nat) : Int)), .int (iZ ((0 : Nat) : Int)), .int (iZ ((a : Nat) : Int)), .int (iZ ((b : Nat) : Int))] [] [] 0 0 ⟨hx, hb, hml, hown, hts⟩ (c_X11_beside l D cI cJ mz sA sB gO xO yO dO zO wO mO aO bO uO vO 0 rn un mn kc hT tu td ta tb tt tk tj g1 g2 n k ((lo + hi + 1) / 2) 1000 0 (by omega) (by omega) (by decide) (by omega) (by decide) a b (by omega) (by omega)) (cwV 7 hts gX11_bound_X11_beside rfl rfl rfl (by decide +kernel) ⟨(Nat.le_of_ble_eq_true rfl), (Nat.le_of_ble_eq_true rfl)⟩) hK hP hD hS hA [0, 1, 2] [] rfl rfl rfl rfl (by decide) 0 rfl rfl rfl hl.1 rfl (Nat.le_of_ble_eq_true rfl) dX11_bound_112 ⟨(Nat.le_of_ble_eq_true rfl), (Nat.le_of_ble_eq_true rfl)⟩ (Nat.le_of_ble_eq_true rfl) (Nat.le_of_ble_eq_true rfl) (fun r_112 u9 H locs hw hP hD hS => ?_)
                    obtain ⟨gA, gB⟩ := u9
                    try dsimp only at hw
                    have hP : va_P D vwCl [(mz, .inr (10, [.int (iZ ((0 : Nat) : Int)), .ref sA, .ref sB, .int (iZ ((rn : Nat) : Int)), .ref gO, .ref xO, .ref yO, .int (iZ ((un : Nat) : Int)), .ref dO, .ref zO, .ref wO, .ref mO, .int (iZ ((mn : Nat) : Int)), .ref aO, .ref bO, .int (iZ ((kc : Nat) : Int)), .ref uO, .ref vO, .int (iZ ((hT : Nat) : Int)), .int (iZ ((tu : Nat) : Int)), .int (iZ ((td : Nat) : Int)), .int (iZ ((ta : Nat) : Int)), .int (iZ ((tb : Nat) : Int)), .int (iZ ((tt : Nat) : Int)), .int (iZ ((tk : Nat) : Int)), .int (iZ ((tj : Nat) : Int))])), (sA, .inl (cI, 32, .inl (LI gA))), (sB, .inl (cI, 32, .inl (LI gB)))] H := hP
                    have hD : va_D A [(mz, .inr (10, [.int (iZ ((0 : Nat) : Int)), .ref sA, .ref sB, .int (iZ ((rn : Nat) : Int)), .ref gO, .ref xO, .ref yO, .int (iZ ((un : Nat) : Int)), .ref dO, .ref zO, .ref wO, .ref mO, .int (iZ ((mn : Nat) : Int)), .ref aO, .ref bO, .int (iZ ((kc : Nat) : Int)), .ref uO, .ref vO, .int (iZ ((hT : Nat) : Int)), .int (iZ ((tu : Nat) : Int)), .int (iZ ((td : Nat) : Int)), .int (iZ ((ta : Nat) : Int)), .int (iZ ((tb : Nat) : Int)), .int (iZ ((tt : Nat) : Int)), .int (iZ ((tk : Nat) : Int)), .int (iZ ((tj : Nat) : Int))])), (sA, .inl (cI, 32, .inl (LI gA))), (sB, .inl (cI, 32, .inl (LI gB)))] := hD
                    have hcr := cmpZ_r (habv n k ((lo + hi + 1) / 2) 1000 0 * b) (a * 1000 ^ n)
                    refine tp_i (y := (iZ (cmpZ (habv n k ((lo + hi + 1) / 2) 1000 0 * b) (a * 1000 ^ n)))) (hw) ?_
                    refine zb_if_gt (x := (cmpZ (habv n k ((lo + hi + 1) / 2) 1000 0 * b) (a * 1000 ^ n))) (tgt := 122) hx hb dX11_bound_115 (by decide) ⟨by omega, by omega⟩ (fun c_115 => ?_) (fun c_115 => ?_)
                    · have hgd : goodU n (n - k) a b (((1000 - hi) + (1000 - lo)) / 2) = false := by unfold goodU; rw [decide_eq_false_iff_not, show ((1000 - hi) + (1000 - lo)) / 2 = 1000 - ((lo + hi + 1) / 2) by omega, habv_m (by omega) (by omega), ← cmpZ_le]; omega
                      refine zc_iconst (z := ((0 : Nat) : Int)) hx hb dX11_bound_122 (by decide) ?_
                      refine lv_istore (lv' := [(9, .int (iZ ((0 : Nat) : Int))), (8, .int (iZ ((((lo + hi) + 1) / 2 : Nat) : Int))), (7, .int (iZ ((hi : Nat) : Int))), (6, .int (iZ ((lo : Nat) : Int))), (0, .ref mz), (1, .int (iZ ((n : Nat) : Int))), (2, .int (iZ ((k : Nat) : Int))), (3, .int (iZ ((1 : Nat) : Int))), (4, .int (iZ ((a : Nat) : Int))), (5, .int (iZ ((b : Nat) : Int)))]) hx hb dX11_bound_123 hl (by decide) rfl (fun ls hl => ?_)
                      refine lv_iload_n hx hb dX11_bound_125 rfl (lv_at hl 7 rfl) ?_
                      refine zb_if_ne (x := ((1 : Nat) : Int)) (tgt := 162) hx hb dX11_bound_126 (by decide) ⟨by decide, by decide⟩ (fun c_126 => ?_) (fun c_126 => ?_)
                      · refine lv_iload hx hb dX11_bound_162 (lv_at hl 0 rfl) ?_
                        refine zb_if_eq (x := ((0 : Nat) : Int)) (tgt := 172) hx hb dX11_bound_164 (by decide) ⟨by decide, by decide⟩ (fun c_164 => ?_) (fun c_164 => ?_)
                        · refine lv_iload hx hb dX11_bound_172 (lv_at hl 3 rfl) ?_
                          refine lv_istore (lv' := [(6, .int (iZ ((lo : Nat) : Int))), (9, .int (iZ ((0 : Nat) : Int))), (8, .int (iZ ((((lo + hi) + 1) / 2 : Nat) : Int))), (7, .int (iZ ((hi : Nat) : Int))), (0, .ref mz), (1, .int (iZ ((n : Nat) : Int))), (2, .int (iZ ((k : Nat) : Int))), (3, .int (iZ ((1 : Nat) : Int))), (4, .int (iZ ((a : Nat) : Int))), (5, .int (iZ ((b : Nat) : Int)))]) hx hb dX11_bound_174 hl (by decide) rfl (fun ls hl => ?_)
                          refine lv_iload hx hb dX11_bound_176 (lv_at hl 1 rfl) ?_
                          refine zb_if_eq (x := ((0 : Nat) : Int)) (tgt := 186) hx hb dX11_bound_178 (by decide) ⟨by decide, by decide⟩ (fun c_178 => ?_) (fun c_178 => ?_)
                          · refine lv_iload hx hb dX11_bound_186 (lv_at hl 2 rfl) ?_
                            refine zc_iconst (z := ((1 : Nat) : Int)) hx hb dX11_bound_188 (by decide) ?_
                            refine zi_sub (z := ((((lo + hi + 1) / 2) - 1 : Nat) : Int)) hx hb dX11_bound_189 (by omega) ?_
                            refine lv_istore (lv' := [(7, .int (iZ ((((lo + hi + 1) / 2) - 1 : Nat) : Int))), (6, .int (iZ ((lo : Nat) : Int))), (9, .int (iZ ((0 : Nat) : Int))), (8, .int (iZ ((((lo + hi) + 1) / 2 : Nat) : Int))), (0, .ref mz), (1, .int (iZ ((n : Nat) : Int))), (2, .int (iZ ((k : Nat) : Int))), (3, .int (iZ ((1 : Nat) : Int))), (4, .int (iZ ((a : Nat) : Int))), (5, .int (iZ ((b : Nat) : Int)))]) hx hb dX11_bound_190 hl (by decide) rfl (fun ls hl => ?_)
                            refine lv_goto (tgt := 65) hx hb dX11_bound_192 (by decide) ?_
                            exact ih_65 lo (((lo + hi + 1) / 2) - 1) _ _ (by omega) (by omega) (by rw [← hR, bsr_f (by omega) (by omega) hgd, show ((1000 - hi) + (1000 - lo)) / 2 + 1 = 1000 - (((lo + hi + 1) / 2) - 1) by omega]; exact bsr_ok _ (by omega) (by omega)) (by omega) _ _ hP hD hS ls (lv_sub hl [0, 1, 4, 5, 6, 7, 8, 9] rfl)
                          · exact absurd c_178 (by decide)
                        · exact absurd c_164 (by decide)
                      · exact absurd c_126 (by decide)
                    · have hgd : goodU n (n - k) a b (((1000 - hi) + (1000 - lo)) / 2) = true := by unfold goodU; rw [decide_eq_true_eq, show ((1000 - hi) + (1000 - lo)) / 2 = 1000 - ((lo + hi + 1) / 2) by omega, habv_m (by omega) (by omega), ← cmpZ_le]; omega
                      refine zc_iconst (z := ((1 : Nat) : Int)) hx hb dX11_bound_118 (by decide) ?_
                      refine lv_goto (tgt := 123) hx hb dX11_bound_119 (by decide) ?_
                      refine lv_istore (lv' := [(9, .int (iZ ((1 : Nat) : Int))), (8, .int (iZ ((((lo + hi) + 1) / 2 : Nat) : Int))), (7, .int (iZ ((hi : Nat) : Int))), (6, .int (iZ ((lo : Nat) : Int))), (0, .ref mz), (1, .int (iZ ((n : Nat) : Int))), (2, .int (iZ ((k : Nat) : Int))), (3, .int (iZ ((1 : Nat) : Int))), (4, .int (iZ ((a : Nat) : Int))), (5, .int (iZ ((b : Nat) : Int)))]) hx hb dX11_bound_123 hl (by decide) rfl (fun ls hl => ?_)
                      refine lv_iload_n hx hb dX11_bound_125 rfl (lv_at hl 7 rfl) ?_
                      refine zb_if_ne (x := ((1 : Nat) : Int)) (tgt := 162) hx hb dX11_bound_126 (by decide) ⟨by decide, by decide⟩ (fun c_126 => ?_) (fun c_126 => ?_)
                      · refine lv_iload hx hb dX11_bound_162 (lv_at hl 0 rfl) ?_
                        refine zb_if_eq (x := ((1 : Nat) : Int)) (tgt := 172) hx hb dX11_bound_164 (by decide) ⟨by decide, by decide⟩ (fun c_164 => ?_) (fun c_164 => ?_)
                        · exact absurd c_164 (by decide)
                        · refine lv_iload hx hb dX11_bound_167 (lv_at hl 1 rfl) ?_
                          refine lv_goto (tgt := 174) hx hb dX11_bound_169 (by decide) ?_
                          refine lv_istore (lv' := [(6, .int (iZ ((((lo + hi) + 1) / 2 : Nat) : Int))), (9, .int (iZ ((1 : Nat) : Int))), (8, .int (iZ ((((lo + hi) + 1) / 2 : Nat) : Int))), (7, .int (iZ ((hi : Nat) : Int))), (0, .ref mz), (1, .int (iZ ((n : Nat) : Int))), (2, .int (iZ ((k : Nat) : Int))), (3, .int (iZ ((1 : Nat) : Int))), (4, .int (iZ ((a : Nat) : Int))), (5, .int (iZ ((b : Nat) : Int)))]) hx hb dX11_bound_174 hl (by decide) rfl (fun ls hl => ?_)
                          refine lv_iload hx hb dX11_bound_176 (lv_at hl 1 rfl) ?_
                          refine zb_if_eq (x := ((1 : Nat) : Int)) (tgt := 186) hx hb dX11_bound_178 (by decide) ⟨by decide, by decide⟩ (fun c_178 => ?_) (fun c_178 => ?_)
                          · exact absurd c_178 (by decide)
                          · refine lv_iload hx hb dX11_bound_181 (lv_at hl 3 rfl) ?_
                            refine lv_goto (tgt := 190) hx hb dX11_bound_183 (by decide) ?_
                            refine lv_istore (lv' := [(7, .int (iZ ((hi : Nat) : Int))), (6, .int (iZ ((((lo + hi) + 1) / 2 : Nat) : Int))), (9, .int (iZ ((1 : Nat) : Int))), (8, .int (iZ ((((lo + hi) + 1) / 2 : Nat) : Int))), (0, .ref mz), (1, .int (iZ ((n : Nat) : Int))), (2, .int (iZ ((k : Nat) : Int))), (3, .int (iZ ((1 : Nat) : Int))), (4, .int (iZ ((a : Nat) : Int))), (5, .int (iZ ((b : Nat) : Int)))]) hx hb dX11_bound_190 hl (by decide) rfl (fun ls hl => ?_)
                            refine lv_goto (tgt := 65) hx hb dX11_bound_192 (by decide) ?_
                            exact ih_65 ((lo + hi + 1) / 2) hi _ _ (by omega) (by omega) (by rw [← hR, bsr_t (by omega) (by omega) hgd, show ((1000 - hi) + (1000 - lo)) / 2 = 1000 - ((lo + hi + 1) / 2) by omega]; exact bsr_ok _ (by omega) (by omega)) (by omega) _ _ hP hD hS ls (lv_sub hl [0, 1, 4, 5, 6, 7, 8, 9] rfl)
                      · exact absurd c_126 (by decide)
                  · exact absurd c_73 (by decide)
            exact pt_65 1001 0 1000 _ _ (by omega) (by omega) rfl (by omega) _ _ hP hD hS ls (lv_sub hl [0, 1, 2, 3, 4, 5, 6, 7] rfl)
        · have nt : ¬ vTrust za zb := fun h9 => absurd (wc4.mpr h9) (by omega)
          clear wc4
          refine lv_aload_n hx hb dX11_bound_50 rfl (lv_at hl 0 rfl) ?_
          refine zc_iconst (z := ((1 : Nat) : Int)) hx hb dX11_bound_51 (by decide) ?_
          refine va_put (D := D) (ci := 10) (v := .int (iZ ((1 : Nat) : Int))) (ty := .int) (C := RX11) (T := TX11) (N := 26) hx hb hts hh_1 tyX11 tyX11_ok nmX11 hown hK hP hD hS 0 rfl rfl 0 (by decide) hh_0 (fun _ h9 => h9) rfl (by decide +kernel) rfl rfl (Nat.le_of_ble_eq_true rfl) dX11_bound_52 (fun H locs hP hD hS => ?_)
          have hP : va_P D vwCl [(mz, .inr (10, [.int (iZ ((1 : Nat) : Int)), .ref sA, .ref sB, .int (iZ ((rn : Nat) : Int)), .ref gO, .ref xO, .ref yO, .int (iZ ((un : Nat) : Int)), .ref dO, .ref zO, .ref wO, .ref mO, .int (iZ ((mn : Nat) : Int)), .ref aO, .ref bO, .int (iZ ((kc : Nat) : Int)), .ref uO, .ref vO, .int (iZ ((hT : Nat) : Int)), .int (iZ ((tu : Nat) : Int)), .int (iZ ((td : Nat) : Int)), .int (iZ ((ta : Nat) : Int)), .int (iZ ((tb : Nat) : Int)), .int (iZ ((tt : Nat) : Int)), .int (iZ ((tk : Nat) : Int)), .int (iZ ((tj : Nat) : Int))])), (sA, .inl (cI, 32, .inl (LI g1))), (sB, .inl (cI, 32, .inl (LI g2)))] H := hP
          have hD : va_D A [(mz, .inr (10, [.int (iZ ((1 : Nat) : Int)), .ref sA, .ref sB, .int (iZ ((rn : Nat) : Int)), .ref gO, .ref xO, .ref yO, .int (iZ ((un : Nat) : Int)), .ref dO, .ref zO, .ref wO, .ref mO, .int (iZ ((mn : Nat) : Int)), .ref aO, .ref bO, .int (iZ ((kc : Nat) : Int)), .ref uO, .ref vO, .int (iZ ((hT : Nat) : Int)), .int (iZ ((tu : Nat) : Int)), .int (iZ ((td : Nat) : Int)), .int (iZ ((ta : Nat) : Int)), .int (iZ ((tb : Nat) : Int)), .int (iZ ((tt : Nat) : Int)), .int (iZ ((tk : Nat) : Int)), .int (iZ ((tj : Nat) : Int))])), (sA, .inl (cI, 32, .inl (LI g1))), (sB, .inl (cI, 32, .inl (LI g2)))] := hD
          refine zc_iconst (z := ((0 : Nat) : Int)) hx hb dX11_bound_55 (by decide) ?_
          exact hret _ (1, g1, g2) _ _ _ _ _ _ (Nat.le_of_ble_eq_true rfl) (Nat.le_of_ble_eq_true rfl) rfl dX11_bound_56 (⟨⟨fun _ h9 => absurd h9 nt, fun h9 => absurd yb h9⟩, fun _ => rfl, fun h9 => absurd ⟨yb, nt⟩ h9⟩) hP hD hS
      · have nb : ¬ vBound zn zk zs := fun h9 => by have h8 := h9.2.2; omega
        refine zc_iconst (z := (-1 : Int)) hx hb dX11_bound_38 (by decide) ?_
        exact hret _ (0, g1, g2) _ _ _ _ _ _ (Nat.le_of_ble_eq_true rfl) (Nat.le_of_ble_eq_true rfl) rfl dX11_bound_39 (⟨⟨fun h9 => absurd h9 nb, fun _ => rfl⟩, fun h9 => absurd h9.1 nb, fun _ => rfl⟩) hP hD hS

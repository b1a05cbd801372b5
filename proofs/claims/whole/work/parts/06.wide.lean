def rmX9_init : Room := { frames := 1, cells := 1, slots := 14, locals := 12 }
set_option maxHeartbeats 4000000 in
set_option maxRecDepth 100000 in
theorem c_X9_init (l : Launch) (D : va_G) (cI cJ : ClassId) (h0 : Nat) : Cv l D vwCl (tyT cI cJ) yX9_init wsX9_init rmX9_init [.ref h0] [(h0, .inr (8, [.null, .int (iZ ((0 : Nat) : Int))]))] (Nat) (fun _ => True) (fun q => [(h0, .inr (8, [.ref q, .int (iZ ((0 : Nat) : Int))])), (q, .inl (cJ, 14, .inr (.inl (LJ (fun _ => 0)))))]) := by
  refine en_v (cc := cX9_init) (maxL := 1) (by decide) rfl [(0, .ref h0)] (Nat.le_of_ble_eq_true rfl) rfl ?_
  intro p e s m args below meth c Q A hx hb hml hown hts hnm hK hP hD hA hS hret ls hl
  have hh_0 := hts (.methodLink RX9 1 objectInit) (by decide +kernel)
  have hh_1 := hts (.instanceMethod objectInit) (by decide +kernel)
  have hh_2 := hts (.code objectInit ⟨#[0xb1]⟩ 1 none) (by decide +kernel)
  have hh_3 := hts (.arrayClass .long) (by decide +kernel)
  have hh_4 := hts (.fieldLink RX9 9 "BoundDraws$Wide" "limbs" "[J") (by decide +kernel)
  have hh_5 := (show ∀ w ∈ wsX90, w ∈ wsX9_init by decide +kernel)
  have hh_6 := hts (.fieldLink RX9 13 "BoundDraws$Wide" "used" "I") (by decide +kernel)
  refine lv_aload_n hx hb dX9_init_0 rfl (lv_at hl 0 rfl) ?_
  refine W.objInit hx hb hown hh_0 hh_1 hh_2 rfl (by rw [hml]; exact hl.1) rfl dX9_init_1 (Nat.le_of_ble_eq_true rfl) (Nat.le_of_ble_eq_true rfl) ?_
  refine W.eq (g2 := F0 m 4 ls []) rfl ?_
  refine lv_aload_n hx hb dX9_init_4 rfl (lv_at hl 0 rfl) ?_
  refine zc_bipush (z := ((14 : Nat) : Int)) hx hb dX9_init_5 (by decide) ?_
  refine zn_newJ (N := 14) hx hb hh_3 hK hP hD hS hA (Nat.le_of_ble_eq_true rfl) (Nat.le_of_ble_eq_true rfl) dX9_init_7 (fun q1 H hP hD hS => ?_)
  have hP : va_P D vwCl [(h0, .inr (8, [.null, .int (iZ ((0 : Nat) : Int))])), (q1, .inl (cJ, 14, .inr (.inl (LJ (fun _ => 0)))))] H := hP
  have hD : va_D A [(h0, .inr (8, [.null, .int (iZ ((0 : Nat) : Int))])), (q1, .inl (cJ, 14, .inr (.inl (LJ (fun _ => 0)))))] := hD
  refine W.widen (k := 1) (n := 14) (Nat.le_of_ble_eq_true rfl) (Nat.le_of_ble_eq_true rfl) ?_
  refine va_putF (D := D) (ci := 8) (v := .ref q1) (ty := .array .long) (C := RX9) (T := TX9) (N := 2) hx hb hts hh_5 tyX9 tyX9_ok nmX9 hown hK hP hD hS 0 rfl rfl 0 (by decide) hh_4 (fun _ h9 => h9) rfl hnm rfl (by decide +kernel) rfl rfl (Nat.le_of_ble_eq_true rfl) dX9_init_9 (fun H locs hP hD hS => ?_)
  have hP : va_P D vwCl [(h0, .inr (8, [.ref q1, .int (iZ ((0 : Nat) : Int))])), (q1, .inl (cJ, 14, .inr (.inl (LJ (fun _ => 0)))))] H := hP
  have hD : va_D A [(h0, .inr (8, [.ref q1, .int (iZ ((0 : Nat) : Int))])), (q1, .inl (cJ, 14, .inr (.inl (LJ (fun _ => 0)))))] := hD
  refine lv_aload_n hx hb dX9_init_12 rfl (lv_at hl 0 rfl) ?_
  refine zc_iconst (z := ((0 : Nat) : Int)) hx hb dX9_init_13 (by decide) ?_
  refine va_put (D := D) (ci := 8) (v := .int (iZ ((0 : Nat) : Int))) (ty := .int) (C := RX9) (T := TX9) (N := 2) hx hb hts hh_5 tyX9 tyX9_ok nmX9 hown hK hP hD hS 0 rfl rfl 1 (by decide) hh_6 (fun _ h9 => h9) rfl (by decide +kernel) rfl rfl (Nat.le_of_ble_eq_true rfl) dX9_init_14 (fun H locs hP hD hS => ?_)
  have hP : va_P D vwCl [(h0, .inr (8, [.ref q1, .int (iZ ((0 : Nat) : Int))])), (q1, .inl (cJ, 14, .inr (.inl (LJ (fun _ => 0)))))] H := hP
  have hD : va_D A [(h0, .inr (8, [.ref q1, .int (iZ ((0 : Nat) : Int))])), (q1, .inl (cJ, 14, .inr (.inl (LJ (fun _ => 0)))))] := hD
  exact hret (q1) _ _ _ _ _ _ (Nat.le_of_ble_eq_true rfl) (Nat.le_of_ble_eq_true rfl) dX9_init_17 (trivial) hP hD hS
theorem wok_0 : wok (fun _ => 0) 0 0 := ⟨by decide, fun _ _ => (show 0 < 4294967296 by decide), fun _ _ _ => rfl, dv_zero (fun _ _ => rfl)⟩
theorem wok_become {g : Nat → Nat} {x : Nat} (hg : ∀ j, j < 14 → g j = 0) (hx : x < 9223372036854775808) : wok (nup (nup g 0 (x % 4294967296)) 1 (x / 4294967296)) 2 x := by
  refine ⟨by decide, fun j hj => ?_, fun j h1 h2 => ?_, ?_⟩
  · by_cases e1 : j = 1
    · subst e1; rw [nup_s]; show x / 4294967296 < 4294967296; omega
    · rw [nup_n e1]
      by_cases e0 : j = 0
      · subst e0; rw [nup_s]; exact Nat.mod_lt _ (by decide)
      · rw [nup_n e0, hg j hj]; decide
  · rw [nup_n (by omega), nup_n (by omega)]; exact hg j h2
  · have e := dv_ext (B := B32) (g := nup (nup g 0 (x % 4294967296)) 1 (x / 4294967296)) (k := 2) (n := 12) (fun j a b => by rw [nup_n (by omega), nup_n (by omega)]; exact hg j (by omega))
    rw [show 2 + 12 = 14 from rfl] at e
    rw [e]
    simp only [dv, nup_s, nup_n (show 0 ≠ 1 by decide)]
    show 0 + x % 4294967296 * 4294967296 ^ 0 + x / 4294967296 * 4294967296 ^ 1 = x
    omega
theorem wmo_lt {v k i t : Nat} (h : v * k ^ t < B32 ^ 14) (hi : i < t) : v * k ^ i * k < B32 ^ 14 := by
  rcases Nat.eq_zero_or_pos k with e | e
  · subst e; rw [Nat.mul_zero]; decide
  · rw [Nat.mul_assoc, ← Nat.pow_succ]
    exact Nat.lt_of_le_of_lt (Nat.mul_le_mul_left _ (Nat.pow_le_pow_right e hi)) h
/-- addTimes: behind i limbs -/
def waI (g0 h g : Nat → Nat) (k i c M : Nat) : Prop := (∀ j, j < 14 → g j < 4294967296) ∧ (∀ j, i ≤ j → g j = g0 j) ∧ c ≤ k ∧ (M < i → c = 0) ∧ dv B32 g i + c * B32 ^ i = dv B32 g0 i + k * dv B32 h i
theorem waI_0 {g h : Nat → Nat} {u v k M : Nat} (hw : wok g u v) : waI g h g k 0 0 M := ⟨hw.2.1, fun _ _ => rfl, Nat.zero_le _, fun _ => rfl, by simp [dv]⟩
theorem waI_b {g0 h g : Nat → Nat} {k i c M u w : Nat} (H : waI g0 h g k i c M) (hh : wok h u w) (hk : k < 2147483648) (hi : i < 14) : g i + h i * k + c < 9223372036854775808 := by
  obtain ⟨h1, h2, h3, h4, h5⟩ := H
  have a1 := h1 i hi
  have a2 := hh.2.1 i hi
  have : h i * k ≤ 4294967295 * k := Nat.mul_le_mul_right _ (by omega)
  omega
theorem waI_s {g0 h g : Nat → Nat} {k i c M u v u2 w : Nat} (H : waI g0 h g k i c M) (hg : wok g0 u v) (hh : wok h u2 w) (hk : k < 2147483648) (hu : u ≤ M) (hu2 : u2 ≤ M) (hi : i < 14) : waI g0 h (nup g i ((g i + h i * k + c) % 4294967296)) k (i + 1) ((g i + h i * k + c) / 4294967296) M := by
  obtain ⟨h1, h2, h3, h4, h5⟩ := H
  have a1 := h1 i hi
  have a2 := hh.2.1 i hi
  have a3 : h i * k ≤ 4294967295 * k := Nat.mul_le_mul_right _ (by omega)
  refine ⟨fun j hj => ?_, fun j hj => ?_, ?_, fun hM => ?_, ?_⟩
  · by_cases e : j = i
    · subst e; rw [nup_s]; exact Nat.mod_lt _ (by decide)
    · rw [nup_n e]; exact h1 j hj
  · rw [nup_n (by omega)]; exact h2 j (by omega)
  · apply Nat.le_of_lt_succ
    show (g i + h i * k + c) / 4294967296 < k + 1
    rw [Nat.div_lt_iff_lt_mul (by decide)]
    omega
  · have e1 : g i = 0 := by rw [h2 i (Nat.le_refl i)]; exact hg.2.2.1 i (by omega) hi
    have e2 : h i = 0 := hh.2.2.1 i (by omega) hi
    rw [e1, e2, Nat.zero_mul]
    show (0 + 0 + c) / 4294967296 = 0
    omega
  · rw [dv, dv, dv, nup_s, dv_nup _ _ (Nat.le_refl i), Nat.pow_succ, ← h2 i (Nat.le_refl i)]
    generalize ht : g i + h i * k + c = t
    have e : t % 4294967296 + B32 * (t / 4294967296) = t := Nat.mod_add_div t B32
    have e2 : t / 4294967296 * (B32 ^ i * B32) = (B32 * (t / 4294967296)) * B32 ^ i := by rw [Nat.mul_comm (B32 ^ i) B32, ← Nat.mul_assoc, Nat.mul_comm (t / 4294967296) B32]
    rw [e2, Nat.add_assoc, ← Nat.add_mul, e, ← ht, Nat.add_mul, Nat.add_mul, Nat.mul_add k, Nat.mul_comm (h i) k, Nat.mul_assoc]
    omega
/-- the end of addTimes -/
theorem waI_e {g0 h g : Nat → Nat} {k c u v u2 w r : Nat} (hg : wok g0 u v) (hh : wok h u2 w) (hr : r = min (max u u2 + 1) 14) (H : waI g0 h g k r c (max u u2)) (hv : v + w * k < B32 ^ 14) : wok g r (v + w * k) := by
  obtain ⟨h1, h2, h3, h4, h5⟩ := H
  have b1 := hg.1
  have b2 := hh.1
  have eg : dv B32 g0 r = v := by
    rw [← wok_u hg, show r = u + (r - u) by omega]
    exact dv_ext (fun j a b => hg.2.2.1 j a (by omega))
  have eh : dv B32 h r = w := by
    rw [← wok_u hh, show r = u2 + (r - u2) by omega]
    exact dv_ext (fun j a b => hh.2.2.1 j a (by omega))
  rw [eg, eh, Nat.mul_comm k] at h5
  have ec : c = 0 := by
    rcases Nat.lt_or_ge (max u u2) r with e | e
    · exact h4 e
    · have er : r = 14 := by omega
      rcases Nat.eq_zero_or_pos c with z | z
      · exact z
      · rw [er] at h5
        have : 1 * B32 ^ 14 ≤ c * B32 ^ 14 := Nat.mul_le_mul_right _ z
        omega
  rw [ec, Nat.zero_mul, Nat.add_zero] at h5
  refine ⟨by omega, h1, fun j a b => by rw [h2 j a]; exact hg.2.2.1 j (by omega) b, ?_⟩
  rw [← h5, show 14 = r + (14 - r) by omega]
  exact dv_ext (fun j a b => by rw [h2 j a]; exact hg.2.2.1 j (by omega) (by omega))
theorem wok_less {g : Nat → Nat} {r v : Nat} (h : wok g r v) (h0 : 0 < r) (hz : g (r - 1) = 0) : wok g (r - 1) v := by
  obtain ⟨a, b, c, d⟩ := h
  refine ⟨by omega, b, fun j h1 h2 => ?_, d⟩
  rcases Nat.lt_or_ge j r with e | e
  · rw [show j = r - 1 by omega]; exact hz
  · exact c j e h2
def cmpZ (v w : Nat) : Int := if v < w then -1 else if v = w then 0 else 1
theorem wok_lt {g h : Nat → Nat} {u v u2 w i : Nat} (hg : wok g u v) (hh : wok h u2 w) (hi : i < 14) (hall : ∀ x, i + 1 ≤ x → x < 14 → g x = h x) (hlt : g i < h i) : v < w := by
  rw [← hg.2.2.2, ← hh.2.2.2]
  have := dv_cmp (B := B32) (g := g) (h := h) (by decide) (i := i) (fun j hj => hg.2.1 j (by omega)) (fun j hj => hh.2.1 j (by omega)) hlt (n := 14 - (i + 1)) (fun j a b => hall j (by omega) (by omega))
  rw [show i + 1 + (14 - (i + 1)) = 14 by omega] at this
  exact this
theorem wok_eq {g h : Nat → Nat} {u v u2 w : Nat} (hg : wok g u v) (hh : wok h u2 w) (hall : ∀ x, 0 ≤ x → x < 14 → g x = h x) : v = w := by
  rw [← hg.2.2.2, ← hh.2.2.2]
  exact dv_congr (fun j hj => hall j (Nat.zero_le _) hj)
def rmX9_become : Room := { frames := 0, cells := 0, slots := 0, locals := 0 }
set_option maxHeartbeats 4000000 in
set_option maxRecDepth 100000 in
theorem c_X9_become (l : Launch) (D : va_G) (cI cJ : ClassId) (h0 la : Nat) (g : Nat → Nat) (u x : Nat) (hx0 : x < 9223372036854775808) : Cv l D vwCl (tyT cI cJ) yX9_become wsX9_become rmX9_become [.ref h0, .long (lZ ((x : Nat) : Int))] [(h0, .inr (8, [.ref la, .int (iZ ((u : Nat) : Int))])), (la, .inl (cJ, 14, .inr (.inl (LJ g))))] (Nat → Nat) (fun r => wok r 2 x) (fun r => [(h0, .inr (8, [.ref la, .int (iZ ((2 : Nat) : Int))])), (la, .inl (cJ, 14, .inr (.inl (LJ r))))]) := by
  refine en_v (cc := cX9_become) (maxL := 4) (by decide) rfl [(0, .ref h0), (1, .long (lZ ((x : Nat) : Int)))] (Nat.le_of_ble_eq_true rfl) rfl ?_
  intro p e s m args below meth c Q A hx hb hml hown hts hnm hK hP hD hA hS hret ls hl
  have hh_0 := hts (.fieldLink RX9 9 "BoundDraws$Wide" "limbs" "[J") (by decide +kernel)
  have hh_1 := (show ∀ w ∈ wsX90, w ∈ wsX9_become by decide +kernel)
  have hh_2 := hts (.constantLong RX9 17 (4294967295)) (by decide +kernel)
  have hh_3 := hts (.fieldLink RX9 13 "BoundDraws$Wide" "used" "I") (by decide +kernel)
  refine zc_iconst (z := ((0 : Nat) : Int)) hx hb dX9_become_0 (by decide) ?_
  refine lv_istore_n (lv' := [(3, .int (iZ ((0 : Nat) : Int))), (0, .ref h0), (1, .long (lZ ((x : Nat) : Int)))]) hx hb dX9_become_1 rfl hl (by decide) rfl (fun ls hl => ?_)
  have pt_2 : ∀ n : Nat, ∀ (i : Nat) (g : Nat → Nat), (hi : i ≤ 14) → (hg : ∀ j, j < i → g j = 0) → (hn : 14 < i + n) → (H : Heap) → (locs : List Loc) → va_P D vwCl [(h0, .inr (8, [.ref la, .int (iZ ((u : Nat) : Int))])), (la, .inl (cJ, 14, .inr (.inl (LJ g))))] H → va_D A [(h0, .inr (8, [.ref la, .int (iZ ((u : Nat) : Int))])), (la, .inl (cJ, 14, .inr (.inl (LJ g))))] → va_S A s.heap H locs → (ls : Array Slot) → lv_has ls 4 [(3, .int (iZ ((i : Nat) : Int))), (0, .ref h0), (1, .long (lZ ((x : Nat) : Int)))] → W p l e rmX9_become s m args below meth c H locs 0 0 Q (F0 m 2 ls []) := by
    intro n
    induction n with
    | zero =>
      intro i g hi hg hn H locs hP hD hS ls hl
      exfalso; omega
    | succ n ih =>
      intro i g hi hg hn H locs hP hD hS ls hl
      refine lv_iload_n hx hb dX9_become_2 rfl (lv_at hl 0 rfl) ?_
      refine zc_bipush (z := ((14 : Nat) : Int)) hx hb dX9_become_3 (by decide) ?_
      refine zb_icmp_ge (x := ((i : Nat) : Int)) (y := ((14 : Nat) : Int)) (tgt := 21) hx hb dX9_become_5 (by decide) ⟨by omega, by omega⟩ ⟨by decide, by decide⟩ (fun c_5 => ?_) (fun c_5 => ?_)
      · refine lv_aload_n hx hb dX9_become_21 rfl (lv_at hl 1 rfl) ?_
        refine va_get (D := D) (ci := 8) (v := .ref la) (C := RX9) (T := TX9) (N := 2) hx hb hts hh_1 hown hK hP 0 rfl rfl 0 (by decide) hh_0 (fun _ h9 => h9) rfl dX9_become_22 ?_
        refine zc_iconst (z := ((0 : Nat) : Int)) hx hb dX9_become_25 (by decide) ?_
        refine lv_lload_n hx hb dX9_become_26 rfl (lv_at hl 2 rfl) ?_
        refine lv_ldc2 hx hb hown hh_2 dX9_become_27 (tp_l (y := lZ ((4294967295 : Nat) : Int)) (by decide) ?_)
        refine lv_land hx hb dX9_become_30 (tp_l (y := (lZ ((x % 4294967296 : Nat) : Int))) (z_land32 (by omega)) ?_)
        refine za_last hx hb hK hP hD hS 1 1 rfl rfl (0) (by decide) rfl (by omega) dX9_become_31 (fun H locs hP hD hS => ?_)
        have hP : va_P D vwCl [(h0, .inr (8, [.ref la, .int (iZ ((u : Nat) : Int))])), (la, .inl (cJ, 14, .inr (.inl (vp_updL (LJ g) (0) ((lZ ((x % 4294967296 : Nat) : Int)))))))] H := hP
        have hD : va_D A [(h0, .inr (8, [.ref la, .int (iZ ((u : Nat) : Int))])), (la, .inl (cJ, 14, .inr (.inl (vp_updL (LJ g) (0) ((lZ ((x % 4294967296 : Nat) : Int)))))))] := hD
        rw [LJ_up] at hP hD
        have hP : va_P D vwCl [(h0, .inr (8, [.ref la, .int (iZ ((u : Nat) : Int))])), (la, .inl (cJ, 14, .inr (.inl (LJ (nup g (0) (x % 4294967296))))))] H := hP
        have hD : va_D A [(h0, .inr (8, [.ref la, .int (iZ ((u : Nat) : Int))])), (la, .inl (cJ, 14, .inr (.inl (LJ (nup g (0) (x % 4294967296))))))] := hD
        refine lv_aload_n hx hb dX9_become_32 rfl (lv_at hl 1 rfl) ?_
        refine va_get (D := D) (ci := 8) (v := .ref la) (C := RX9) (T := TX9) (N := 2) hx hb hts hh_1 hown hK hP 0 rfl rfl 0 (by decide) hh_0 (fun _ h9 => h9) rfl dX9_become_33 ?_
        refine zc_iconst (z := ((1 : Nat) : Int)) hx hb dX9_become_36 (by decide) ?_
        refine lv_lload_n hx hb dX9_become_37 rfl (lv_at hl 2 rfl) ?_
        refine zc_bipush (z := ((32 : Nat) : Int)) hx hb dX9_become_38 (by decide) ?_
        refine lv_lushr (v := (lZ ((x / 4294967296 : Nat) : Int))) hx hb dX9_become_40 (z_lushr32 (by omega)) ?_
        refine za_last hx hb hK hP hD hS 1 1 rfl rfl (1) (by decide) rfl (by omega) dX9_become_41 (fun H locs hP hD hS => ?_)
        have hP : va_P D vwCl [(h0, .inr (8, [.ref la, .int (iZ ((u : Nat) : Int))])), (la, .inl (cJ, 14, .inr (.inl (vp_updL (LJ (nup g (0) (x % 4294967296))) (1) ((lZ ((x / 4294967296 : Nat) : Int)))))))] H := hP
        have hD : va_D A [(h0, .inr (8, [.ref la, .int (iZ ((u : Nat) : Int))])), (la, .inl (cJ, 14, .inr (.inl (vp_updL (LJ (nup g (0) (x % 4294967296))) (1) ((lZ ((x / 4294967296 : Nat) : Int)))))))] := hD
        rw [LJ_up] at hP hD
        have hP : va_P D vwCl [(h0, .inr (8, [.ref la, .int (iZ ((u : Nat) : Int))])), (la, .inl (cJ, 14, .inr (.inl (LJ (nup (nup g (0) (x % 4294967296)) (1) (x / 4294967296))))))] H := hP
        have hD : va_D A [(h0, .inr (8, [.ref la, .int (iZ ((u : Nat) : Int))])), (la, .inl (cJ, 14, .inr (.inl (LJ (nup (nup g (0) (x % 4294967296)) (1) (x / 4294967296))))))] := hD
        refine lv_aload_n hx hb dX9_become_42 rfl (lv_at hl 1 rfl) ?_
        refine zc_iconst (z := ((2 : Nat) : Int)) hx hb dX9_become_43 (by decide) ?_
        refine va_put (D := D) (ci := 8) (v := .int (iZ ((2 : Nat) : Int))) (ty := .int) (C := RX9) (T := TX9) (N := 2) hx hb hts hh_1 tyX9 tyX9_ok nmX9 hown hK hP hD hS 0 rfl rfl 1 (by decide) hh_3 (fun _ h9 => h9) rfl (by decide +kernel) rfl rfl (Nat.le_of_ble_eq_true rfl) dX9_become_44 (fun H locs hP hD hS => ?_)
        have hP : va_P D vwCl [(h0, .inr (8, [.ref la, .int (iZ ((2 : Nat) : Int))])), (la, .inl (cJ, 14, .inr (.inl (LJ (nup (nup g (0) (x % 4294967296)) (1) (x / 4294967296))))))] H := hP
        have hD : va_D A [(h0, .inr (8, [.ref la, .int (iZ ((2 : Nat) : Int))])), (la, .inl (cJ, 14, .inr (.inl (LJ (nup (nup g (0) (x % 4294967296)) (1) (x / 4294967296))))))] := hD
        exact hret (nup (nup g 0 (x % 4294967296)) 1 (x / 4294967296)) _ _ _ _ _ _ (Nat.le_of_ble_eq_true rfl) (Nat.le_of_ble_eq_true rfl) dX9_become_47 (wok_become (fun j hj => hg j (by omega)) hx0) hP hD hS
      · refine lv_aload_n hx hb dX9_become_8 rfl (lv_at hl 1 rfl) ?_
        refine va_get (D := D) (ci := 8) (v := .ref la) (C := RX9) (T := TX9) (N := 2) hx hb hts hh_1 hown hK hP 0 rfl rfl 0 (by decide) hh_0 (fun _ h9 => h9) rfl dX9_become_9 ?_
        refine lv_iload_n hx hb dX9_become_12 rfl (lv_at hl 0 rfl) ?_
        refine zc_lconst (z := ((0 : Nat) : Int)) hx hb dX9_become_13 (by decide) ?_
        refine za_last hx hb hK hP hD hS 1 1 rfl rfl (i) (by decide) rfl (by omega) dX9_become_14 (fun H locs hP hD hS => ?_)
        have hP : va_P D vwCl [(h0, .inr (8, [.ref la, .int (iZ ((u : Nat) : Int))])), (la, .inl (cJ, 14, .inr (.inl (vp_updL (LJ g) (i) ((lZ ((0 : Nat) : Int)))))))] H := hP
        have hD : va_D A [(h0, .inr (8, [.ref la, .int (iZ ((u : Nat) : Int))])), (la, .inl (cJ, 14, .inr (.inl (vp_updL (LJ g) (i) ((lZ ((0 : Nat) : Int)))))))] := hD
        rw [LJ_up] at hP hD
        obtain ⟨g1, eg1⟩ : ∃ g9, g9 = nup g (i) (0) := ⟨_, rfl⟩
        rw [← eg1] at hP hD
        have hP : va_P D vwCl [(h0, .inr (8, [.ref la, .int (iZ ((u : Nat) : Int))])), (la, .inl (cJ, 14, .inr (.inl (LJ g1))))] H := hP
        have hD : va_D A [(h0, .inr (8, [.ref la, .int (iZ ((u : Nat) : Int))])), (la, .inl (cJ, 14, .inr (.inl (LJ g1))))] := hD
        refine lv_iinc (v := iZ ((i + 1 : Nat) : Int)) (lv' := [(3, .int (iZ ((i + 1 : Nat) : Int))), (0, .ref h0), (1, .long (lZ ((x : Nat) : Int)))]) hx hb dX9_become_15 hl (k := 0) rfl (zi_inc (by omega)) (by decide) rfl (fun ls hl => ?_)
        refine lv_goto (tgt := 2) hx hb dX9_become_18 (by decide) ?_
        exact ih (i + 1) g1 (by omega) (fun j hj => by rw [eg1]; by_cases e9 : j = i; (· rw [e9, nup_s]); (· rw [nup_n e9]; exact hg j (by omega))) (by omega) _ _ hP hD hS ls (lv_sub hl [0, 1, 2] rfl)
  exact pt_2 15 0 g (by omega) (fun j hj => by omega) (by omega) _ _ hP hD hS ls (lv_sub hl [0, 1, 2] rfl)
def rmX9_multiply : Room := { frames := 0, cells := 0, slots := 0, locals := 0 }
set_option maxHeartbeats 4000000 in
set_option maxRecDepth 100000 in
theorem c_X9_multiply (l : Launch) (D : va_G) (cI cJ : ClassId) (h0 la : Nat) (g0 : Nat → Nat) (u v k : Nat) (hw : wok g0 u v) (hk : k < 2147483648) (hv : v * k < B32 ^ 14) : Cv l D vwCl (tyT cI cJ) yX9_multiply wsX9_multiply rmX9_multiply [.ref h0, .long (lZ ((k : Nat) : Int))] [(h0, .inr (8, [.ref la, .int (iZ ((u : Nat) : Int))])), (la, .inl (cJ, 14, .inr (.inl (LJ g0))))] ((Nat → Nat) × Nat) (fun r => wok r.1 r.2 (v * k)) (fun r => [(h0, .inr (8, [.ref la, .int (iZ ((r.2 : Nat) : Int))])), (la, .inl (cJ, 14, .inr (.inl (LJ r.1))))]) := by
  have hu := hw.1
  refine en_v (cc := cX9_multiply) (maxL := 8) (by decide) rfl [(0, .ref h0), (1, .long (lZ ((k : Nat) : Int)))] (Nat.le_of_ble_eq_true rfl) rfl ?_
  intro p e s m args below meth c Q A hx hb hml hown hts hnm hK hP hD hA hS hret ls hl
  have hh_0 := hts (.fieldLink RX9 13 "BoundDraws$Wide" "used" "I") (by decide +kernel)
  have hh_1 := (show ∀ w ∈ wsX90, w ∈ wsX9_multiply by decide +kernel)
  have hh_2 := hts (.fieldLink RX9 9 "BoundDraws$Wide" "limbs" "[J") (by decide +kernel)
  have hh_3 := hts (.constantLong RX9 17 (4294967295)) (by decide +kernel)
  refine zc_lconst (z := ((0 : Nat) : Int)) hx hb dX9_multiply_0 (by decide) ?_
  refine lv_lstore_n (lv' := [(3, .long (lZ ((0 : Nat) : Int))), (0, .ref h0), (1, .long (lZ ((k : Nat) : Int)))]) hx hb dX9_multiply_1 rfl hl (by decide) rfl (fun ls hl => ?_)
  refine zc_iconst (z := ((0 : Nat) : Int)) hx hb dX9_multiply_2 (by decide) ?_
  refine lv_istore (lv' := [(5, .int (iZ ((0 : Nat) : Int))), (3, .long (lZ ((0 : Nat) : Int))), (0, .ref h0), (1, .long (lZ ((k : Nat) : Int)))]) hx hb dX9_multiply_3 hl (by decide) rfl (fun ls hl => ?_)
  have pt_5 : ∀ n : Nat, ∀ (i c9 : Nat) (g : Nat → Nat), (hi : i ≤ u) → (hI : wmI g0 g k i c9) → (hn : u < i + n) → (H : Heap) → (locs : List Loc) → va_P D vwCl [(h0, .inr (8, [.ref la, .int (iZ ((u : Nat) : Int))])), (la, .inl (cJ, 14, .inr (.inl (LJ g))))] H → va_D A [(h0, .inr (8, [.ref la, .int (iZ ((u : Nat) : Int))])), (la, .inl (cJ, 14, .inr (.inl (LJ g))))] → va_S A s.heap H locs → (ls : Array Slot) → lv_has ls 8 [(5, .int (iZ ((i : Nat) : Int))), (3, .long (lZ ((c9 : Nat) : Int))), (0, .ref h0), (1, .long (lZ ((k : Nat) : Int)))] → W p l e rmX9_multiply s m args below meth c H locs 0 0 Q (F0 m 5 ls []) := by
    intro n
    induction n with
    | zero =>
      intro i c9 g hi hI hn H locs hP hD hS ls hl
      exfalso; omega
    | succ n ih =>
      intro i c9 g hi hI hn H locs hP hD hS ls hl
      refine lv_iload hx hb dX9_multiply_5 (lv_at hl 0 rfl) ?_
      refine lv_aload_n hx hb dX9_multiply_7 rfl (lv_at hl 2 rfl) ?_
      refine va_get (D := D) (ci := 8) (v := .int (iZ ((u : Nat) : Int))) (C := RX9) (T := TX9) (N := 2) hx hb hts hh_1 hown hK hP 0 rfl rfl 1 (by decide) hh_0 (fun _ h9 => h9) rfl dX9_multiply_8 ?_
      refine zb_icmp_ge (x := ((i : Nat) : Int)) (y := ((u : Nat) : Int)) (tgt := 52) hx hb dX9_multiply_11 (by decide) ⟨by omega, by omega⟩ ⟨by omega, by omega⟩ (fun c_11 => ?_) (fun c_11 => ?_)
      · have e9 : i = u := by omega
        rw [e9] at hI
        have hck := hI.2.2.1
        refine lv_lload_n hx hb dX9_multiply_52 rfl (lv_at hl 1 rfl) ?_
        refine zc_lconst (z := ((0 : Nat) : Int)) hx hb dX9_multiply_53 (by decide) ?_
        refine zb_l_eq (x := ((c9 : Nat) : Int)) (y := ((0 : Nat) : Int)) (tgt := 87) hx hb dX9_multiply_54 dX9_multiply_55 (by decide) ⟨by omega, by omega⟩ ⟨by decide, by decide⟩ (fun c_54 => ?_) (fun c_54 => ?_)
        · exact hret (g, u) _ _ _ _ _ _ (Nat.le_of_ble_eq_true rfl) (Nat.le_of_ble_eq_true rfl) dX9_multiply_87 (by have e8 : c9 = 0 := (by omega); rw [e8] at hI; exact wmI_e0 hw hI) hP hD hS
        · refine lv_aload_n hx hb dX9_multiply_58 rfl (lv_at hl 2 rfl) ?_
          refine va_get (D := D) (ci := 8) (v := .int (iZ ((u : Nat) : Int))) (C := RX9) (T := TX9) (N := 2) hx hb hts hh_1 hown hK hP 0 rfl rfl 1 (by decide) hh_0 (fun _ h9 => h9) rfl dX9_multiply_59 ?_
          refine zc_bipush (z := ((14 : Nat) : Int)) hx hb dX9_multiply_62 (by decide) ?_
          refine zb_icmp_ge (x := ((u : Nat) : Int)) (y := ((14 : Nat) : Int)) (tgt := 87) hx hb dX9_multiply_64 (by decide) ⟨by omega, by omega⟩ ⟨by decide, by decide⟩ (fun c_64 => ?_) (fun c_64 => ?_)
          · have e8 : u = 14 := (by omega); rw [e8] at hw hI; exact absurd (wmI_full hw hI hv) (by omega)
          · refine lv_aload_n hx hb dX9_multiply_67 rfl (lv_at hl 2 rfl) ?_
            refine va_get (D := D) (ci := 8) (v := .ref la) (C := RX9) (T := TX9) (N := 2) hx hb hts hh_1 hown hK hP 0 rfl rfl 0 (by decide) hh_2 (fun _ h9 => h9) rfl dX9_multiply_68 ?_
            refine lv_aload_n hx hb dX9_multiply_71 rfl (lv_at hl 2 rfl) ?_
            refine va_get (D := D) (ci := 8) (v := .int (iZ ((u : Nat) : Int))) (C := RX9) (T := TX9) (N := 2) hx hb hts hh_1 hown hK hP 0 rfl rfl 1 (by decide) hh_0 (fun _ h9 => h9) rfl dX9_multiply_72 ?_
            refine lv_lload_n hx hb dX9_multiply_75 rfl (lv_at hl 1 rfl) ?_
            refine za_last hx hb hK hP hD hS 1 1 rfl rfl (u) (by decide) rfl (by omega) dX9_multiply_76 (fun H locs hP hD hS => ?_)
            have hP : va_P D vwCl [(h0, .inr (8, [.ref la, .int (iZ ((u : Nat) : Int))])), (la, .inl (cJ, 14, .inr (.inl (vp_updL (LJ g) (u) ((lZ ((c9 : Nat) : Int)))))))] H := hP
            have hD : va_D A [(h0, .inr (8, [.ref la, .int (iZ ((u : Nat) : Int))])), (la, .inl (cJ, 14, .inr (.inl (vp_updL (LJ g) (u) ((lZ ((c9 : Nat) : Int)))))))] := hD
            rw [LJ_up] at hP hD
            have hP : va_P D vwCl [(h0, .inr (8, [.ref la, .int (iZ ((u : Nat) : Int))])), (la, .inl (cJ, 14, .inr (.inl (LJ (nup g (u) (c9))))))] H := hP
            have hD : va_D A [(h0, .inr (8, [.ref la, .int (iZ ((u : Nat) : Int))])), (la, .inl (cJ, 14, .inr (.inl (LJ (nup g (u) (c9))))))] := hD
            refine lv_aload_n hx hb dX9_multiply_77 rfl (lv_at hl 2 rfl) ?_
            refine lv_dup hx hb dX9_multiply_78 rfl ?_
            refine va_get (D := D) (ci := 8) (v := .int (iZ ((u : Nat) : Int))) (C := RX9) (T := TX9) (N := 2) hx hb hts hh_1 hown hK hP 0 rfl rfl 1 (by decide) hh_0 (fun _ h9 => h9) rfl dX9_multiply_79 ?_
            refine zc_iconst (z := ((1 : Nat) : Int)) hx hb dX9_multiply_82 (by decide) ?_
            refine zi_add (z := ((u + 1 : Nat) : Int)) hx hb dX9_multiply_83 (by omega) ?_
            refine va_put (D := D) (ci := 8) (v := .int (iZ ((u + 1 : Nat) : Int))) (ty := .int) (C := RX9) (T := TX9) (N := 2) hx hb hts hh_1 tyX9 tyX9_ok nmX9 hown hK hP hD hS 0 rfl rfl 1 (by decide) hh_0 (fun _ h9 => h9) rfl (by decide +kernel) rfl rfl (Nat.le_of_ble_eq_true rfl) dX9_multiply_84 (fun H locs hP hD hS => ?_)
            have hP : va_P D vwCl [(h0, .inr (8, [.ref la, .int (iZ ((u + 1 : Nat) : Int))])), (la, .inl (cJ, 14, .inr (.inl (LJ (nup g (u) (c9))))))] H := hP
            have hD : va_D A [(h0, .inr (8, [.ref la, .int (iZ ((u + 1 : Nat) : Int))])), (la, .inl (cJ, 14, .inr (.inl (LJ (nup g (u) (c9))))))] := hD
            exact hret (nup g u c9, u + 1) _ _ _ _ _ _ (Nat.le_of_ble_eq_true rfl) (Nat.le_of_ble_eq_true rfl) dX9_multiply_87 (wmI_e1 hw hI hk (by omega)) hP hD hS
      · have hb9 := wmI_b hI hk (by omega)
        refine lv_aload_n hx hb dX9_multiply_14 rfl (lv_at hl 2 rfl) ?_
        refine va_get (D := D) (ci := 8) (v := .ref la) (C := RX9) (T := TX9) (N := 2) hx hb hts hh_1 hown hK hP 0 rfl rfl 0 (by decide) hh_2 (fun _ h9 => h9) rfl dX9_multiply_15 ?_
        refine lv_iload hx hb dX9_multiply_18 (lv_at hl 0 rfl) ?_
        refine za_lald hx hb hK hP 1 1 rfl rfl (i) (v := ((g i : Nat) : Int)) (by decide) rfl (by omega) (rfl) dX9_multiply_20 ?_
        refine lv_lload_n hx hb dX9_multiply_21 rfl (lv_at hl 3 rfl) ?_
        refine zl_mul (z := (((g i) * k : Nat) : Int)) hx hb dX9_multiply_22 (Int.natCast_mul _ _).symm ?_
        refine lv_lload_n hx hb dX9_multiply_23 rfl (lv_at hl 1 rfl) ?_
        refine zl_add (z := (((g i) * k + c9 : Nat) : Int)) hx hb dX9_multiply_24 (by omega) ?_
        refine lv_lstore (lv' := [(6, .long (lZ (((g i) * k + c9 : Nat) : Int))), (5, .int (iZ ((i : Nat) : Int))), (3, .long (lZ ((c9 : Nat) : Int))), (0, .ref h0), (1, .long (lZ ((k : Nat) : Int)))]) hx hb dX9_multiply_25 hl (by decide) rfl (fun ls hl => ?_)
        refine lv_aload_n hx hb dX9_multiply_27 rfl (lv_at hl 3 rfl) ?_
        refine va_get (D := D) (ci := 8) (v := .ref la) (C := RX9) (T := TX9) (N := 2) hx hb hts hh_1 hown hK hP 0 rfl rfl 0 (by decide) hh_2 (fun _ h9 => h9) rfl dX9_multiply_28 ?_
        refine lv_iload hx hb dX9_multiply_31 (lv_at hl 1 rfl) ?_
        refine lv_lload hx hb dX9_multiply_33 (lv_at hl 0 rfl) ?_
        refine lv_ldc2 hx hb hown hh_3 dX9_multiply_35 (tp_l (y := lZ ((4294967295 : Nat) : Int)) (by decide) ?_)
        refine lv_land hx hb dX9_multiply_38 (tp_l (y := (lZ ((((g i) * k + c9) % 4294967296 : Nat) : Int))) (z_land32 (by omega)) ?_)
        refine za_last hx hb hK hP hD hS 1 1 rfl rfl (i) (by decide) rfl (by omega) dX9_multiply_39 (fun H locs hP hD hS => ?_)
        have hP : va_P D vwCl [(h0, .inr (8, [.ref la, .int (iZ ((u : Nat) : Int))])), (la, .inl (cJ, 14, .inr (.inl (vp_updL (LJ g) (i) ((lZ ((((g i) * k + c9) % 4294967296 : Nat) : Int)))))))] H := hP
        have hD : va_D A [(h0, .inr (8, [.ref la, .int (iZ ((u : Nat) : Int))])), (la, .inl (cJ, 14, .inr (.inl (vp_updL (LJ g) (i) ((lZ ((((g i) * k + c9) % 4294967296 : Nat) : Int)))))))] := hD
        rw [LJ_up] at hP hD
        obtain ⟨g1, eg1⟩ : ∃ g9, g9 = nup g (i) (((g i) * k + c9) % 4294967296) := ⟨_, rfl⟩
        rw [← eg1] at hP hD
        have hP : va_P D vwCl [(h0, .inr (8, [.ref la, .int (iZ ((u : Nat) : Int))])), (la, .inl (cJ, 14, .inr (.inl (LJ g1))))] H := hP
        have hD : va_D A [(h0, .inr (8, [.ref la, .int (iZ ((u : Nat) : Int))])), (la, .inl (cJ, 14, .inr (.inl (LJ g1))))] := hD
        refine lv_lload hx hb dX9_multiply_40 (lv_at hl 0 rfl) ?_
        refine zc_bipush (z := ((32 : Nat) : Int)) hx hb dX9_multiply_42 (by decide) ?_
        refine lv_lushr (v := (lZ ((((g i) * k + c9) / 4294967296 : Nat) : Int))) hx hb dX9_multiply_44 (z_lushr32 (by omega)) ?_
        refine lv_lstore_n (lv' := [(3, .long (lZ ((((g i) * k + c9) / 4294967296 : Nat) : Int))), (6, .long (lZ (((g i) * k + c9 : Nat) : Int))), (5, .int (iZ ((i : Nat) : Int))), (0, .ref h0), (1, .long (lZ ((k : Nat) : Int)))]) hx hb dX9_multiply_45 rfl hl (by decide) rfl (fun ls hl => ?_)
        refine lv_iinc (v := iZ ((i + 1 : Nat) : Int)) (lv' := [(5, .int (iZ ((i + 1 : Nat) : Int))), (3, .long (lZ ((((g i) * k + c9) / 4294967296 : Nat) : Int))), (6, .long (lZ (((g i) * k + c9 : Nat) : Int))), (0, .ref h0), (1, .long (lZ ((k : Nat) : Int)))]) hx hb dX9_multiply_46 hl (k := 2) rfl (zi_inc (by omega)) (by decide) rfl (fun ls hl => ?_)
        refine lv_goto (tgt := 5) hx hb dX9_multiply_49 (by decide) ?_
        exact ih (i + 1) (((g i) * k + c9) / 4294967296) g1 (by omega) (by rw [eg1]; exact wmI_s hI (by omega)) (by omega) _ _ hP hD hS ls (lv_sub hl [0, 1, 3, 4] rfl)
  exact pt_5 (u + 1) 0 0 g0 (by omega) (wmI_0 hw) (by omega) _ _ hP hD hS ls (lv_sub hl [0, 1, 2, 3] rfl)
def rmX9_multiplyOften : Room := { frames := 1, cells := 0, slots := 0, locals := 27 }
set_option maxHeartbeats 4000000 in
set_option maxRecDepth 100000 in
theorem c_X9_multiplyOften (l : Launch) (D : va_G) (cI cJ : ClassId) (h0 la : Nat) (g0 : Nat → Nat) (u0 v k t : Nat) (hw : wok g0 u0 v) (hk : k < 2147483648) (ht : t < 2147483648) (hv : v * k ^ t < B32 ^ 14) : Cv l D vwCl (tyT cI cJ) yX9_multiplyOften wsX9_multiplyOften rmX9_multiplyOften [.ref h0, .long (lZ ((k : Nat) : Int)), .int (iZ ((t : Nat) : Int))] [(h0, .inr (8, [.ref la, .int (iZ ((u0 : Nat) : Int))])), (la, .inl (cJ, 14, .inr (.inl (LJ g0))))] ((Nat → Nat) × Nat) (fun r => wok r.1 r.2 (v * k ^ t)) (fun r => [(h0, .inr (8, [.ref la, .int (iZ ((r.2 : Nat) : Int))])), (la, .inl (cJ, 14, .inr (.inl (LJ r.1))))]) := by
  refine en_v (cc := cX9_multiplyOften) (maxL := 5) (by decide) rfl [(0, .ref h0), (1, .long (lZ ((k : Nat) : Int))), (3, .int (iZ ((t : Nat) : Int)))] (Nat.le_of_ble_eq_true rfl) rfl ?_
  intro p e s m args below meth c Q A hx hb hml hown hts hnm hK hP hD hA hS hret ls hl
  refine zc_iconst (z := ((0 : Nat) : Int)) hx hb dX9_multiplyOften_0 (by decide) ?_
  refine lv_istore (lv' := [(4, .int (iZ ((0 : Nat) : Int))), (0, .ref h0), (1, .long (lZ ((k : Nat) : Int))), (3, .int (iZ ((t : Nat) : Int)))]) hx hb dX9_multiplyOften_1 hl (by decide) rfl (fun ls hl => ?_)
  have pt_3 : ∀ n : Nat, ∀ (i u : Nat) (g : Nat → Nat), (hi : i ≤ t) → (hI : wok g u (v * k ^ i)) → (hn : t < i + n) → (H : Heap) → (locs : List Loc) → va_P D vwCl [(h0, .inr (8, [.ref la, .int (iZ ((u : Nat) : Int))])), (la, .inl (cJ, 14, .inr (.inl (LJ g))))] H → va_D A [(h0, .inr (8, [.ref la, .int (iZ ((u : Nat) : Int))])), (la, .inl (cJ, 14, .inr (.inl (LJ g))))] → va_S A s.heap H locs → (ls : Array Slot) → lv_has ls 5 [(4, .int (iZ ((i : Nat) : Int))), (0, .ref h0), (1, .long (lZ ((k : Nat) : Int))), (3, .int (iZ ((t : Nat) : Int)))] → W p l e rmX9_multiplyOften s m args below meth c H locs 0 0 Q (F0 m 3 ls []) := by
    intro n
    induction n with
    | zero =>
      intro i u g hi hI hn H locs hP hD hS ls hl
      exfalso; omega
    | succ n ih =>
      intro i u g hi hI hn H locs hP hD hS ls hl
      refine lv_iload hx hb dX9_multiplyOften_3 (lv_at hl 0 rfl) ?_
      refine lv_iload_n hx hb dX9_multiplyOften_5 rfl (lv_at hl 3 rfl) ?_
      refine zb_icmp_ge (x := ((i : Nat) : Int)) (y := ((t : Nat) : Int)) (tgt := 20) hx hb dX9_multiplyOften_6 (by decide) ⟨by omega, by omega⟩ ⟨by omega, by omega⟩ (fun c_6 => ?_) (fun c_6 => ?_)
      · exact hret (g, u) _ _ _ _ _ _ (Nat.le_of_ble_eq_true rfl) (Nat.le_of_ble_eq_true rfl) dX9_multiplyOften_20 (by have e8 : i = t := (by omega); rw [e8] at hI; exact hI) hP hD hS
      · refine lv_aload_n hx hb dX9_multiplyOften_9 rfl (lv_at hl 1 rfl) ?_
        refine lv_lload_n hx hb dX9_multiplyOften_10 rfl (lv_at hl 2 rfl) ?_
        refine ca_vV [.long (lZ ((k : Nat) : Int))] [] [] 0 0 ⟨hx, hb, hml, hown, hts⟩ (c_X9_multiply l D cI cJ h0 la g u (v * k ^ i) k hI hk (wmo_lt hv (by omega))) (cwV 1 hts gX9_multiplyOften_X9_multiply rfl rfl rfl (by decide +kernel) ⟨(Nat.le_of_ble_eq_true rfl), (Nat.le_of_ble_eq_true rfl)⟩) hK hP hD hS hA [0, 1] [] rfl rfl rfl rfl (by decide) 0 rfl rfl rfl hl.1 rfl (Nat.le_of_ble_eq_true rfl) dX9_multiplyOften_11 ⟨(Nat.le_of_ble_eq_true rfl), (Nat.le_of_ble_eq_true rfl)⟩ (Nat.le_of_ble_eq_true rfl) (Nat.le_of_ble_eq_true rfl) (fun u9 H locs hw hP hD hS => ?_)
        obtain ⟨g1, u1⟩ := u9
        try dsimp only at hw
        have hw1 := hw
        have hP : va_P D vwCl [(h0, .inr (8, [.ref la, .int (iZ ((u1 : Nat) : Int))])), (la, .inl (cJ, 14, .inr (.inl (LJ g1))))] H := hP
        have hD : va_D A [(h0, .inr (8, [.ref la, .int (iZ ((u1 : Nat) : Int))])), (la, .inl (cJ, 14, .inr (.inl (LJ g1))))] := hD
        refine lv_iinc (v := iZ ((i + 1 : Nat) : Int)) (lv' := [(4, .int (iZ ((i + 1 : Nat) : Int))), (0, .ref h0), (1, .long (lZ ((k : Nat) : Int))), (3, .int (iZ ((t : Nat) : Int)))]) hx hb dX9_multiplyOften_14 hl (k := 0) rfl (zi_inc (by omega)) (by decide) rfl (fun ls hl => ?_)
        refine lv_goto (tgt := 3) hx hb dX9_multiplyOften_17 (by decide) ?_
        exact ih (i + 1) u1 g1 (by omega) (by rw [Nat.pow_succ, ← Nat.mul_assoc]; exact hw1) (by omega) _ _ hP hD hS ls (lv_sub hl [0, 1, 2, 3] rfl)
  exact pt_3 (t + 1) 0 u0 g0 (by omega) (by rw [Nat.pow_zero, Nat.mul_one]; exact hw) (by omega) _ _ hP hD hS ls (lv_sub hl [0, 1, 2, 3] rfl)
def rmX9_addTimes : Room := { frames := 1, cells := 0, slots := 0, locals := 13 }
set_option maxHeartbeats 4000000 in
set_option maxRecDepth 100000 in
theorem c_X9_addTimes (l : Launch) (D : va_G) (cI cJ : ClassId) (h0 la h1 lb : Nat) (g0 h : Nat → Nat) (u v u2 w k : Nat) (hw : wok g0 u v) (hw2 : wok h u2 w) (hk : k < 2147483648) (hv : v + w * k < B32 ^ 14) : Cv l D vwCl (tyT cI cJ) yX9_addTimes wsX9_addTimes rmX9_addTimes [.ref h0, .ref h1, .long (lZ ((k : Nat) : Int))] [(h0, .inr (8, [.ref la, .int (iZ ((u : Nat) : Int))])), (la, .inl (cJ, 14, .inr (.inl (LJ g0)))), (h1, .inr (8, [.ref lb, .int (iZ ((u2 : Nat) : Int))])), (lb, .inl (cJ, 14, .inr (.inl (LJ h))))] ((Nat → Nat) × Nat) (fun r => wok r.1 r.2 (v + w * k)) (fun r => [(h0, .inr (8, [.ref la, .int (iZ ((r.2 : Nat) : Int))])), (la, .inl (cJ, 14, .inr (.inl (LJ r.1)))), (h1, .inr (8, [.ref lb, .int (iZ ((u2 : Nat) : Int))])), (lb, .inl (cJ, 14, .inr (.inl (LJ h))))]) := by
  have hu := hw.1
  have hu2 := hw2.1
  obtain ⟨r, er⟩ : ∃ r : Nat, r = min (max u u2 + 1) 14 := ⟨_, rfl⟩
  refine en_v (cc := cX9_addTimes) (maxL := 10) (by decide) rfl [(0, .ref h0), (1, .ref h1), (2, .long (lZ ((k : Nat) : Int)))] (Nat.le_of_ble_eq_true rfl) rfl ?_
  intro p e s m args below meth c Q A hx hb hml hown hts hnm hK hP hD hA hS hret ls hl
  have hh_0 := hts (.fieldLink RX9 13 "BoundDraws$Wide" "used" "I") (by decide +kernel)
  have hh_1 := (show ∀ w ∈ wsX90, w ∈ wsX9_addTimes by decide +kernel)
  have hh_2 := hts (.methodLink RX9 23 Lib.Math.max.name) (by decide +kernel)
  have hh_3 := hts (.static Lib.Math.max.name) (by decide +kernel)
  have hh_4 := hts (.initialized "java/lang/Math") (by decide +kernel)
  have hh_5 := hts (.code Lib.Math.max.name Lib.Math.max.code 2 (some .int)) (by decide +kernel)
  have hh_6 := hts (.methodLink RX9 29 Lib.Math.min.name) (by decide +kernel)
  have hh_7 := hts (.static Lib.Math.min.name) (by decide +kernel)
  have hh_8 := hts (.code Lib.Math.min.name Lib.Math.min.code 2 (some .int)) (by decide +kernel)
  have hh_9 := hts (.fieldLink RX9 9 "BoundDraws$Wide" "limbs" "[J") (by decide +kernel)
  have hh_10 := hts (.constantLong RX9 17 (4294967295)) (by decide +kernel)
  refine lv_aload_n hx hb dX9_addTimes_0 rfl (lv_at hl 0 rfl) ?_
  refine va_get (D := D) (ci := 8) (v := .int (iZ ((u : Nat) : Int))) (C := RX9) (T := TX9) (N := 2) hx hb hts hh_1 hown hK hP 0 rfl rfl 1 (by decide) hh_0 (fun _ h9 => h9) rfl dX9_addTimes_1 ?_
  refine lv_aload_n hx hb dX9_addTimes_4 rfl (lv_at hl 1 rfl) ?_
  refine va_get (D := D) (ci := 8) (v := .int (iZ ((u2 : Nat) : Int))) (C := RX9) (T := TX9) (N := 2) hx hb hts hh_1 hown hK hP 2 rfl rfl 1 (by decide) hh_0 (fun _ h9 => h9) rfl dX9_addTimes_5 ?_
  refine zm_max (z := ((max u u2 : Nat) : Int)) hx hb (hml.trans hl.1.symm) hown hh_2 hh_3 hh_4 hh_5 (Nat.le_of_ble_eq_true rfl) (Nat.le_of_ble_eq_true rfl) ⟨by omega, by omega⟩ ⟨by omega, by omega⟩ (by omega) dX9_addTimes_8 ?_
  refine zc_iconst (z := ((1 : Nat) : Int)) hx hb dX9_addTimes_11 (by decide) ?_
  refine zi_add (z := ((max u u2 + 1 : Nat) : Int)) hx hb dX9_addTimes_12 (by omega) ?_
  refine zc_bipush (z := ((14 : Nat) : Int)) hx hb dX9_addTimes_13 (by decide) ?_
  refine zm_min (z := ((r : Nat) : Int)) hx hb (hml.trans hl.1.symm) hown hh_6 hh_7 hh_4 hh_8 (Nat.le_of_ble_eq_true rfl) (Nat.le_of_ble_eq_true rfl) ⟨by omega, by omega⟩ ⟨by decide, by decide⟩ (by omega) dX9_addTimes_15 ?_
  refine lv_istore (lv' := [(4, .int (iZ ((r : Nat) : Int))), (0, .ref h0), (1, .ref h1), (2, .long (lZ ((k : Nat) : Int)))]) hx hb dX9_addTimes_18 hl (by decide) rfl (fun ls hl => ?_)
  refine zc_lconst (z := ((0 : Nat) : Int)) hx hb dX9_addTimes_20 (by decide) ?_
  refine lv_lstore (lv' := [(5, .long (lZ ((0 : Nat) : Int))), (4, .int (iZ ((r : Nat) : Int))), (0, .ref h0), (1, .ref h1), (2, .long (lZ ((k : Nat) : Int)))]) hx hb dX9_addTimes_21 hl (by decide) rfl (fun ls hl => ?_)
  refine zc_iconst (z := ((0 : Nat) : Int)) hx hb dX9_addTimes_23 (by decide) ?_
  refine lv_istore (lv' := [(7, .int (iZ ((0 : Nat) : Int))), (5, .long (lZ ((0 : Nat) : Int))), (4, .int (iZ ((r : Nat) : Int))), (0, .ref h0), (1, .ref h1), (2, .long (lZ ((k : Nat) : Int)))]) hx hb dX9_addTimes_24 hl (by decide) rfl (fun ls hl => ?_)
  have pt_26 : ∀ n : Nat, ∀ (i c9 : Nat) (g : Nat → Nat), (hi : i ≤ r) → (hI : waI g0 h g k i c9 (max u u2)) → (hn : r < i + n) → (H : Heap) → (locs : List Loc) → va_P D vwCl [(h0, .inr (8, [.ref la, .int (iZ ((u : Nat) : Int))])), (la, .inl (cJ, 14, .inr (.inl (LJ g)))), (h1, .inr (8, [.ref lb, .int (iZ ((u2 : Nat) : Int))])), (lb, .inl (cJ, 14, .inr (.inl (LJ h))))] H → va_D A [(h0, .inr (8, [.ref la, .int (iZ ((u : Nat) : Int))])), (la, .inl (cJ, 14, .inr (.inl (LJ g)))), (h1, .inr (8, [.ref lb, .int (iZ ((u2 : Nat) : Int))])), (lb, .inl (cJ, 14, .inr (.inl (LJ h))))] → va_S A s.heap H locs → (ls : Array Slot) → lv_has ls 10 [(7, .int (iZ ((i : Nat) : Int))), (5, .long (lZ ((c9 : Nat) : Int))), (4, .int (iZ ((r : Nat) : Int))), (0, .ref h0), (1, .ref h1), (2, .long (lZ ((k : Nat) : Int)))] → W p l e rmX9_addTimes s m args below meth c H locs 0 0 Q (F0 m 26 ls []) := by
    intro n
    induction n with
    | zero =>
      intro i c9 g hi hI hn H locs hP hD hS ls hl
      exfalso; omega
    | succ n ih =>
      intro i c9 g hi hI hn H locs hP hD hS ls hl
      refine lv_iload hx hb dX9_addTimes_26 (lv_at hl 0 rfl) ?_
      refine lv_iload hx hb dX9_addTimes_28 (lv_at hl 2 rfl) ?_
      refine zb_icmp_ge (x := ((i : Nat) : Int)) (y := ((r : Nat) : Int)) (tgt := 81) hx hb dX9_addTimes_30 (by decide) ⟨by omega, by omega⟩ ⟨by omega, by omega⟩ (fun c_30 => ?_) (fun c_30 => ?_)
      · have e9 : i = r := by omega
        rw [e9] at hI
        have hE := waI_e hw hw2 er hI hv
        have hrz : 0 < r := by omega
        have hgr := hE.2.1 (r - 1) (by omega)
        have hgr2 : g (r - 1) < 4294967296 := hgr
        have pt_105 : ∀ (r2 : Nat), (hr2 : wok g r2 (v + w * k)) → (H : Heap) → (locs : List Loc) → va_P D vwCl [(h0, .inr (8, [.ref la, .int (iZ ((u : Nat) : Int))])), (la, .inl (cJ, 14, .inr (.inl (LJ g)))), (h1, .inr (8, [.ref lb, .int (iZ ((u2 : Nat) : Int))])), (lb, .inl (cJ, 14, .inr (.inl (LJ h))))] H → va_D A [(h0, .inr (8, [.ref la, .int (iZ ((u : Nat) : Int))])), (la, .inl (cJ, 14, .inr (.inl (LJ g)))), (h1, .inr (8, [.ref lb, .int (iZ ((u2 : Nat) : Int))])), (lb, .inl (cJ, 14, .inr (.inl (LJ h))))] → va_S A s.heap H locs → (ls : Array Slot) → lv_has ls 10 [(0, .ref h0)] → W p l e rmX9_addTimes s m args below meth c H locs 0 0 Q (F0 m 105 ls [.int (iZ ((r2 : Nat) : Int)), .ref h0]) := by
          intro r2 hr2 H locs hP hD hS ls hl
          refine va_put (D := D) (ci := 8) (v := .int (iZ ((r2 : Nat) : Int))) (ty := .int) (C := RX9) (T := TX9) (N := 2) hx hb hts hh_1 tyX9 tyX9_ok nmX9 hown hK hP hD hS 0 rfl rfl 1 (by decide) hh_0 (fun _ h9 => h9) rfl (by decide +kernel) rfl rfl (Nat.le_of_ble_eq_true rfl) dX9_addTimes_105 (fun H locs hP hD hS => ?_)
          have hP : va_P D vwCl [(h0, .inr (8, [.ref la, .int (iZ ((r2 : Nat) : Int))])), (la, .inl (cJ, 14, .inr (.inl (LJ g)))), (h1, .inr (8, [.ref lb, .int (iZ ((u2 : Nat) : Int))])), (lb, .inl (cJ, 14, .inr (.inl (LJ h))))] H := hP
          have hD : va_D A [(h0, .inr (8, [.ref la, .int (iZ ((r2 : Nat) : Int))])), (la, .inl (cJ, 14, .inr (.inl (LJ g)))), (h1, .inr (8, [.ref lb, .int (iZ ((u2 : Nat) : Int))])), (lb, .inl (cJ, 14, .inr (.inl (LJ h))))] := hD
          exact hret (g, r2) _ _ _ _ _ _ (Nat.le_of_ble_eq_true rfl) (Nat.le_of_ble_eq_true rfl) dX9_addTimes_108 (hr2) hP hD hS
        refine lv_aload_n hx hb dX9_addTimes_81 rfl (lv_at hl 3 rfl) ?_
        refine lv_aload_n hx hb dX9_addTimes_82 rfl (lv_at hl 3 rfl) ?_
        refine va_get (D := D) (ci := 8) (v := .ref la) (C := RX9) (T := TX9) (N := 2) hx hb hts hh_1 hown hK hP 0 rfl rfl 0 (by decide) hh_9 (fun _ h9 => h9) rfl dX9_addTimes_83 ?_
        refine lv_iload hx hb dX9_addTimes_86 (lv_at hl 2 rfl) ?_
        refine zc_iconst (z := ((1 : Nat) : Int)) hx hb dX9_addTimes_88 (by decide) ?_
        refine zi_sub (z := ((r - 1 : Nat) : Int)) hx hb dX9_addTimes_89 (by omega) ?_
        refine za_lald hx hb hK hP 1 1 rfl rfl (r - 1) (v := ((g (r - 1) : Nat) : Int)) (by decide) rfl (by omega) (rfl) dX9_addTimes_90 ?_
        refine zc_lconst (z := ((0 : Nat) : Int)) hx hb dX9_addTimes_91 (by decide) ?_
        refine zb_l_ne (x := ((g (r - 1) : Nat) : Int)) (y := ((0 : Nat) : Int)) (tgt := 103) hx hb dX9_addTimes_92 dX9_addTimes_93 (by decide) ⟨by omega, by omega⟩ ⟨by decide, by decide⟩ (fun c_92 => ?_) (fun c_92 => ?_)
        · refine lv_iload hx hb dX9_addTimes_103 (lv_at hl 2 rfl) ?_
          exact pt_105 r hE _ _ hP hD hS ls (lv_sub hl [3] rfl)
        · refine lv_iload hx hb dX9_addTimes_96 (lv_at hl 2 rfl) ?_
          refine zc_iconst (z := ((1 : Nat) : Int)) hx hb dX9_addTimes_98 (by decide) ?_
          refine zi_sub (z := ((r - 1 : Nat) : Int)) hx hb dX9_addTimes_99 (by omega) ?_
          refine lv_goto (tgt := 105) hx hb dX9_addTimes_100 (by decide) ?_
          exact pt_105 (r - 1) (wok_less hE (by omega) (by omega)) _ _ hP hD hS ls (lv_sub hl [3] rfl)
      · have hb9 := waI_b hI hw2 hk (show i < 14 by omega)
        refine lv_aload_n hx hb dX9_addTimes_33 rfl (lv_at hl 3 rfl) ?_
        refine va_get (D := D) (ci := 8) (v := .ref la) (C := RX9) (T := TX9) (N := 2) hx hb hts hh_1 hown hK hP 0 rfl rfl 0 (by decide) hh_9 (fun _ h9 => h9) rfl dX9_addTimes_34 ?_
        refine lv_iload hx hb dX9_addTimes_37 (lv_at hl 0 rfl) ?_
        refine za_lald hx hb hK hP 1 1 rfl rfl (i) (v := ((g i : Nat) : Int)) (by decide) rfl (by omega) (rfl) dX9_addTimes_39 ?_
        refine lv_aload_n hx hb dX9_addTimes_40 rfl (lv_at hl 4 rfl) ?_
        refine va_get (D := D) (ci := 8) (v := .ref lb) (C := RX9) (T := TX9) (N := 2) hx hb hts hh_1 hown hK hP 2 rfl rfl 0 (by decide) hh_9 (fun _ h9 => h9) rfl dX9_addTimes_41 ?_
        refine lv_iload hx hb dX9_addTimes_44 (lv_at hl 0 rfl) ?_
        refine za_lald hx hb hK hP 3 1 rfl rfl (i) (v := ((h i : Nat) : Int)) (by decide) rfl (by omega) (rfl) dX9_addTimes_46 ?_
        refine lv_lload_n hx hb dX9_addTimes_47 rfl (lv_at hl 5 rfl) ?_
        refine zl_mul (z := (((h i) * k : Nat) : Int)) hx hb dX9_addTimes_48 (Int.natCast_mul _ _).symm ?_
        refine zl_add (z := ((g i + h i * k : Nat) : Int)) hx hb dX9_addTimes_49 (by omega) ?_
        refine lv_lload hx hb dX9_addTimes_50 (lv_at hl 1 rfl) ?_
        refine zl_add (z := ((g i + h i * k + c9 : Nat) : Int)) hx hb dX9_addTimes_52 (by omega) ?_
        refine lv_lstore (lv' := [(8, .long (lZ ((g i + h i * k + c9 : Nat) : Int))), (7, .int (iZ ((i : Nat) : Int))), (5, .long (lZ ((c9 : Nat) : Int))), (4, .int (iZ ((r : Nat) : Int))), (0, .ref h0), (1, .ref h1), (2, .long (lZ ((k : Nat) : Int)))]) hx hb dX9_addTimes_53 hl (by decide) rfl (fun ls hl => ?_)
        refine lv_aload_n hx hb dX9_addTimes_55 rfl (lv_at hl 4 rfl) ?_
        refine va_get (D := D) (ci := 8) (v := .ref la) (C := RX9) (T := TX9) (N := 2) hx hb hts hh_1 hown hK hP 0 rfl rfl 0 (by decide) hh_9 (fun _ h9 => h9) rfl dX9_addTimes_56 ?_
        refine lv_iload hx hb dX9_addTimes_59 (lv_at hl 1 rfl) ?_
        refine lv_lload hx hb dX9_addTimes_61 (lv_at hl 0 rfl) ?_
        refine lv_ldc2 hx hb hown hh_10 dX9_addTimes_63 (tp_l (y := lZ ((4294967295 : Nat) : Int)) (by decide) ?_)
        refine lv_land hx hb dX9_addTimes_66 (tp_l (y := (lZ (((g i + h i * k + c9) % 4294967296 : Nat) : Int))) (z_land32 (by omega)) ?_)
        refine za_last hx hb hK hP hD hS 1 1 rfl rfl (i) (by decide) rfl (by omega) dX9_addTimes_67 (fun H locs hP hD hS => ?_)
        have hP : va_P D vwCl [(h0, .inr (8, [.ref la, .int (iZ ((u : Nat) : Int))])), (la, .inl (cJ, 14, .inr (.inl (vp_updL (LJ g) (i) ((lZ (((g i + h i * k + c9) % 4294967296 : Nat) : Int))))))), (h1, .inr (8, [.ref lb, .int (iZ ((u2 : Nat) : Int))])), (lb, .inl (cJ, 14, .inr (.inl (LJ h))))] H := hP
        have hD : va_D A [(h0, .inr (8, [.ref la, .int (iZ ((u : Nat) : Int))])), (la, .inl (cJ, 14, .inr (.inl (vp_updL (LJ g) (i) ((lZ (((g i + h i * k + c9) % 4294967296 : Nat) : Int))))))), (h1, .inr (8, [.ref lb, .int (iZ ((u2 : Nat) : Int))])), (lb, .inl (cJ, 14, .inr (.inl (LJ h))))] := hD
        rw [LJ_up] at hP hD
        obtain ⟨g1, eg1⟩ : ∃ g9, g9 = nup g (i) ((g i + h i * k + c9) % 4294967296) := ⟨_, rfl⟩
        rw [← eg1] at hP hD
        have hP : va_P D vwCl [(h0, .inr (8, [.ref la, .int (iZ ((u : Nat) : Int))])), (la, .inl (cJ, 14, .inr (.inl (LJ g1)))), (h1, .inr (8, [.ref lb, .int (iZ ((u2 : Nat) : Int))])), (lb, .inl (cJ, 14, .inr (.inl (LJ h))))] H := hP
        have hD : va_D A [(h0, .inr (8, [.ref la, .int (iZ ((u : Nat) : Int))])), (la, .inl (cJ, 14, .inr (.inl (LJ g1)))), (h1, .inr (8, [.ref lb, .int (iZ ((u2 : Nat) : Int))])), (lb, .inl (cJ, 14, .inr (.inl (LJ h))))] := hD
        refine lv_lload hx hb dX9_addTimes_68 (lv_at hl 0 rfl) ?_
        refine zc_bipush (z := ((32 : Nat) : Int)) hx hb dX9_addTimes_70 (by decide) ?_
        refine lv_lushr (v := (lZ (((g i + h i * k + c9) / 4294967296 : Nat) : Int))) hx hb dX9_addTimes_72 (z_lushr32 (by omega)) ?_
        refine lv_lstore (lv' := [(5, .long (lZ (((g i + h i * k + c9) / 4294967296 : Nat) : Int))), (8, .long (lZ ((g i + h i * k + c9 : Nat) : Int))), (7, .int (iZ ((i : Nat) : Int))), (4, .int (iZ ((r : Nat) : Int))), (0, .ref h0), (1, .ref h1), (2, .long (lZ ((k : Nat) : Int)))]) hx hb dX9_addTimes_73 hl (by decide) rfl (fun ls hl => ?_)
        refine lv_iinc (v := iZ ((i + 1 : Nat) : Int)) (lv' := [(7, .int (iZ ((i + 1 : Nat) : Int))), (5, .long (lZ (((g i + h i * k + c9) / 4294967296 : Nat) : Int))), (8, .long (lZ ((g i + h i * k + c9 : Nat) : Int))), (4, .int (iZ ((r : Nat) : Int))), (0, .ref h0), (1, .ref h1), (2, .long (lZ ((k : Nat) : Int)))]) hx hb dX9_addTimes_75 hl (k := 2) rfl (zi_inc (by omega)) (by decide) rfl (fun ls hl => ?_)
        refine lv_goto (tgt := 26) hx hb dX9_addTimes_78 (by decide) ?_
        exact ih (i + 1) ((g i + h i * k + c9) / 4294967296) g1 (by omega) (by rw [eg1]; exact waI_s hI hw hw2 hk (by omega) (by omega) (by omega)) (by omega) _ _ hP hD hS ls (lv_sub hl [0, 1, 3, 4, 5, 6] rfl)
  exact pt_26 (r + 1) 0 0 g0 (by omega) (waI_0 hw) (by omega) _ _ hP hD hS ls (lv_sub hl [0, 1, 2, 3, 4, 5] rfl)
def rmX9_against : Room := { frames := 0, cells := 0, slots := 0, locals := 0 }
set_option maxHeartbeats 4000000 in
set_option maxRecDepth 100000 in
theorem c_X9_against (l : Launch) (D : va_G) (cI cJ : ClassId) (h0 la h1 lb : Nat) (g h : Nat → Nat) (u v u2 w : Nat) (hw : wok g u v) (hw2 : wok h u2 w) : Ci l D vwCl (tyT cI cJ) yX9_against wsX9_against rmX9_against [.ref h0, .ref h1] [(h0, .inr (8, [.ref la, .int (iZ ((u : Nat) : Int))])), (la, .inl (cJ, 14, .inr (.inl (LJ g)))), (h1, .inr (8, [.ref lb, .int (iZ ((u2 : Nat) : Int))])), (lb, .inl (cJ, 14, .inr (.inl (LJ h))))] (Unit) (fun a _ => a = iZ (cmpZ v w)) (fun _ => [(h0, .inr (8, [.ref la, .int (iZ ((u : Nat) : Int))])), (la, .inl (cJ, 14, .inr (.inl (LJ g)))), (h1, .inr (8, [.ref lb, .int (iZ ((u2 : Nat) : Int))])), (lb, .inl (cJ, 14, .inr (.inl (LJ h))))]) := by
  refine en_i (cc := cX9_against) (maxL := 3) (by decide) rfl [(0, .ref h0), (1, .ref h1)] (Nat.le_of_ble_eq_true rfl) rfl ?_
  intro p e s m args below meth c Q A hx hb hml hown hts hnm hK hP hD hA hS hret ls hl
  have hh_0 := hts (.fieldLink RX9 9 "BoundDraws$Wide" "limbs" "[J") (by decide +kernel)
  have hh_1 := (show ∀ w ∈ wsX90, w ∈ wsX9_against by decide +kernel)
  refine zc_bipush (z := ((13 : Nat) : Int)) hx hb dX9_against_0 (by decide) ?_
  refine tp_i (y := (iZ (((14 : Nat) : Int) - 1))) (by decide) ?_
  refine lv_istore_n (lv' := [(2, .int (iZ (((14 : Nat) : Int) - 1))), (0, .ref h0), (1, .ref h1)]) hx hb dX9_against_2 rfl hl (by decide) rfl (fun ls hl => ?_)
  have pt_3 : ∀ n : Nat, ∀ (j : Nat), (hj : j ≤ 14) → (hE : ∀ x, j ≤ x → x < 14 → g x = h x) → (hn : j < n) → (H : Heap) → (locs : List Loc) → va_P D vwCl [(h0, .inr (8, [.ref la, .int (iZ ((u : Nat) : Int))])), (la, .inl (cJ, 14, .inr (.inl (LJ g)))), (h1, .inr (8, [.ref lb, .int (iZ ((u2 : Nat) : Int))])), (lb, .inl (cJ, 14, .inr (.inl (LJ h))))] H → va_D A [(h0, .inr (8, [.ref la, .int (iZ ((u : Nat) : Int))])), (la, .inl (cJ, 14, .inr (.inl (LJ g)))), (h1, .inr (8, [.ref lb, .int (iZ ((u2 : Nat) : Int))])), (lb, .inl (cJ, 14, .inr (.inl (LJ h))))] → va_S A s.heap H locs → (ls : Array Slot) → lv_has ls 3 [(2, .int (iZ (((j : Nat) : Int) - 1))), (0, .ref h0), (1, .ref h1)] → W p l e rmX9_against s m args below meth c H locs 0 0 Q (F0 m 3 ls []) := by
    intro n
    induction n with
    | zero =>
      intro j hj hE hn H locs hP hD hS ls hl
      exfalso; omega
    | succ n ih =>
      intro j hj hE hn H locs hP hD hS ls hl
      refine lv_iload_n hx hb dX9_against_3 rfl (lv_at hl 0 rfl) ?_
      refine zb_if_lt (x := (((j : Nat) : Int) - 1)) (tgt := 51) hx hb dX9_against_4 (by decide) ⟨by omega, by omega⟩ (fun c_4 => ?_) (fun c_4 => ?_)
      · refine zc_iconst (z := ((0 : Nat) : Int)) hx hb dX9_against_51 (by decide) ?_
        exact hret _ (()) _ _ _ _ _ _ (Nat.le_of_ble_eq_true rfl) (Nat.le_of_ble_eq_true rfl) rfl dX9_against_52 (by have h9 := wok_eq hw hw2 (fun x h1 h2 => hE x (by omega) h2); simp only [cmpZ, if_neg (show ¬ v < w by omega), if_pos h9]; rfl) hP hD hS
      · have hb1 := hw.2.1 (j - 1) (by omega)
        have hb2 := hw2.2.1 (j - 1) (by omega)
        have hb1 : g (j - 1) < 4294967296 := hb1
        have hb2 : h (j - 1) < 4294967296 := hb2
        refine lv_aload_n hx hb dX9_against_7 rfl (lv_at hl 1 rfl) ?_
        refine va_get (D := D) (ci := 8) (v := .ref la) (C := RX9) (T := TX9) (N := 2) hx hb hts hh_1 hown hK hP 0 rfl rfl 0 (by decide) hh_0 (fun _ h9 => h9) rfl dX9_against_8 ?_
        refine lv_iload_n hx hb dX9_against_11 rfl (lv_at hl 0 rfl) ?_
        refine za_lald hx hb hK hP 1 1 rfl rfl (j - 1) (v := ((g (j - 1) : Nat) : Int)) (by decide) (by omega) (by omega) (rfl) dX9_against_12 ?_
        refine lv_aload_n hx hb dX9_against_13 rfl (lv_at hl 2 rfl) ?_
        refine va_get (D := D) (ci := 8) (v := .ref lb) (C := RX9) (T := TX9) (N := 2) hx hb hts hh_1 hown hK hP 2 rfl rfl 0 (by decide) hh_0 (fun _ h9 => h9) rfl dX9_against_14 ?_
        refine lv_iload_n hx hb dX9_against_17 rfl (lv_at hl 0 rfl) ?_
        refine za_lald hx hb hK hP 3 1 rfl rfl (j - 1) (v := ((h (j - 1) : Nat) : Int)) (by decide) (by omega) (by omega) (rfl) dX9_against_18 ?_
        refine zb_l_eq (x := ((g (j - 1) : Nat) : Int)) (y := ((h (j - 1) : Nat) : Int)) (tgt := 45) hx hb dX9_against_19 dX9_against_20 (by decide) ⟨by omega, by omega⟩ ⟨by omega, by omega⟩ (fun c_19 => ?_) (fun c_19 => ?_)
        · refine lv_iinc (v := iZ (((j - 1 : Nat) : Int) - 1)) (lv' := [(2, .int (iZ (((j - 1 : Nat) : Int) - 1))), (0, .ref h0), (1, .ref h1)]) hx hb dX9_against_45 hl (k := 0) rfl (zi_inc (by omega)) (by decide) rfl (fun ls hl => ?_)
          refine lv_goto (tgt := 3) hx hb dX9_against_48 (by decide) ?_
          exact ih (j - 1) (by omega) (fun x h1 h2 => by rcases (show x = j - 1 ∨ j ≤ x by omega) with e | e; (· rw [e]; omega); (· exact hE x e h2)) (by omega) _ _ hP hD hS ls (lv_sub hl [0, 1, 2] rfl)
        · refine lv_aload_n hx hb dX9_against_23 rfl (lv_at hl 1 rfl) ?_
          refine va_get (D := D) (ci := 8) (v := .ref la) (C := RX9) (T := TX9) (N := 2) hx hb hts hh_1 hown hK hP 0 rfl rfl 0 (by decide) hh_0 (fun _ h9 => h9) rfl dX9_against_24 ?_
          refine lv_iload_n hx hb dX9_against_27 rfl (lv_at hl 0 rfl) ?_
          refine za_lald hx hb hK hP 1 1 rfl rfl (j - 1) (v := ((g (j - 1) : Nat) : Int)) (by decide) (by omega) (by omega) (rfl) dX9_against_28 ?_
          refine lv_aload_n hx hb dX9_against_29 rfl (lv_at hl 2 rfl) ?_
          refine va_get (D := D) (ci := 8) (v := .ref lb) (C := RX9) (T := TX9) (N := 2) hx hb hts hh_1 hown hK hP 2 rfl rfl 0 (by decide) hh_0 (fun _ h9 => h9) rfl dX9_against_30 ?_
          refine lv_iload_n hx hb dX9_against_33 rfl (lv_at hl 0 rfl) ?_
          refine za_lald hx hb hK hP 3 1 rfl rfl (j - 1) (v := ((h (j - 1) : Nat) : Int)) (by decide) (by omega) (by omega) (rfl) dX9_against_34 ?_
          refine zb_l_ge (x := ((g (j - 1) : Nat) : Int)) (y := ((h (j - 1) : Nat) : Int)) (tgt := 43) hx hb dX9_against_35 dX9_against_36 (by decide) ⟨by omega, by omega⟩ ⟨by omega, by omega⟩ (fun c_35 => ?_) (fun c_35 => ?_)
          · refine zc_iconst (z := ((1 : Nat) : Int)) hx hb dX9_against_43 (by decide) ?_
            exact hret _ (()) _ _ _ _ _ _ (Nat.le_of_ble_eq_true rfl) (Nat.le_of_ble_eq_true rfl) rfl dX9_against_44 (by have h9 := wok_lt hw2 hw (i := j - 1) (by omega) (fun x h1 h2 => (hE x (by omega) h2).symm) (by omega); simp only [cmpZ, if_neg (show ¬ v < w by omega), if_neg (show ¬ v = w by omega)]; rfl) hP hD hS
          · refine zc_iconst (z := (-1 : Int)) hx hb dX9_against_39 (by decide) ?_
            refine lv_goto (tgt := 44) hx hb dX9_against_40 (by decide) ?_
            exact hret _ (()) _ _ _ _ _ _ (Nat.le_of_ble_eq_true rfl) (Nat.le_of_ble_eq_true rfl) rfl dX9_against_44 (by have h9 := wok_lt hw hw2 (i := j - 1) (by omega) (fun x h1 h2 => hE x (by omega) h2) (by omega); simp only [cmpZ, if_pos h9]) hP hD hS
  exact pt_3 15 14 (by omega) (fun x h1 h2 => by omega) (by omega) _ _ hP hD hS ls (lv_sub hl [0, 1, 2] rfl)
def rmX9_limb : Room := { frames := 0, cells := 0, slots := 0, locals := 0 }
set_option maxHeartbeats 4000000 in
set_option maxRecDepth 100000 in
theorem c_X9_limb (l : Launch) (D : va_G) (cI cJ : ClassId) (h0 la : Nat) (g : Nat → Nat) (u v i : Nat) (hw : wok g u v) (hi : i < 14) : Cl l D vwCl (tyT cI cJ) yX9_limb wsX9_limb rmX9_limb [.ref h0, .int (iZ ((i : Nat) : Int))] [(h0, .inr (8, [.ref la, .int (iZ ((u : Nat) : Int))])), (la, .inl (cJ, 14, .inr (.inl (LJ g))))] (Unit) (fun a _ => a = lZ ((v / B32 ^ i % B32 : Nat) : Int)) (fun _ => [(h0, .inr (8, [.ref la, .int (iZ ((u : Nat) : Int))])), (la, .inl (cJ, 14, .inr (.inl (LJ g))))]) := by
  refine en_l (cc := cX9_limb) (maxL := 2) (by decide) rfl [(0, .ref h0), (1, .int (iZ ((i : Nat) : Int)))] (Nat.le_of_ble_eq_true rfl) rfl ?_
  intro p e s m args below meth c Q A hx hb hml hown hts hnm hK hP hD hA hS hret ls hl
  have hh_0 := hts (.fieldLink RX9 9 "BoundDraws$Wide" "limbs" "[J") (by decide +kernel)
  have hh_1 := (show ∀ w ∈ wsX90, w ∈ wsX9_limb by decide +kernel)
  refine lv_iload_n hx hb dX9_limb_0 rfl (lv_at hl 1 rfl) ?_
  refine zb_if_lt (x := ((i : Nat) : Int)) (tgt := 19) hx hb dX9_limb_1 (by decide) ⟨by omega, by omega⟩ (fun c_1 => ?_) (fun c_1 => ?_)
  · exfalso; omega
  · refine lv_iload_n hx hb dX9_limb_4 rfl (lv_at hl 1 rfl) ?_
    refine zc_bipush (z := ((14 : Nat) : Int)) hx hb dX9_limb_5 (by decide) ?_
    refine zb_icmp_ge (x := ((i : Nat) : Int)) (y := ((14 : Nat) : Int)) (tgt := 19) hx hb dX9_limb_7 (by decide) ⟨by omega, by omega⟩ ⟨by decide, by decide⟩ (fun c_7 => ?_) (fun c_7 => ?_)
    · exfalso; omega
    · refine lv_aload_n hx hb dX9_limb_10 rfl (lv_at hl 0 rfl) ?_
      refine va_get (D := D) (ci := 8) (v := .ref la) (C := RX9) (T := TX9) (N := 2) hx hb hts hh_1 hown hK hP 0 rfl rfl 0 (by decide) hh_0 (fun _ h9 => h9) rfl dX9_limb_11 ?_
      refine lv_iload_n hx hb dX9_limb_14 rfl (lv_at hl 1 rfl) ?_
      refine za_lald hx hb hK hP 1 1 rfl rfl (i) (v := ((g i : Nat) : Int)) (by decide) rfl (by omega) (rfl) dX9_limb_15 ?_
      refine lv_goto (tgt := 20) hx hb dX9_limb_16 (by decide) ?_
      exact hret _ (()) _ _ _ _ _ _ (Nat.le_of_ble_eq_true rfl) (Nat.le_of_ble_eq_true rfl) dX9_limb_20 (by rw [← hw.2.2.2, ← dv_digit (B := B32) (by decide) hw.2.1 i hi]) hP hD hS

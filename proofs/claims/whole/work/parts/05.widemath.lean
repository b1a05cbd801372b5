/-! numbers by digits: dv B g k is the number of the first k digits of g, to the base B -/
def dv (B : Nat) (g : Nat → Nat) : Nat → Nat
  | 0 => 0
  | k + 1 => dv B g k + g k * B ^ k
theorem dv_congr {B : Nat} {g h : Nat → Nat} : ∀ {k : Nat}, (∀ j, j < k → g j = h j) → dv B g k = dv B h k
  | 0, _ => rfl
  | k + 1, H => by rw [dv, dv, dv_congr (fun j hj => H j (by omega)), H k (by omega)]
theorem dv_nup {B : Nat} (g : Nat → Nat) {k i : Nat} (x : Nat) (h : k ≤ i) : dv B (nup g i x) k = dv B g k := dv_congr (fun j hj => nup_n (by omega))
theorem dv_ext {B : Nat} {g : Nat → Nat} {k : Nat} : ∀ {n : Nat}, (∀ j, k ≤ j → j < k + n → g j = 0) → dv B g (k + n) = dv B g k
  | 0, _ => rfl
  | n + 1, H => by rw [← Nat.add_assoc, dv, dv_ext (fun j h1 h2 => H j h1 (by omega)), H (k + n) (by omega) (by omega), Nat.zero_mul, Nat.add_zero]
theorem dv_zero {B : Nat} {g : Nat → Nat} {k : Nat} (H : ∀ j, j < k → g j = 0) : dv B g k = 0 := by
  have := dv_ext (B := B) (g := g) (k := 0) (n := k) (fun j _ h => H j (by omega))
  rw [Nat.zero_add] at this
  rw [this]; rfl
theorem dv_lt {B : Nat} {g : Nat → Nat} : ∀ {k : Nat}, (∀ j, j < k → g j < B) → dv B g k < B ^ k
  | 0, _ => by simp [dv]
  | k + 1, H => by
    have h1 := dv_lt (B := B) (g := g) (k := k) (fun j hj => H j (by omega))
    have h2 := H k (by omega)
    have h3 : (g k + 1) * B ^ k ≤ B * B ^ k := Nat.mul_le_mul_right _ h2
    rw [dv, Nat.pow_succ, Nat.mul_comm (B ^ k) B]
    rw [Nat.add_mul, Nat.one_mul] at h3
    omega
/-- the digits of a number -/
theorem dv_digit {B : Nat} {g : Nat → Nat} (hB : 0 < B) : ∀ {k : Nat}, (∀ j, j < k → g j < B) → ∀ i, i < k → g i = dv B g k / B ^ i % B
  | 0, _, i, hi => by omega
  | k + 1, H, i, hi => by
    have h1 := dv_lt (B := B) (g := g) (k := k) (fun j hj => H j (by omega))
    have h2 := H k (by omega)
    have hp : 0 < B ^ k := Nat.pow_pos hB
    rcases Nat.lt_or_ge i k with h | h
    · rw [dv_digit hB (k := k) (fun j hj => H j (by omega)) i h, dv]
      have e : g k * B ^ k = (g k * B ^ (k - i - 1) * B) * B ^ i := by
        rw [Nat.mul_assoc, Nat.mul_assoc, ← Nat.pow_succ', ← Nat.pow_add]
        congr 2
        omega
      rw [e, Nat.add_mul_div_right _ _ (Nat.pow_pos hB), Nat.add_mul_mod_self_right]
    · have e : i = k := by omega
      subst e
      rw [dv, Nat.add_mul_div_right _ _ hp, Nat.div_eq_of_lt h1, Nat.zero_add, Nat.mod_eq_of_lt h2]
/-- which of two numbers is above, by the first digit from above in which they differ -/
theorem dv_cmp {B : Nat} {g h : Nat → Nat} (hB : 0 < B) {i : Nat} (hg : ∀ j, j < i → g j < B) (hh : ∀ j, j < i → h j < B) (hlt : g i < h i) : ∀ {n : Nat}, (∀ j, i < j → j < i + 1 + n → g j = h j) → dv B g (i + 1 + n) < dv B h (i + 1 + n)
  | 0, _ => by
    have h1 := dv_lt (B := B) (g := g) (k := i) hg
    have h2 : (g i + 1) * B ^ i ≤ h i * B ^ i := Nat.mul_le_mul_right _ hlt
    rw [Nat.add_mul, Nat.one_mul] at h2
    show dv B g i + g i * B ^ i < dv B h i + h i * B ^ i
    omega
  | n + 1, H => by
    have ih := dv_cmp (B := B) (g := g) (h := h) hB hg hh hlt (n := n) (fun j h1 h2 => H j h1 (by omega))
    have e := H (i + 1 + n) (by omega) (by omega)
    rw [← Nat.add_assoc, dv, dv, e]
    omega
theorem dv_eqAll {B : Nat} {g h : Nat → Nat} {k : Nat} (H : ∀ j, j < k → g j = h j) : dv B g k = dv B h k := dv_congr H
abbrev B32 : Nat := 4294967296
/-- a Wide with the limbs g, u of them used, is the number v -/
def wok (g : Nat → Nat) (u v : Nat) : Prop := u ≤ 14 ∧ (∀ j, j < 14 → g j < 4294967296) ∧ (∀ j, u ≤ j → j < 14 → g j = 0) ∧ dv B32 g 14 = v
theorem wok_u {g : Nat → Nat} {u v : Nat} (h : wok g u v) : dv B32 g u = v := by
  obtain ⟨h1, h2, h3, h4⟩ := h
  rw [← h4, show 14 = u + (14 - u) by omega]
  exact (dv_ext (fun j a b => h3 j a (by omega))).symm
/-- multiply: behind i limbs, with the carry c -/
def wmI (g0 g : Nat → Nat) (k i c : Nat) : Prop := (∀ j, j < 14 → g j < 4294967296) ∧ (∀ j, i ≤ j → g j = g0 j) ∧ c ≤ k ∧ dv B32 g i + c * B32 ^ i = k * dv B32 g0 i
theorem wmI_0 {g : Nat → Nat} {u v k : Nat} (h : wok g u v) : wmI g g k 0 0 := ⟨h.2.1, fun _ _ => rfl, Nat.zero_le _, by simp [dv]⟩
theorem wmI_b {g0 g : Nat → Nat} {k i c : Nat} (h : wmI g0 g k i c) (hk : k < 2147483648) (hi : i < 14) : g i * k + c < 9223372036854775808 := by
  obtain ⟨h1, h2, h3, h4⟩ := h
  have h5 := h1 i hi
  have : g i * k ≤ 4294967295 * k := Nat.mul_le_mul_right _ (by omega)
  omega
theorem wmI_s {g0 g : Nat → Nat} {k i c : Nat} (h : wmI g0 g k i c) (hi : i < 14) : wmI g0 (nup g i ((g i * k + c) % 4294967296)) k (i + 1) ((g i * k + c) / 4294967296) := by
  obtain ⟨h1, h2, h3, h4⟩ := h
  refine ⟨fun j hj => ?_, fun j hj => ?_, ?_, ?_⟩
  · by_cases e : j = i
    · subst e; rw [nup_s]; exact Nat.mod_lt _ (by decide)
    · rw [nup_n e]; exact h1 j hj
  · rw [nup_n (by omega)]; exact h2 j (by omega)
  · have h5 := h1 i hi
    have : g i * k ≤ 4294967295 * k := Nat.mul_le_mul_right _ (by omega)
    apply Nat.le_of_lt_succ
    show (g i * k + c) / 4294967296 < k + 1
    rw [Nat.div_lt_iff_lt_mul (by decide)]
    omega
  · rw [dv, dv, nup_s, dv_nup _ _ (Nat.le_refl i), Nat.pow_succ, ← h2 i (Nat.le_refl i)]
    generalize ht : g i * k + c = t
    have e : t % 4294967296 + B32 * (t / 4294967296) = t := Nat.mod_add_div t B32
    have e2 : t / 4294967296 * (B32 ^ i * B32) = (B32 * (t / 4294967296)) * B32 ^ i := by rw [Nat.mul_comm (B32 ^ i) B32, ← Nat.mul_assoc, Nat.mul_comm (t / 4294967296) B32]
    rw [e2, Nat.add_assoc, ← Nat.add_mul, e, ← ht, Nat.add_mul, Nat.mul_add k, ← h4, Nat.mul_comm (g i) k, Nat.mul_assoc]
    omega
/-- the end of multiply: nothing is carried -/
theorem wmI_e0 {g0 g : Nat → Nat} {k u v : Nat} (h0 : wok g0 u v) (h : wmI g0 g k u 0) : wok g u (v * k) := by
  obtain ⟨h1, h2, h3, h4⟩ := h
  have h5 := wok_u h0
  refine ⟨h0.1, h1, fun j a b => by rw [h2 j a]; exact h0.2.2.1 j a b, ?_⟩
  have e := dv_ext (B := B32) (g := g) (k := u) (n := 14 - u) (fun j a b => by rw [h2 j a]; exact h0.2.2.1 j a (by omega))
  have := h0.1
  rw [show u + (14 - u) = 14 by omega] at e
  rw [e, Nat.mul_comm, ← h5, ← h4]
  omega
theorem wmI_e1 {g0 g : Nat → Nat} {k u v c : Nat} (h0 : wok g0 u v) (h : wmI g0 g k u c) (hk : k < 2147483648) (hu : u < 14) : wok (nup g u c) (u + 1) (v * k) := by
  obtain ⟨h1, h2, h3, h4⟩ := h
  have h5 := wok_u h0
  refine ⟨by omega, fun j hj => ?_, fun j a b => ?_, ?_⟩
  · by_cases e : j = u
    · subst e; rw [nup_s]; show c < 4294967296; omega
    · rw [nup_n e]; exact h1 j hj
  · rw [nup_n (by omega), h2 j (by omega)]; exact h0.2.2.1 j (by omega) b
  · have e := dv_ext (B := B32) (g := nup g u c) (k := u + 1) (n := 14 - (u + 1)) (fun j a b => by rw [nup_n (by omega), h2 j (by omega)]; exact h0.2.2.1 j (by omega) (by omega))
    rw [show u + 1 + (14 - (u + 1)) = 14 by omega] at e
    rw [e, dv, nup_s, dv_nup _ _ (Nat.le_refl u), Nat.mul_comm v, ← h5, ← h4]
theorem wmI_full {g0 g : Nat → Nat} {k v c : Nat} (h0 : wok g0 14 v) (h : wmI g0 g k 14 c) (hv : v * k < B32 ^ 14) : c = 0 := by
  obtain ⟨h1, h2, h3, h4⟩ := h
  have h5 := wok_u h0
  rw [h5, Nat.mul_comm k v] at h4
  rcases Nat.eq_zero_or_pos c with h | h
  · exact h
  · have : 1 * B32 ^ 14 ≤ c * B32 ^ 14 := Nat.mul_le_mul_right _ h
    omega

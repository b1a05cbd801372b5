/-- the units of a list, by their places -/
def LDz (L : List (Int × Nat)) (i : Nat) : Int := (L.getD i (0, 0)).1
def LSz (L : List (Int × Nat)) (i : Nat) : Nat := (L.getD i (0, 0)).2
theorem uok_LD {k : Nat} {DF : Nat → Int} {SF : Nat → Nat} {L : List (Int × Nat)} (h : uok k DF SF L) {i : Nat} (hi : i < k) : DF i = LDz L i ∧ SF i = LSz L i := by
  have h1 := h.2.2 i hi
  unfold LDz LSz
  rw [List.getD_eq_getElem?_getD, h1]
  exact ⟨rfl, rfl⟩
/-- each unit of a list has a property -/
theorem units_all {Q : Int × Nat → Prop} {L : List (Int × Nat)} (h : ∀ x ∈ L, Q x) {i : Nat} (hi : i < L.length) : Q (LDz L i, LSz L i) := by
  have h1 : L.getD i (0, 0) = L[i] := by rw [List.getD_eq_getElem?_getD, List.getElem?_eq_getElem hi]; rfl
  have h2 : (LDz L i, LSz L i) = L[i] := by unfold LDz LSz; rw [h1]
  rw [h2]
  exact h _ (List.getElem_mem hi)
def ubd (x : Int × Nat) : Prop := -3000 ≤ x.1 ∧ x.1 ≤ 3000 ∧ 1 ≤ x.2 ∧ x.2 ≤ 30
theorem unitsR_b {n : Nat} {G X Y : Nat → Nat} (h : rok n G X Y) : ∀ k, k ≤ n → ∀ x ∈ unitsR X Y k, ubd x
  | 0, _, x, hx => by cases hx
  | k + 1, hk, x, hx => by
    rw [unitsR] at hx
    rcases List.mem_append.mp hx with e | e
    · exact unitsR_b h k (by omega) x e
    · rw [List.mem_singleton.mp e]
      have := rwD_b h (show k < n by omega)
      unfold ubd
      exact ⟨by show -3000 ≤ rwD X Y k; omega, by show rwD X Y k ≤ 3000; omega, (show 1 ≤ 1 by decide), (show 1 ≤ 30 by decide)⟩
theorem unitsG_b {n : Nat} {G X Y : Nat → Nat} (h : rok n G X Y) : ∀ k, ∀ x ∈ unitsG n G X Y k, ubd x
  | 0, x, hx => by cases hx
  | k + 1, x, hx => by
    rw [unitsG] at hx
    split at hx
    · rename_i hp
      rcases List.mem_append.mp hx with e | e
      · exact unitsG_b h k x e
      · rw [List.mem_singleton.mp e]
        have h1 := grD_b h (g := k) (Nat.le_refl n)
        have h2 : grS G n k ≤ n := cnt_le _ _
        have h3 := h.1
        unfold ubd
        exact ⟨h1.1, h1.2, hp, by show grS G n k ≤ 30; omega⟩
    · exact unitsG_b h k x hx
theorem unitsOf_b {n : Nat} {G X Y : Nat → Nat} (h : rok n G X Y) (b : Nat) : ∀ x ∈ unitsOf n G X Y b, ubd x := by
  unfold unitsOf
  split
  · exact unitsR_b h n (Nat.le_refl n)
  · exact unitsG_b h 8
theorem unitsOf_len {n : Nat} {G X Y : Nat → Nat} (h : rok n G X Y) (b : Nat) : (unitsOf n G X Y b).length ≤ 30 := by
  have := h.1
  unfold unitsOf
  split
  · rw [unitsR_len]; omega
  · have := unitsG_le n G X Y 8; omega
/-- the sum of all differences' sizes -/
def labs : List (Int × Nat) → Nat
  | [] => 0
  | x :: L => x.1.natAbs + labs L
theorem labs_app : ∀ (L M : List (Int × Nat)), labs (L ++ M) = labs L + labs M
  | [], M => by simp [labs]
  | x :: L, M => by rw [List.cons_append, labs, labs, labs_app L M]; omega
theorem labs_R {n : Nat} {G X Y : Nat → Nat} (h : rok n G X Y) : ∀ k, k ≤ n → labs (unitsR X Y k) ≤ 100 * k
  | 0, _ => Nat.le_refl 0
  | k + 1, hk => by
    have h1 := labs_R h k (by omega)
    have h2 := rwD_b h (show k < n by omega)
    rw [unitsR, labs_app]
    show labs (unitsR X Y k) + ((rwD X Y k).natAbs + 0) ≤ 100 * (k + 1)
    omega
/-- what the rows of the first k groups have -/
def gab (G X Y : Nat → Nat) (n k : Nat) : Nat := sumN (fun i => if G i < k then (rwD X Y i).natAbs else 0) n
theorem gab_s (G X Y : Nat → Nat) (k : Nat) : ∀ n, gab G X Y n k + (grD G X Y n k).natAbs ≤ gab G X Y n (k + 1)
  | 0 => by show 0 + (0 : Int).natAbs ≤ 0; decide
  | n + 1 => by
    have h := gab_s G X Y k n
    have e1 : gab G X Y (n + 1) k = gab G X Y n k + (if G n < k then (rwD X Y n).natAbs else 0) := rfl
    have e2 : gab G X Y (n + 1) (k + 1) = gab G X Y n (k + 1) + (if G n < k + 1 then (rwD X Y n).natAbs else 0) := rfl
    have e3 : grD G X Y (n + 1) k = grD G X Y n k + (if G n = k then rwD X Y n else 0) := rfl
    rw [e1, e2, e3]
    rcases (show G n < k ∨ G n = k ∨ k < G n by omega) with e | e | e
    · rw [if_pos e, if_pos (show G n < k + 1 by omega), if_neg (show ¬ G n = k by omega)]; omega
    · rw [if_neg (show ¬ G n < k by omega), if_pos (show G n < k + 1 by omega), if_pos e]; omega
    · rw [if_neg (show ¬ G n < k by omega), if_neg (show ¬ G n < k + 1 by omega), if_neg (show ¬ G n = k by omega)]; omega
theorem labs_G (n : Nat) (G X Y : Nat → Nat) : ∀ k, labs (unitsG n G X Y k) ≤ gab G X Y n k
  | 0 => by show 0 ≤ _; exact Nat.zero_le _
  | k + 1 => by
    have h1 := labs_G n G X Y k
    have h2 := gab_s G X Y k n
    rw [unitsG]
    split
    · rw [labs_app]
      show labs (unitsG n G X Y k) + ((grD G X Y n k).natAbs + 0) ≤ _
      omega
    · omega
theorem gab_b {n : Nat} {G X Y : Nat → Nat} (h : rok n G X Y) (k : Nat) : ∀ j, j ≤ n → gab G X Y j k ≤ 100 * j
  | 0, _ => by show 0 ≤ _; exact Nat.zero_le _
  | j + 1, hj => by
    have h1 := gab_b h k j (by omega)
    have h2 := rwD_b h (show j < n by omega)
    have e1 : gab G X Y (j + 1) k = gab G X Y j k + (if G j < k then (rwD X Y j).natAbs else 0) := rfl
    rw [e1]
    split <;> omega
theorem labs_of {n : Nat} {G X Y : Nat → Nat} (h : rok n G X Y) (b : Nat) : labs (unitsOf n G X Y b) ≤ 3000 := by
  have hn := h.1
  unfold unitsOf
  split
  · have := labs_R h n (Nat.le_refl n); omega
  · have h1 := labs_G n G X Y 8
    have h2 := gab_b h 8 n (Nat.le_refl n)
    omega
theorem LD_0 (x : Int × Nat) (L : List (Int × Nat)) : LDz (x :: L) 0 = x.1 := rfl
theorem LD_s (x : Int × Nat) (L : List (Int × Nat)) (i : Nat) : LDz (x :: L) (i + 1) = LDz L i := rfl
theorem sumN_sh (f : Nat → Nat) : ∀ k, sumN f (k + 1) = f 0 + sumN (fun i => f (i + 1)) k
  | 0 => by rw [sumN_s]; show 0 + f 0 = f 0 + 0; omega
  | k + 1 => by rw [sumN_s, sumN_sh f k, sumN_s]; omega
theorem labs_LD : ∀ L : List (Int × Nat), abN (LDz L) L.length = labs L
  | [] => rfl
  | x :: L => by
    unfold abN
    rw [List.length_cons, sumN_sh, labs, ← labs_LD L]
    rfl
theorem abN_congr {D E : Nat → Int} {k : Nat} (h : ∀ i, i < k → D i = E i) : abN D k = abN E k := sumN_congr (fun i hi => by rw [h i hi])
theorem riN_congr {D E : Nat → Int} {k : Nat} (h : ∀ i, i < k → D i = E i) : riN D k = riN E k := sumN_congr (fun i hi => by rw [h i hi])
theorem faN_congr {D E : Nat → Int} {k : Nat} (h : ∀ i, i < k → D i = E i) : faN D k = faN E k := sumN_congr (fun i hi => by rw [h i hi])
theorem sgN_congr {D E : Nat → Int} {k : Nat} (h : ∀ i, i < k → D i = E i) : sgN D k = sgN E k := cnt_congr (fun i hi => by rw [h i hi])
theorem subP_congr {D E : Nat → Int} : ∀ {k : Nat}, (∀ i, i < k → D i = E i) → ∀ x, subP D k x = subP E k x
  | 0, _, x => rfl
  | k + 1, h, x => by
    have ih := subP_congr (D := D) (E := E) (k := k) (fun i hi => h i (by omega))
    rw [subP, subP, h k (by omega), ih x, ih (x - (E k).natAbs)]
theorem dwS_congr {D E : Nat → Int} {k : Nat} (hk : 0 < k) (h : ∀ i, i < k → D i = E i) (x : Int64) : ∀ j, dwS D k x j = dwS E k x j
  | 0 => rfl
  | j + 1 => by rw [dwS, dwS, dwS_congr hk h x j, h _ (unI_lt _ hk)]
theorem dwR_congr {D E : Nat → Nat} {k : Nat} (hk : 0 < k) (h : ∀ i, i < k → D i = E i) (x : Int64) : ∀ j, dwR D k x j = dwR E k x j
  | 0 => rfl
  | j + 1 => by rw [dwR, dwR, dwR_congr hk h x j, h _ (unI_lt _ hk)]
theorem meF_congr {D E : Nat → Int} {S R : Nat → Nat} {k : Nat} (hk : 0 < k) (h : ∀ i, i < k → D i = E i) (h2 : ∀ i, i < k → S i = R i) (x : Int64) : ∀ t, meF D S k x t = meF E R k x t
  | 0 => rfl
  | t + 1 => by rw [meF, meF, meF_congr hk h h2 x t, dwS_congr hk h, dwR_congr hk h2]
/-- turned: the answers -/
def trnV (L : List (Int × Nat)) (what : Nat) : Int :=
  if what = 0 then ((sgN (LDz L) L.length : Nat) : Int)
  else if what = 1 then (if faN (LDz L) L.length ≤ riN (LDz L) L.length then ((sumN (subP (LDz L) L.length) (faN (LDz L) L.length + 1) : Nat) : Int) else ((2 ^ sgN (LDz L) L.length : Nat) : Int) - ((sumN (subP (LDz L) L.length) (riN (LDz L) L.length) : Nat) : Int))
  else ((if riN (LDz L) L.length = faN (LDz L) L.length then 2 ^ sgN (LDz L) L.length else 2 * sumN (subP (LDz L) L.length) (min (riN (LDz L) L.length) (faN (LDz L) L.length) + 1) : Nat) : Int)
/-- a fraction x by y, 1 if it is above -/
def capR (x y : Nat) (sd : Int) : Int := if y < x then 1 else if sd = 0 then redU (x : Int) y else ((redL (x : Int) y : Nat) : Int)
theorem capR_eq {x y : Nat} (hy : 0 < y) (sd : Int) : (if sd = 0 then (if ((redL (x : Int) y : Nat) : Int) < redU (x : Int) y then 1 else redU (x : Int) y) else (if ((redL (x : Int) y : Nat) : Int) < redU (x : Int) y then 1 else ((redL (x : Int) y : Nat) : Int))) = capR x y sd := by
  have h := red_gt (u := (x : Int)) (a := 1) (b := 1) hy
  rw [Int.one_mul, Int.mul_one, Int.one_mul, Int.mul_one] at h
  unfold capR
  by_cases c : y < x
  · have c2 : ((redL (x : Int) y : Nat) : Int) < redU (x : Int) y := h.mpr (by omega)
    rw [if_pos c2, if_pos c2, if_pos c]
    split <;> rfl
  · have c2 : ¬ ((redL (x : Int) y : Nat) : Int) < redU (x : Int) y := fun h9 => c (by have := h.mp h9; omega)
    rw [if_neg c2, if_neg c2, if_neg c]
/-- the odds of wins and losses -/
def evU (w l : Nat) : Nat := 2 * sumN (ch (w + l)) (min w l + 1)
/-- a mean as it is told -/
def mnV (A : Nat → Int) (B : Nat → Nat) (i : Nat) (sd : Int) : Int := if sd = 0 then redU (A i) (B i) else ((redL (A i) (B i) : Nat) : Int)
/-- the place of a percentile -/
def pcI (t up dn : Nat) : Nat := (t * up + dn - 1) / dn - 1
theorem pcI_lt {t up dn : Nat} (ht : 0 < t) (hd : 0 < dn) (hu : up ≤ dn) : pcI t up dn < t ∧ (t * up + dn - 1) / dn ≤ t := by
  have h1 : t * up ≤ t * dn := Nat.mul_le_mul_left _ hu
  have h2 : (t * up + dn - 1) / dn < t + 1 := by rw [Nat.div_lt_iff_lt_mul hd, Nat.add_mul, Nat.one_mul]; omega
  unfold pcI
  omega

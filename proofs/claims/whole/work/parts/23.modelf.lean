/-- in how many ways of the signs of the first k units the sum is z -/
def wz (DF : Nat → Int) : Nat → Int → Nat
  | 0, z => if z = 0 then 1 else 0
  | k + 1, z => if DF k = 0 then wz DF k z else wz DF k (z - DF k) + wz DF k (z + DF k)
theorem wz_big (DF : Nat → Int) : ∀ {k : Nat} {z : Int}, abN DF k < z.natAbs → wz DF k z = 0
  | 0, z, h => by
    have h2 : (0 : Nat) < z.natAbs := h
    rw [wz, if_neg (by omega)]
  | k + 1, z, h => by
    have e : abN DF (k + 1) = abN DF k + (DF k).natAbs := rfl
    rw [wz]
    split
    · exact wz_big DF (by omega)
    · rw [wz_big DF (show abN DF k < (z - DF k).natAbs by omega), wz_big DF (show abN DF k < (z + DF k).natAbs by omega)]
theorem sumN_add (f g : Nat → Nat) : ∀ n, sumN (fun i => f i + g i) n = sumN f n + sumN g n
  | 0 => rfl
  | n + 1 => by rw [sumN_s, sumN_s, sumN_s, sumN_add f g n]; omega
theorem sumN_cut {f : Nat → Nat} {m : Nat} (h : ∀ x, m ≤ x → f x = 0) : ∀ d, sumN f (m + d) = sumN f m
  | 0 => rfl
  | d + 1 => by rw [← Nat.add_assoc, sumN_s, sumN_cut h d, h (m + d) (by omega), Nat.add_zero]
theorem sumN_0 {f : Nat → Nat} : ∀ {n : Nat}, (∀ x, x < n → f x = 0) → sumN f n = 0
  | 0, _ => rfl
  | n + 1, h => by rw [sumN_s, sumN_0 (fun x hx => h x (by omega)), h n (by omega)]
theorem sumN_off (h : Nat → Nat) (c : Nat) : ∀ m, sumN (fun x => if c ≤ x then h (x - c) else 0) (c + m) = sumN h m
  | 0 => by
    rw [Nat.add_zero]
    exact sumN_0 (fun x hx => if_neg (by omega))
  | m + 1 => by
    rw [← Nat.add_assoc, sumN_s, sumN_off h c m, sumN_s, if_pos (by omega), Nat.add_sub_cancel_left]
theorem sumN_one {f : Nat → Nat} {c : Nat} (h : ∀ i, i ≠ c → f i = 0) : ∀ d, sumN f (c + 1 + d) = f c
  | 0 => by
    rw [Nat.add_zero, sumN_s, sumN_0 (fun x hx => h x (by omega)), Nat.zero_add]
  | d + 1 => by rw [← Nat.add_assoc, sumN_s, sumN_one h d, h (c + 1 + d) (by omega), Nat.add_zero]
/-- a sum over the window of all that can be reached -/
def wnS (f : Int → Nat) (n : Nat) : Nat := sumN (fun k => f ((k : Int) - 3000)) n
theorem wnS_congr {f g : Int → Nat} (h : ∀ z, f z = g z) (n : Nat) : wnS f n = wnS g n := sumN_congr (fun i _ => h _)
theorem wnS_add (f g : Int → Nat) (n : Nat) : wnS (fun z => f z + g z) n = wnS f n + wnS g n := sumN_add _ _ n
theorem wn_1 {f : Int → Nat} (n : Nat) (h1 : f ((n : Int) - 3000) = 0) (h2 : f (-3001) = 0) : wnS (fun z => f (z - 1)) (n + 1) = wnS f (n + 1) := by
  unfold wnS
  rw [sumN_sh, sumN_s]
  show f (((0 : Nat) : Int) - 3000 - 1) + sumN (fun i => f (((i + 1 : Nat) : Int) - 3000 - 1)) n = sumN (fun k => f ((k : Int) - 3000)) n + f ((n : Int) - 3000)
  rw [h1, show ((0 : Nat) : Int) - 3000 - 1 = -3001 by omega, h2, Nat.zero_add, Nat.add_zero]
  exact sumN_congr (fun i _ => congrArg f (by omega))
theorem wn_up {f : Int → Nat} {n : Nat} (hn : n = 6000) : ∀ d : Nat, (∀ i : Nat, i < d → f (3000 - (i : Int)) = 0 ∧ f (-3001 - (i : Int)) = 0) → wnS (fun z => f (z - (d : Int))) (n + 1) = wnS f (n + 1)
  | 0, _ => wnS_congr (fun z => congrArg f (by omega)) _
  | d + 1, h => by
    have ih := wn_up hn d (fun i hi => h i (by omega))
    have h9 := h d (by omega)
    have h1 := wn_1 (f := fun z => f (z - (d : Int))) n (by show f ((n : Int) - 3000 - (d : Int)) = 0; rw [← h9.1]; exact congrArg f (by omega)) (by show f (-3001 - (d : Int)) = 0; exact h9.2)
    rw [← ih, ← h1]
    exact wnS_congr (fun z => congrArg f (by omega)) _
theorem wn_z {f : Int → Nat} {n a : Nat} (hn : n = 6000) (d : Int) (ha : a + d.natAbs ≤ 3000) (hf : ∀ z : Int, a < z.natAbs → f z = 0) : wnS (fun z => f (z - d)) (n + 1) = wnS f (n + 1) := by
  rcases (show 0 ≤ d ∨ d < 0 by omega) with c | c
  · have h := wn_up (f := f) hn d.natAbs (fun i hi => ⟨hf _ (by omega), hf _ (by omega)⟩)
    rw [← h]
    exact wnS_congr (fun z => congrArg f (by omega)) _
  · have h := wn_up (f := fun z => f (z - d)) hn d.natAbs (fun i hi => ⟨hf _ (by omega), hf _ (by omega)⟩)
    rw [← h]
    exact wnS_congr (fun z => congrArg f (by omega)) _
/-- the ways of signs of which P holds -/
def sS (D : Nat → Int) (k : Nat) (P : Int → Bool) : Nat := sumN (fun x => if P ((abN D k : Int) - 2 * (x : Int)) = true then subP D k x else 0) (abN D k + 1)
theorem sS_congr {D : Nat → Int} {k : Nat} {P Q : Int → Bool} (h : ∀ z, P z = Q z) : sS D k P = sS D k Q := sumN_congr (fun i _ => by rw [h])
theorem sS_s0 {D : Nat → Int} {k : Nat} (h : D k = 0) (P : Int → Bool) : sS D (k + 1) P = sS D k P := by
  have e : abN D (k + 1) = abN D k := by show abN D k + (D k).natAbs = _; rw [h]; rfl
  unfold sS
  rw [e]
  exact sumN_congr (fun x _ => by rw [subP, if_pos h])
theorem sS_s {D : Nat → Int} {k : Nat} (h : D k ≠ 0) (P : Int → Bool) : sS D (k + 1) P = sS D k (fun z => P (z + ((D k).natAbs : Int))) + sS D k (fun z => P (z - ((D k).natAbs : Int))) := by
  have e : abN D (k + 1) = abN D k + (D k).natAbs := rfl
  unfold sS
  rw [e]
  obtain ⟨c, hc⟩ : ∃ c : Nat, c = (D k).natAbs := ⟨_, rfl⟩
  obtain ⟨t, ht⟩ : ∃ t : Nat, t = abN D k := ⟨_, rfl⟩
  rw [← hc, ← ht]
  have h1 : sumN (fun x => if P (((t + c : Nat) : Int) - 2 * (x : Int)) = true then subP D (k + 1) x else 0) (t + c + 1) = sumN (fun x => (if P ((t : Int) - 2 * (x : Int) + (c : Int)) = true then subP D k x else 0) + (if c ≤ x then (fun y : Nat => if P ((t : Int) - 2 * (y : Int) - (c : Int)) = true then subP D k y else 0) (x - c) else 0)) (t + c + 1) := by
    refine sumN_congr (fun x _ => ?_)
    show (if P (((t + c : Nat) : Int) - 2 * (x : Int)) = true then subP D (k + 1) x else 0) = (if P ((t : Int) - 2 * (x : Int) + (c : Int)) = true then subP D k x else 0) + (if c ≤ x then (if P ((t : Int) - 2 * ((x - c : Nat) : Int) - (c : Int)) = true then subP D k (x - c) else 0) else 0)
    rw [subP, if_neg h, ← hc, show ((t + c : Nat) : Int) - 2 * (x : Int) = (t : Int) - 2 * (x : Int) + (c : Int) by omega]
    by_cases g : c ≤ x
    · rw [if_pos g, if_pos g, show (t : Int) - 2 * ((x - c : Nat) : Int) - (c : Int) = (t : Int) - 2 * (x : Int) + (c : Int) by omega]
      split <;> rfl
    · rw [if_neg g, if_neg g]
      split <;> rfl
  rw [h1, sumN_add, show t + c + 1 = t + 1 + c by omega, sumN_cut (m := t + 1) (fun x hx => by rw [subP_big D (show abN D k < x by omega)]; split <;> rfl) c, show t + 1 + c = c + (t + 1) by omega]
  refine Eq.trans (congrArg (fun v => sumN (fun x => if P ((t : Int) - 2 * (x : Int) + (c : Int)) = true then subP D k x else 0) (t + 1) + v) ?_) rfl
  exact sumN_off (fun y : Nat => if P ((t : Int) - 2 * (y : Int) - (c : Int)) = true then subP D k y else 0) c (t + 1)
theorem wz_sum {D : Nat → Int} {n : Nat} (hn : n = 6000) : ∀ (k : Nat) (P : Int → Bool), abN D k ≤ 3000 → wnS (fun z => if P z = true then wz D k z else 0) (n + 1) = sS D k P
  | 0, P, _ => by
    have e : n + 1 = 3000 + 1 + (n - 3000) := by omega
    unfold wnS
    rw [e, sumN_one (c := 3000) (fun i hi => by show (if P ((i : Int) - 3000) = true then wz D 0 ((i : Int) - 3000) else 0) = 0; rw [wz, if_neg (show ¬ (i : Int) - 3000 = 0 by omega)]; split <;> rfl) (n - 3000)]
    unfold sS
    rw [show abN D 0 + 1 = 0 + 1 from rfl, sumN_s]
    show _ = 0 + _
    rw [Nat.zero_add]
    rfl
  | k + 1, P, h => by
    have e : abN D (k + 1) = abN D k + (D k).natAbs := rfl
    by_cases c : D k = 0
    · rw [sS_s0 c, ← wz_sum hn k P (by omega)]
      exact wnS_congr (fun z => by rw [wz, if_pos c]) _
    · have h1 : wnS (fun z => if P z = true then wz D (k + 1) z else 0) (n + 1) = wnS (fun z => (if P z = true then wz D k (z - D k) else 0) + (if P z = true then wz D k (z + D k) else 0)) (n + 1) := by
        refine wnS_congr (fun z => ?_) _
        show (if P z = true then wz D (k + 1) z else 0) = _
        rw [wz, if_neg c]
        split <;> rfl
      have h2 : wnS (fun z => if P z = true then wz D k (z - D k) else 0) (n + 1) = sS D k (fun z => P (z + D k)) := by
        rw [← wz_sum hn k (fun z => P (z + D k)) (by omega), ← wn_z (f := fun z => if P (z + D k) = true then wz D k z else 0) (a := abN D k) hn (D k) (by omega) (fun z hz => by show (if P (z + D k) = true then wz D k z else 0) = 0; rw [wz_big D hz]; split <;> rfl)]
        refine wnS_congr (fun z => ?_) _
        show _ = if P (z - D k + D k) = true then wz D k (z - D k) else 0
        rw [show z - D k + D k = z by omega]
      have h3 : wnS (fun z => if P z = true then wz D k (z + D k) else 0) (n + 1) = sS D k (fun z => P (z - D k)) := by
        rw [← wz_sum hn k (fun z => P (z - D k)) (by omega), ← wn_z (f := fun z => if P (z - D k) = true then wz D k z else 0) (a := abN D k) hn (-D k) (by omega) (fun z hz => by show (if P (z - D k) = true then wz D k z else 0) = 0; rw [wz_big D hz]; split <;> rfl)]
        refine wnS_congr (fun z => ?_) _
        show _ = if P (z - -D k - D k) = true then wz D k (z - -D k) else 0
        rw [show z - -D k - D k = z by omega, show z - -D k = z + D k by omega]
      rw [h1, wnS_add, h2, h3, sS_s c]
      rcases (show 0 ≤ D k ∨ D k < 0 by omega) with g | g
      · rw [show (((D k).natAbs : Nat) : Int) = D k by omega]
      · rw [show (((D k).natAbs : Nat) : Int) = -D k by omega, Nat.add_comm]
        congr 1
        exact sS_congr (fun z => congrArg P (by omega))
theorem sS_tot (D : Nat → Int) : ∀ k, sS D k (fun _ => true) = 2 ^ sgN D k
  | 0 => rfl
  | k + 1 => by
    have ih := sS_tot D k
    by_cases c : D k = 0
    · have e : sgN D (k + 1) = sgN D k := cnt_f (by simp; exact c)
      rw [sS_s0 c, ih, e]
    · have e : sgN D (k + 1) = sgN D k + 1 := cnt_t (by simp; exact c)
      rw [sS_s c, ih, e, Nat.pow_succ]; omega
theorem sS_neg (D : Nat → Int) : ∀ k (P : Int → Bool), sS D k (fun z => P (-z)) = sS D k P
  | 0, P => by
    unfold sS
    rw [show abN D 0 + 1 = 0 + 1 from rfl, sumN_s, sumN_s]
    rfl
  | k + 1, P => by
    by_cases c : D k = 0
    · rw [sS_s0 c, sS_s0 c, sS_neg D k P]
    · rw [sS_s c, sS_s c, ← sS_neg D k (fun z => P (z + ((D k).natAbs : Int))), ← sS_neg D k (fun z => P (z - ((D k).natAbs : Int))), Nat.add_comm]
      congr 1
      · exact sS_congr (fun z => congrArg P (by omega))
      · exact sS_congr (fun z => congrArg P (by omega))
theorem sS_or {D : Nat → Int} {k : Nat} {P Q R : Int → Bool} (h1 : ∀ z, P z = (Q z || R z)) (h2 : ∀ z, Q z = true → R z = false) : sS D k P = sS D k Q + sS D k R := by
  unfold sS
  rw [← sumN_add]
  refine sumN_congr (fun x _ => ?_)
  show (if P _ = true then _ else _) = _
  rw [h1]
  have h3 := h2 ((abN D k : Int) - 2 * (x : Int))
  cases hq : Q ((abN D k : Int) - 2 * (x : Int)) with
  | true => rw [h3 hq]; simp
  | false => simp
theorem sS_cut {D : Nat → Int} {k m : Nat} {P : Int → Bool} (hm : m ≤ abN D k + 1) (hP : ∀ x : Nat, P ((abN D k : Int) - 2 * (x : Int)) = true ↔ x < m) : sS D k P = sumN (subP D k) m := by
  unfold sS
  obtain ⟨d, hd⟩ : ∃ d, abN D k + 1 = m + d := ⟨abN D k + 1 - m, by omega⟩
  rw [hd, sumN_cut (m := m) (fun x hx => if_neg (fun h => by have := (hP x).mp h; omega)) d]
  exact sumN_congr (fun x hx => if_pos ((hP x).mpr hx))
/-- what the reference sums up -/
def wnP (D : Nat → Int) (k : Nat) (P : Int → Bool) (n : Nat) : Nat := wnS (fun z => if P z = true then wz D k z else 0) n
theorem wnP_t {D : Nat → Int} {k i : Nat} {P : Int → Bool} (h : P ((i : Int) - 3000) = true) : wnP D k P (i + 1) = wnP D k P i + wz D k ((i : Int) - 3000) := by
  unfold wnP wnS
  rw [sumN_s]
  show _ + (if P ((i : Int) - 3000) = true then wz D k ((i : Int) - 3000) else 0) = _
  rw [if_pos h]
theorem wnP_f {D : Nat → Int} {k i : Nat} {P : Int → Bool} (h : P ((i : Int) - 3000) = false) : wnP D k P (i + 1) = wnP D k P i := by
  unfold wnP wnS
  rw [sumN_s]
  show _ + (if P ((i : Int) - 3000) = true then wz D k ((i : Int) - 3000) else 0) = _
  rw [if_neg (by rw [h]; decide), Nat.add_zero]
theorem wnP_all {D : Nat → Int} {k : Nat} (P : Int → Bool) (hab : abN D k ≤ 3000) {i : Nat} (hi : i = 6001) : wnP D k P i = sS D k P := by
  have := wz_sum (n := 6000) rfl k P hab
  rw [hi]; exact this
def P1 (a : Int) (z : Int) : Bool := decide (a ≤ z)
def P2 (f : Int) (z : Int) : Bool := decide (f ≤ z ∨ z ≤ -f)
theorem trm_1 {L : List (Int × Nat)} {k : Nat} {D : Nat → Int} (hk : k = L.length) (hD : ∀ i, i < k → D i = LDz L i) (hab : abN D k ≤ 3000) {i : Nat} (hi : i = 6001) : ((wnP D k (P1 ((riN D k : Int) - (faN D k : Int))) i : Nat) : Int) = trnV L 1 := by
  have ha := abN_eq D k
  rw [← trn_1 (w := subP D k) hk hD hab (fun j _ => rfl), wnP_all _ hab hi]
  have e1 : sS D k (P1 ((riN D k : Int) - (faN D k : Int))) = sumN (subP D k) (faN D k + 1) := sS_cut (by omega) (fun x => by unfold P1; rw [decide_eq_true_eq]; omega)
  by_cases c : faN D k ≤ riN D k
  · rw [if_pos c, e1]
  · rw [if_neg c]
    have e2 : sumN (subP D k) (riN D k) = sS D k (fun z => decide ((faN D k : Int) - (riN D k : Int) < z)) := (sS_cut (by omega) (fun x => by rw [decide_eq_true_eq]; omega)).symm
    have e3 := sS_or (D := D) (k := k) (P := fun _ => true) (Q := P1 ((riN D k : Int) - (faN D k : Int))) (R := fun z => decide ((faN D k : Int) - (riN D k : Int) < -z)) (fun z => by
      unfold P1
      by_cases g : (riN D k : Int) - (faN D k : Int) ≤ z
      · rw [decide_eq_true g]; rfl
      · rw [decide_eq_false g, decide_eq_true (by omega)]; rfl) (fun z h => by
      unfold P1 at h
      rw [decide_eq_true_eq] at h
      exact decide_eq_false (by omega))
    rw [sS_tot, sS_neg D k (fun z => decide ((faN D k : Int) - (riN D k : Int) < z)), ← e2] at e3
    rw [e3]
    omega
theorem trm_2 {L : List (Int × Nat)} {k : Nat} {D : Nat → Int} (hk : k = L.length) (hD : ∀ i, i < k → D i = LDz L i) (hab : abN D k ≤ 3000) {i : Nat} (hi : i = 6001) : ((wnP D k (P2 ((((riN D k : Int) - (faN D k : Int)).natAbs : Nat) : Int)) i : Nat) : Int) = trnV L 2 := by
  have ha := abN_eq D k
  rw [← trn_2 (w := subP D k) hk hD hab (fun j _ => rfl), wnP_all _ hab hi]
  by_cases c : riN D k = faN D k
  · rw [if_pos c, ← sS_tot]
    congr 1
    exact sS_congr (fun z => by unfold P2; exact decide_eq_true (by omega))
  · rw [if_neg c, show min (min (riN D k) (faN D k)) 1500 = min (riN D k) (faN D k) by omega]
    obtain ⟨q, hq⟩ : ∃ q : Nat, q = ((riN D k : Int) - (faN D k : Int)).natAbs := ⟨_, rfl⟩
    rw [← hq]
    have e1 : sS D k (P1 (q : Int)) = sumN (subP D k) (min (riN D k) (faN D k) + 1) := sS_cut (by omega) (fun x => by unfold P1; rw [decide_eq_true_eq]; omega)
    have e3 := sS_or (D := D) (k := k) (P := P2 (q : Int)) (Q := P1 (q : Int)) (R := fun z => P1 (q : Int) (-z)) (fun z => by
      unfold P1 P2
      by_cases g : (q : Int) ≤ z
      · rw [decide_eq_true g, decide_eq_true (Or.inl g)]; rfl
      · rw [decide_eq_false g]
        by_cases g2 : z ≤ -(q : Int)
        · rw [decide_eq_true (Or.inr g2), decide_eq_true (show (q : Int) ≤ -z by omega)]; rfl
        · rw [decide_eq_false (show ¬ ((q : Int) ≤ z ∨ z ≤ -(q : Int)) by omega), decide_eq_false (show ¬ (q : Int) ≤ -z by omega)]; rfl) (fun z h => by
      unfold P1 at *
      rw [decide_eq_true_eq] at h
      exact decide_eq_false (by omega))
    rw [e3, sS_neg D k (P1 (q : Int)), e1]
    omega
theorem wz_at {D : Nat → Int} {u : Nat} {w : Nat → Nat} (hw : ∀ j, j < 6001 → w j = wz D u ((j : Int) - 3000)) {i : Nat} {z : Int} (hi : i < 6001) (hz : (i : Int) - 3000 = z) : lZ ((w i : Nat) : Int) = lZ ((wz D u z : Nat) : Int) := by rw [hw i hi, hz]
theorem wz_out {D : Nat → Int} {u : Nat} {z : Int} (h : abN D u < z.natAbs) : lZ ((0 : Nat) : Int) = lZ ((wz D u z : Nat) : Int) := by rw [wz_big D h]
theorem abN_mono (D : Nat → Int) {u k : Nat} (h : u ≤ k) : abN D u ≤ abN D k := sumN_mono _ h
theorem nup_all {w : Nat → Nat} {D : Nat → Int} {u i x : Nat} (h : ∀ j, j < i → w j = wz D u ((j : Int) - 3000)) (hx : x = wz D u ((i : Int) - 3000)) : ∀ j, j < i + 1 → nup w i x j = wz D u ((j : Int) - 3000) := by
  intro j hj
  by_cases e : j = i
  · rw [e, nup_s, hx]
  · rw [nup_n e]; exact h j (by omega)
def rmX11_turned : Room := { frames := 1, cells := 0, slots := 0, locals := 25 }
set_option maxHeartbeats 4000000 in
set_option maxRecDepth 100000 in
theorem c_X11_turned (l : Launch) (D : va_G) (cI cJ : ClassId) (mz sA sB gO xO yO dO zO wO mO aO bO uO vO : Nat) (th rn un mn kc hT tu td ta tb tt tk tj : Nat) (G X Y : Nat → Nat) (hr : rok rn G X Y) (DF : Nat → Int) (SF : Nat → Nat) (w v : Nat → Nat) (b : Nat) (hb2 : b ≤ 1) (zw : Int) (izw : iR zw) : Cl l D vwCl (tyT cI cJ) yX11_turned wsX11_turned rmX11_turned [.ref mz, .int (iZ ((b : Nat) : Int)), .int (iZ (zw))] [(mz, .inr (10, [.int (iZ ((th : Nat) : Int)), .ref sA, .ref sB, .int (iZ ((rn : Nat) : Int)), .ref gO, .ref xO, .ref yO, .int (iZ ((un : Nat) : Int)), .ref dO, .ref zO, .ref wO, .ref mO, .int (iZ ((mn : Nat) : Int)), .ref aO, .ref bO, .int (iZ ((kc : Nat) : Int)), .ref uO, .ref vO, .int (iZ ((hT : Nat) : Int)), .int (iZ ((tu : Nat) : Int)), .int (iZ ((td : Nat) : Int)), .int (iZ ((ta : Nat) : Int)), .int (iZ ((tb : Nat) : Int)), .int (iZ ((tt : Nat) : Int)), .int (iZ ((tk : Nat) : Int)), .int (iZ ((tj : Nat) : Int))])), (gO, .inl (cI, 30, .inl (LI G))), (xO, .inl (cI, 30, .inl (LI X))), (yO, .inl (cI, 30, .inl (LI Y))), (dO, .inl (cI, 30, .inl (ZI DF))), (zO, .inl (cI, 30, .inl (LI SF))), (wO, .inl (cJ, 6001, .inr (.inl (LJ w)))), (mO, .inl (cJ, 6001, .inr (.inl (LJ v))))] ((Nat × (Nat → Int) × (Nat → Nat)) × (Nat → Nat) × (Nat → Nat)) (fun r _ => sTurned (unitsOf rn G X Y b) zw r) (fun u => [(mz, .inr (10, [.int (iZ ((0 : Nat) : Int)), .ref sA, .ref sB, .int (iZ ((rn : Nat) : Int)), .ref gO, .ref xO, .ref yO, .int (iZ ((u.1.1 : Nat) : Int)), .ref dO, .ref zO, .ref wO, .ref mO, .int (iZ ((mn : Nat) : Int)), .ref aO, .ref bO, .int (iZ ((kc : Nat) : Int)), .ref uO, .ref vO, .int (iZ ((hT : Nat) : Int)), .int (iZ ((tu : Nat) : Int)), .int (iZ ((td : Nat) : Int)), .int (iZ ((ta : Nat) : Int)), .int (iZ ((tb : Nat) : Int)), .int (iZ ((tt : Nat) : Int)), .int (iZ ((tk : Nat) : Int)), .int (iZ ((tj : Nat) : Int))])), (gO, .inl (cI, 30, .inl (LI G))), (xO, .inl (cI, 30, .inl (LI X))), (yO, .inl (cI, 30, .inl (LI Y))), (dO, .inl (cI, 30, .inl (ZI u.1.2.1))), (zO, .inl (cI, 30, .inl (LI u.1.2.2))), (wO, .inl (cJ, 6001, .inr (.inl (LJ u.2.1)))), (mO, .inl (cJ, 6001, .inr (.inl (LJ u.2.2))))]) := by
  refine en_l (cc := cX11_turned) (maxL := 10) (by decide) rfl [(0, .ref mz), (1, .int (iZ ((b : Nat) : Int))), (2, .int (iZ (zw)))] (Nat.le_of_ble_eq_true rfl) rfl ?_
  intro p e s m args below meth c Q A hx hb hml hown hts hnm hK hP hD hA hS hret ls hl
  have hh_0 := hts (.fieldLink RX11 50 "BoundDrawsModel" "thrown" "I") (by decide +kernel)
  have hh_1 := (show ∀ w ∈ wsX110, w ∈ wsX11_turned by decide +kernel)
  have hh_2 := hts (.constantLong RX11 108 (2)) (by decide +kernel)
  have hh_3 := hts (.fieldLink RX11 114 "BoundDrawsModel" "units" "I") (by decide +kernel)
  have hh_4 := hts (.fieldLink RX11 31 "BoundDrawsModel" "ways" "[J") (by decide +kernel)
  have hh_5 := hts (.fieldLink RX11 25 "BoundDrawsModel" "difference" "[I") (by decide +kernel)
  have hh_6 := hts (.fieldLink RX11 35 "BoundDrawsModel" "more" "[J") (by decide +kernel)
  have hh_7 := hts (.constantLong RX11 128 (6000)) (by decide +kernel)
  have hh_8 := hts (.constantLong RX11 90 (-1)) (by decide +kernel)
  refine lv_aload_n hx hb dX11_turned_0 rfl (lv_at hl 0 rfl) ?_
  refine zc_iconst (z := ((0 : Nat) : Int)) hx hb dX11_turned_1 (by decide) ?_
  refine va_put (D := D) (ci := 10) (v := .int (iZ ((0 : Nat) : Int))) (ty := .int) (C := RX11) (T := TX11) (N := 26) hx hb hts hh_1 tyX11 tyX11_ok nmX11 hown hK hP hD hS 0 rfl rfl 0 (by decide) hh_0 (fun _ h9 => h9) rfl (by decide +kernel) rfl rfl (Nat.le_of_ble_eq_true rfl) dX11_turned_2 (fun H locs hP hD hS => ?_)
  have hP : va_P D vwCl [(mz, .inr (10, [.int (iZ ((0 : Nat) : Int)), .ref sA, .ref sB, .int (iZ ((rn : Nat) : Int)), .ref gO, .ref xO, .ref yO, .int (iZ ((un : Nat) : Int)), .ref dO, .ref zO, .ref wO, .ref mO, .int (iZ ((mn : Nat) : Int)), .ref aO, .ref bO, .int (iZ ((kc : Nat) : Int)), .ref uO, .ref vO, .int (iZ ((hT : Nat) : Int)), .int (iZ ((tu : Nat) : Int)), .int (iZ ((td : Nat) : Int)), .int (iZ ((ta : Nat) : Int)), .int (iZ ((tb : Nat) : Int)), .int (iZ ((tt : Nat) : Int)), .int (iZ ((tk : Nat) : Int)), .int (iZ ((tj : Nat) : Int))])), (gO, .inl (cI, 30, .inl (LI G))), (xO, .inl (cI, 30, .inl (LI X))), (yO, .inl (cI, 30, .inl (LI Y))), (dO, .inl (cI, 30, .inl (ZI DF))), (zO, .inl (cI, 30, .inl (LI SF))), (wO, .inl (cJ, 6001, .inr (.inl (LJ w)))), (mO, .inl (cJ, 6001, .inr (.inl (LJ v))))] H := hP
  have hD : va_D A [(mz, .inr (10, [.int (iZ ((0 : Nat) : Int)), .ref sA, .ref sB, .int (iZ ((rn : Nat) : Int)), .ref gO, .ref xO, .ref yO, .int (iZ ((un : Nat) : Int)), .ref dO, .ref zO, .ref wO, .ref mO, .int (iZ ((mn : Nat) : Int)), .ref aO, .ref bO, .int (iZ ((kc : Nat) : Int)), .ref uO, .ref vO, .int (iZ ((hT : Nat) : Int)), .int (iZ ((tu : Nat) : Int)), .int (iZ ((td : Nat) : Int)), .int (iZ ((ta : Nat) : Int)), .int (iZ ((tb : Nat) : Int)), .int (iZ ((tt : Nat) : Int)), .int (iZ ((tk : Nat) : Int)), .int (iZ ((tj : Nat) : Int))])), (gO, .inl (cI, 30, .inl (LI G))), (xO, .inl (cI, 30, .inl (LI X))), (yO, .inl (cI, 30, .inl (LI Y))), (dO, .inl (cI, 30, .inl (ZI DF))), (zO, .inl (cI, 30, .inl (LI SF))), (wO, .inl (cJ, 6001, .inr (.inl (LJ w)))), (mO, .inl (cJ, 6001, .inr (.inl (LJ v))))] := hD
  refine lv_iload_n hx hb dX11_turned_5 rfl (lv_at hl 2 rfl) ?_
  refine z_i2l (z := (zw)) hx hb dX11_turned_6 ⟨by omega, by omega⟩ rfl ?_
  refine zc_lconst (z := ((0 : Nat) : Int)) hx hb dX11_turned_7 (by decide) ?_
  refine lv_ldc2 hx hb hown hh_2 dX11_turned_8 (tp_l (y := lZ ((2 : Nat) : Int)) (by decide) ?_)
  refine ca_iS [.long (lZ (zw)), .long (lZ ((0 : Nat) : Int)), .long (lZ ((2 : Nat) : Int))] [] [(mz, .inr (10, [.int (iZ ((0 : Nat) : Int)), .ref sA, .ref sB, .int (iZ ((rn : Nat) : Int)), .ref gO, .ref xO, .ref yO, .int (iZ ((un : Nat) : Int)), .ref dO, .ref zO, .ref wO, .ref mO, .int (iZ ((mn : Nat) : Int)), .ref aO, .ref bO, .int (iZ ((kc : Nat) : Int)), .ref uO, .ref vO, .int (iZ ((hT : Nat) : Int)), .int (iZ ((tu : Nat) : Int)), .int (iZ ((td : Nat) : Int)), .int (iZ ((ta : Nat) : Int)), .int (iZ ((tb : Nat) : Int)), .int (iZ ((tt : Nat) : Int)), .int (iZ ((tk : Nat) : Int)), .int (iZ ((tj : Nat) : Int))])), (gO, .inl (cI, 30, .inl (LI G))), (xO, .inl (cI, 30, .inl (LI X))), (yO, .inl (cI, 30, .inl (LI Y))), (dO, .inl (cI, 30, .inl (ZI DF))), (zO, .inl (cI, 30, .inl (LI SF))), (wO, .inl (cJ, 6001, .inr (.inl (LJ w)))), (mO, .inl (cJ, 6001, .inr (.inl (LJ v))))] 0 0 ⟨hx, hb, hml, hown, hts⟩ (c_X11_in l D cI cJ zw ((0 : Nat) : Int) ((2 : Nat) : Int) ⟨by omega, by omega⟩ ⟨by omega, by omega⟩ ⟨by omega, by omega⟩) (va_cwS 3 hts gX11_turned_X11_in rfl rfl rfl (by decide +kernel) ⟨(Nat.le_of_ble_eq_true rfl), (Nat.le_of_ble_eq_true rfl)⟩) hK hP hD hS hA [] [0, 1, 2, 3, 4, 5, 6, 7] rfl rfl rfl rfl (by decide) rfl hl.1 rfl (Nat.le_of_ble_eq_true rfl) dX11_turned_11 ⟨(Nat.le_of_ble_eq_true rfl), (Nat.le_of_ble_eq_true rfl)⟩ (Nat.le_of_ble_eq_true rfl) (Nat.le_of_ble_eq_true rfl) (fun r_11 u9 H locs hw hP hD hS => ?_)
  obtain u9 := u9
  try dsimp only at hw
  obtain ⟨b1, wa1, wb1, wc1⟩ := hw
  have hP : va_P D vwCl [(mz, .inr (10, [.int (iZ ((0 : Nat) : Int)), .ref sA, .ref sB, .int (iZ ((rn : Nat) : Int)), .ref gO, .ref xO, .ref yO, .int (iZ ((un : Nat) : Int)), .ref dO, .ref zO, .ref wO, .ref mO, .int (iZ ((mn : Nat) : Int)), .ref aO, .ref bO, .int (iZ ((kc : Nat) : Int)), .ref uO, .ref vO, .int (iZ ((hT : Nat) : Int)), .int (iZ ((tu : Nat) : Int)), .int (iZ ((td : Nat) : Int)), .int (iZ ((ta : Nat) : Int)), .int (iZ ((tb : Nat) : Int)), .int (iZ ((tt : Nat) : Int)), .int (iZ ((tk : Nat) : Int)), .int (iZ ((tj : Nat) : Int))])), (gO, .inl (cI, 30, .inl (LI G))), (xO, .inl (cI, 30, .inl (LI X))), (yO, .inl (cI, 30, .inl (LI Y))), (dO, .inl (cI, 30, .inl (ZI DF))), (zO, .inl (cI, 30, .inl (LI SF))), (wO, .inl (cJ, 6001, .inr (.inl (LJ w)))), (mO, .inl (cJ, 6001, .inr (.inl (LJ v))))] H := hP
  have hD : va_D A [(mz, .inr (10, [.int (iZ ((0 : Nat) : Int)), .ref sA, .ref sB, .int (iZ ((rn : Nat) : Int)), .ref gO, .ref xO, .ref yO, .int (iZ ((un : Nat) : Int)), .ref dO, .ref zO, .ref wO, .ref mO, .int (iZ ((mn : Nat) : Int)), .ref aO, .ref bO, .int (iZ ((kc : Nat) : Int)), .ref uO, .ref vO, .int (iZ ((hT : Nat) : Int)), .int (iZ ((tu : Nat) : Int)), .int (iZ ((td : Nat) : Int)), .int (iZ ((ta : Nat) : Int)), .int (iZ ((tb : Nat) : Int)), .int (iZ ((tt : Nat) : Int)), .int (iZ ((tk : Nat) : Int)), .int (iZ ((tj : Nat) : Int))])), (gO, .inl (cI, 30, .inl (LI G))), (xO, .inl (cI, 30, .inl (LI X))), (yO, .inl (cI, 30, .inl (LI Y))), (dO, .inl (cI, 30, .inl (ZI DF))), (zO, .inl (cI, 30, .inl (LI SF))), (wO, .inl (cJ, 6001, .inr (.inl (LJ w)))), (mO, .inl (cJ, 6001, .inr (.inl (LJ v))))] := hD
  refine tp_i (y := (iZ (b1))) (wa1) ?_
  refine zb_if_ne (x := (b1)) (tgt := 21) hx hb dX11_turned_14 (by decide) ⟨by omega, by omega⟩ (fun c_14 => ?_) (fun c_14 => ?_)
  · obtain ⟨what, rfl⟩ : ∃ x9 : Nat, zw = (x9 : Int) := ⟨zw.toNat, by omega⟩
    refine lv_aload_n hx hb dX11_turned_21 rfl (lv_at hl 0 rfl) ?_
    refine lv_iload_n hx hb dX11_turned_22 rfl (lv_at hl 1 rfl) ?_
    refine ca_vV [.int (iZ ((b : Nat) : Int))] [] [(wO, .inl (cJ, 6001, .inr (.inl (LJ w)))), (mO, .inl (cJ, 6001, .inr (.inl (LJ v))))] 0 0 ⟨hx, hb, hml, hown, hts⟩ (c_X11_unite l D cI cJ mz sA sB gO xO yO dO zO wO mO aO bO uO vO 0 rn un mn kc hT tu td ta tb tt tk tj G X Y hr DF SF b hb2) (cwV 1 hts gX11_turned_X11_unite rfl rfl rfl (by decide +kernel) ⟨(Nat.le_of_ble_eq_true rfl), (Nat.le_of_ble_eq_true rfl)⟩) hK hP hD hS hA [0, 1, 2, 3, 4, 5] [6, 7] rfl rfl rfl rfl (by decide) 0 rfl rfl rfl hl.1 rfl (Nat.le_of_ble_eq_true rfl) dX11_turned_23 ⟨(Nat.le_of_ble_eq_true rfl), (Nat.le_of_ble_eq_true rfl)⟩ (Nat.le_of_ble_eq_true rfl) (Nat.le_of_ble_eq_true rfl) (fun u9 H locs hw hP hD hS => ?_)
    obtain ⟨k1, DF1, SF1⟩ := u9
    try dsimp only at hw
    have hU := hw
    have hP : va_P D vwCl [(wO, .inl (cJ, 6001, .inr (.inl (LJ w)))), (mO, .inl (cJ, 6001, .inr (.inl (LJ v)))), (mz, .inr (10, [.int (iZ ((0 : Nat) : Int)), .ref sA, .ref sB, .int (iZ ((rn : Nat) : Int)), .ref gO, .ref xO, .ref yO, .int (iZ ((k1 : Nat) : Int)), .ref dO, .ref zO, .ref wO, .ref mO, .int (iZ ((mn : Nat) : Int)), .ref aO, .ref bO, .int (iZ ((kc : Nat) : Int)), .ref uO, .ref vO, .int (iZ ((hT : Nat) : Int)), .int (iZ ((tu : Nat) : Int)), .int (iZ ((td : Nat) : Int)), .int (iZ ((ta : Nat) : Int)), .int (iZ ((tb : Nat) : Int)), .int (iZ ((tt : Nat) : Int)), .int (iZ ((tk : Nat) : Int)), .int (iZ ((tj : Nat) : Int))])), (gO, .inl (cI, 30, .inl (LI G))), (xO, .inl (cI, 30, .inl (LI X))), (yO, .inl (cI, 30, .inl (LI Y))), (dO, .inl (cI, 30, .inl (ZI DF1))), (zO, .inl (cI, 30, .inl (LI SF1)))] H := hP
    have hD : va_D A [(wO, .inl (cJ, 6001, .inr (.inl (LJ w)))), (mO, .inl (cJ, 6001, .inr (.inl (LJ v)))), (mz, .inr (10, [.int (iZ ((0 : Nat) : Int)), .ref sA, .ref sB, .int (iZ ((rn : Nat) : Int)), .ref gO, .ref xO, .ref yO, .int (iZ ((k1 : Nat) : Int)), .ref dO, .ref zO, .ref wO, .ref mO, .int (iZ ((mn : Nat) : Int)), .ref aO, .ref bO, .int (iZ ((kc : Nat) : Int)), .ref uO, .ref vO, .int (iZ ((hT : Nat) : Int)), .int (iZ ((tu : Nat) : Int)), .int (iZ ((td : Nat) : Int)), .int (iZ ((ta : Nat) : Int)), .int (iZ ((tb : Nat) : Int)), .int (iZ ((tt : Nat) : Int)), .int (iZ ((tk : Nat) : Int)), .int (iZ ((tj : Nat) : Int))])), (gO, .inl (cI, 30, .inl (LI G))), (xO, .inl (cI, 30, .inl (LI X))), (yO, .inl (cI, 30, .inl (LI Y))), (dO, .inl (cI, 30, .inl (ZI DF1))), (zO, .inl (cI, 30, .inl (LI SF1)))] := hD
    have hL1 := hU.1
    have hLa : ∀ i, i < k1 → DF1 i = LDz (unitsOf rn G X Y b) i := fun i hi => (uok_LD hU hi).1
    have hLb : ∀ i, i < k1 → SF1 i = LSz (unitsOf rn G X Y b) i := fun i hi => (uok_LD hU hi).2
    have hub : ∀ i, i < k1 → ubd (LDz (unitsOf rn G X Y b) i, LSz (unitsOf rn G X Y b) i) := fun i hi => units_all (unitsOf_b hr b) (by omega)
    have hk1 := hU.2.1
    have hDb : ∀ i, i < k1 → -3000 ≤ DF1 i ∧ DF1 i ≤ 3000 := fun i hi => by have := hub i hi; rw [hLa i hi]; exact ⟨this.1, this.2.1⟩
    have hSb : ∀ i, i < k1 → 1 ≤ SF1 i ∧ SF1 i ≤ 30 := fun i hi => by have := hub i hi; rw [hLb i hi]; exact ⟨this.2.2.1, this.2.2.2⟩
    have hab : abN DF1 k1 ≤ 3000 := by have h8 := labs_of hr b; rw [← labs_LD, ← hL1, ← abN_congr hLa] at h8; exact h8
    have hra := abN_eq DF1 k1
    have hsgb : sgN DF1 k1 ≤ k1 := cnt_le _ _
    refine zc_iconst (z := ((0 : Nat) : Int)) hx hb dX11_turned_26 (by decide) ?_
    refine lv_istore_n (lv' := [(3, .int (iZ ((0 : Nat) : Int))), (0, .ref mz), (1, .int (iZ ((b : Nat) : Int))), (2, .int (iZ ((what : Nat) : Int)))]) hx hb dX11_turned_27 rfl hl (by decide) rfl (fun ls hl => ?_)
    refine zc_iconst (z := ((0 : Nat) : Int)) hx hb dX11_turned_28 (by decide) ?_
    refine lv_istore (lv' := [(4, .int (iZ ((0 : Nat) : Int))), (3, .int (iZ ((0 : Nat) : Int))), (0, .ref mz), (1, .int (iZ ((b : Nat) : Int))), (2, .int (iZ ((what : Nat) : Int)))]) hx hb dX11_turned_29 hl (by decide) rfl (fun ls hl => ?_)
    refine zc_iconst (z := ((0 : Nat) : Int)) hx hb dX11_turned_31 (by decide) ?_
    refine lv_istore (lv' := [(5, .int (iZ ((0 : Nat) : Int))), (4, .int (iZ ((0 : Nat) : Int))), (3, .int (iZ ((0 : Nat) : Int))), (0, .ref mz), (1, .int (iZ ((b : Nat) : Int))), (2, .int (iZ ((what : Nat) : Int)))]) hx hb dX11_turned_32 hl (by decide) rfl (fun ls hl => ?_)
    have pt_34 : ∀ f : Nat, ∀ (i : Nat) (w : Nat → Nat), (hi : i ≤ 6001) → (hw0 : ∀ j, j < i → w j = wz DF1 0 ((j : Int) - 3000)) → (hf : 6001 < i + f) → (H : Heap) → (locs : List Loc) → va_P D vwCl [(mz, .inr (10, [.int (iZ ((0 : Nat) : Int)), .ref sA, .ref sB, .int (iZ ((rn : Nat) : Int)), .ref gO, .ref xO, .ref yO, .int (iZ ((k1 : Nat) : Int)), .ref dO, .ref zO, .ref wO, .ref mO, .int (iZ ((mn : Nat) : Int)), .ref aO, .ref bO, .int (iZ ((kc : Nat) : Int)), .ref uO, .ref vO, .int (iZ ((hT : Nat) : Int)), .int (iZ ((tu : Nat) : Int)), .int (iZ ((td : Nat) : Int)), .int (iZ ((ta : Nat) : Int)), .int (iZ ((tb : Nat) : Int)), .int (iZ ((tt : Nat) : Int)), .int (iZ ((tk : Nat) : Int)), .int (iZ ((tj : Nat) : Int))])), (gO, .inl (cI, 30, .inl (LI G))), (xO, .inl (cI, 30, .inl (LI X))), (yO, .inl (cI, 30, .inl (LI Y))), (dO, .inl (cI, 30, .inl (ZI DF1))), (zO, .inl (cI, 30, .inl (LI SF1))), (wO, .inl (cJ, 6001, .inr (.inl (LJ w)))), (mO, .inl (cJ, 6001, .inr (.inl (LJ v))))] H → va_D A [(mz, .inr (10, [.int (iZ ((0 : Nat) : Int)), .ref sA, .ref sB, .int (iZ ((rn : Nat) : Int)), .ref gO, .ref xO, .ref yO, .int (iZ ((k1 : Nat) : Int)), .ref dO, .ref zO, .ref wO, .ref mO, .int (iZ ((mn : Nat) : Int)), .ref aO, .ref bO, .int (iZ ((kc : Nat) : Int)), .ref uO, .ref vO, .int (iZ ((hT : Nat) : Int)), .int (iZ ((tu : Nat) : Int)), .int (iZ ((td : Nat) : Int)), .int (iZ ((ta : Nat) : Int)), .int (iZ ((tb : Nat) : Int)), .int (iZ ((tt : Nat) : Int)), .int (iZ ((tk : Nat) : Int)), .int (iZ ((tj : Nat) : Int))])), (gO, .inl (cI, 30, .inl (LI G))), (xO, .inl (cI, 30, .inl (LI X))), (yO, .inl (cI, 30, .inl (LI Y))), (dO, .inl (cI, 30, .inl (ZI DF1))), (zO, .inl (cI, 30, .inl (LI SF1))), (wO, .inl (cJ, 6001, .inr (.inl (LJ w)))), (mO, .inl (cJ, 6001, .inr (.inl (LJ v))))] → va_S A s.heap H locs → (ls : Array Slot) → lv_has ls 10 [(5, .int (iZ ((i : Nat) : Int))), (4, .int (iZ ((0 : Nat) : Int))), (3, .int (iZ ((0 : Nat) : Int))), (2, .int (iZ ((what : Nat) : Int))), (0, .ref mz)] → W p l e rmX11_turned s m args below meth c H locs 0 0 Q (F0 m 34 ls []) := by
      intro f
      induction f with
      | zero =>
        intro i w hi hw0 hf H locs hP hD hS ls hl
        exfalso; omega
      | succ f ih_34 =>
        intro i w hi hw0 hf H locs hP hD hS ls hl
        refine lv_iload hx hb dX11_turned_34 (lv_at hl 0 rfl) ?_
        refine zc_sipush (z := ((6000 : Nat) : Int)) hx hb dX11_turned_36 (by decide) ?_
        refine zb_icmp_gt (x := ((i : Nat) : Int)) (y := ((6000 : Nat) : Int)) (tgt := 68) hx hb dX11_turned_39 (by decide) ⟨by omega, by omega⟩ ⟨by decide, by decide⟩ (fun c_39 => ?_) (fun c_39 => ?_)
        · refine zc_iconst (z := ((0 : Nat) : Int)) hx hb dX11_turned_68 (by decide) ?_
          refine lv_istore (lv' := [(5, .int (iZ ((0 : Nat) : Int))), (4, .int (iZ ((0 : Nat) : Int))), (3, .int (iZ ((0 : Nat) : Int))), (2, .int (iZ ((what : Nat) : Int))), (0, .ref mz)]) hx hb dX11_turned_69 hl (by decide) rfl (fun ls hl => ?_)
          have pt_71 : ∀ f : Nat, ∀ (u : Nat) (w v : Nat → Nat), (hu : u ≤ k1) → (hw0 : ∀ j, j < 6001 → w j = wz DF1 u ((j : Int) - 3000)) → (hf : k1 < u + f) → (H : Heap) → (locs : List Loc) → va_P D vwCl [(mz, .inr (10, [.int (iZ ((0 : Nat) : Int)), .ref sA, .ref sB, .int (iZ ((rn : Nat) : Int)), .ref gO, .ref xO, .ref yO, .int (iZ ((k1 : Nat) : Int)), .ref dO, .ref zO, .ref wO, .ref mO, .int (iZ ((mn : Nat) : Int)), .ref aO, .ref bO, .int (iZ ((kc : Nat) : Int)), .ref uO, .ref vO, .int (iZ ((hT : Nat) : Int)), .int (iZ ((tu : Nat) : Int)), .int (iZ ((td : Nat) : Int)), .int (iZ ((ta : Nat) : Int)), .int (iZ ((tb : Nat) : Int)), .int (iZ ((tt : Nat) : Int)), .int (iZ ((tk : Nat) : Int)), .int (iZ ((tj : Nat) : Int))])), (gO, .inl (cI, 30, .inl (LI G))), (xO, .inl (cI, 30, .inl (LI X))), (yO, .inl (cI, 30, .inl (LI Y))), (dO, .inl (cI, 30, .inl (ZI DF1))), (zO, .inl (cI, 30, .inl (LI SF1))), (wO, .inl (cJ, 6001, .inr (.inl (LJ w)))), (mO, .inl (cJ, 6001, .inr (.inl (LJ v))))] H → va_D A [(mz, .inr (10, [.int (iZ ((0 : Nat) : Int)), .ref sA, .ref sB, .int (iZ ((rn : Nat) : Int)), .ref gO, .ref xO, .ref yO, .int (iZ ((k1 : Nat) : Int)), .ref dO, .ref zO, .ref wO, .ref mO, .int (iZ ((mn : Nat) : Int)), .ref aO, .ref bO, .int (iZ ((kc : Nat) : Int)), .ref uO, .ref vO, .int (iZ ((hT : Nat) : Int)), .int (iZ ((tu : Nat) : Int)), .int (iZ ((td : Nat) : Int)), .int (iZ ((ta : Nat) : Int)), .int (iZ ((tb : Nat) : Int)), .int (iZ ((tt : Nat) : Int)), .int (iZ ((tk : Nat) : Int)), .int (iZ ((tj : Nat) : Int))])), (gO, .inl (cI, 30, .inl (LI G))), (xO, .inl (cI, 30, .inl (LI X))), (yO, .inl (cI, 30, .inl (LI Y))), (dO, .inl (cI, 30, .inl (ZI DF1))), (zO, .inl (cI, 30, .inl (LI SF1))), (wO, .inl (cJ, 6001, .inr (.inl (LJ w)))), (mO, .inl (cJ, 6001, .inr (.inl (LJ v))))] → va_S A s.heap H locs → (ls : Array Slot) → lv_has ls 10 [(5, .int (iZ ((u : Nat) : Int))), (4, .int (iZ (((riN DF1 u : Nat) : Int) - ((faN DF1 u : Nat) : Int)))), (3, .int (iZ ((sgN DF1 u : Nat) : Int))), (2, .int (iZ ((what : Nat) : Int))), (0, .ref mz)] → W p l e rmX11_turned s m args below meth c H locs 0 0 Q (F0 m 71 ls []) := by
            intro f
            induction f with
            | zero =>
              intro u w v hu hw0 hf H locs hP hD hS ls hl
              exfalso; omega
            | succ f ih_71 =>
              intro u w v hu hw0 hf H locs hP hD hS ls hl
              refine lv_iload hx hb dX11_turned_71 (lv_at hl 0 rfl) ?_
              refine lv_aload_n hx hb dX11_turned_73 rfl (lv_at hl 4 rfl) ?_
              refine va_get (D := D) (ci := 10) (v := .int (iZ ((k1 : Nat) : Int))) (C := RX11) (T := TX11) (N := 26) hx hb hts hh_1 hown hK hP 0 rfl rfl 7 (by decide) hh_3 (fun _ h9 => h9) rfl dX11_turned_74 ?_
              refine zb_icmp_ge (x := ((u : Nat) : Int)) (y := ((k1 : Nat) : Int)) (tgt := 226) hx hb dX11_turned_77 (by decide) ⟨by omega, by omega⟩ ⟨by omega, by omega⟩ (fun c_77 => ?_) (fun c_77 => ?_)
              · have e8 : u = k1 := by omega
                rw [e8] at hl hw0
                refine lv_iload_n hx hb dX11_turned_226 rfl (lv_at hl 3 rfl) ?_
                refine zb_if_ne (x := ((what : Nat) : Int)) (tgt := 233) hx hb dX11_turned_227 (by decide) ⟨by omega, by omega⟩ (fun c_227 => ?_) (fun c_227 => ?_)
                · rcases (show what = 1 ∨ what = 2 by omega) with rfl | rfl
                  · refine zc_lconst (z := ((0 : Nat) : Int)) hx hb dX11_turned_233 (by decide) ?_
                    refine tp_l (y := (lZ ((wnP DF1 k1 (P1 (((riN DF1 k1 : Nat) : Int) - ((faN DF1 k1 : Nat) : Int))) 0 : Nat) : Int))) (rfl) ?_
                    refine lv_lstore (lv' := [(5, .long (lZ ((wnP DF1 k1 (P1 (((riN DF1 k1 : Nat) : Int) - ((faN DF1 k1 : Nat) : Int))) 0 : Nat) : Int))), (4, .int (iZ (((riN DF1 k1 : Nat) : Int) - ((faN DF1 k1 : Nat) : Int)))), (3, .int (iZ ((sgN DF1 k1 : Nat) : Int))), (2, .int (iZ ((1 : Nat) : Int))), (0, .ref mz)]) hx hb dX11_turned_234 hl (by decide) rfl (fun ls hl => ?_)
                    refine lv_iload hx hb dX11_turned_236 (lv_at hl 1 rfl) ?_
                    refine zb_if_ge (x := (((riN DF1 k1 : Nat) : Int) - ((faN DF1 k1 : Nat) : Int))) (tgt := 247) hx hb dX11_turned_238 (by decide) ⟨by omega, by omega⟩ (fun c_238 => ?_) (fun c_238 => ?_)
                    · refine lv_iload hx hb dX11_turned_247 (lv_at hl 1 rfl) ?_
                      refine tp_i (y := (iZ (((((riN DF1 k1 : Nat) : Int) - ((faN DF1 k1 : Nat) : Int)).natAbs : Nat) : Int))) (congrArg iZ (by omega)) ?_
                      refine lv_istore (lv' := [(7, .int (iZ (((((riN DF1 k1 : Nat) : Int) - ((faN DF1 k1 : Nat) : Int)).natAbs : Nat) : Int))), (5, .long (lZ ((wnP DF1 k1 (P1 (((riN DF1 k1 : Nat) : Int) - ((faN DF1 k1 : Nat) : Int))) 0 : Nat) : Int))), (4, .int (iZ (((riN DF1 k1 : Nat) : Int) - ((faN DF1 k1 : Nat) : Int)))), (3, .int (iZ ((sgN DF1 k1 : Nat) : Int))), (2, .int (iZ ((1 : Nat) : Int))), (0, .ref mz)]) hx hb dX11_turned_249 hl (by decide) rfl (fun ls hl => ?_)
                      refine zc_sipush (z := (-3000 : Int)) hx hb dX11_turned_251 (by decide) ?_
                      refine tp_i (y := (iZ (((0 : Nat) : Int) - 3000))) (rfl) ?_
                      refine lv_istore (lv' := [(8, .int (iZ (((0 : Nat) : Int) - 3000))), (7, .int (iZ (((((riN DF1 k1 : Nat) : Int) - ((faN DF1 k1 : Nat) : Int)).natAbs : Nat) : Int))), (5, .long (lZ ((wnP DF1 k1 (P1 (((riN DF1 k1 : Nat) : Int) - ((faN DF1 k1 : Nat) : Int))) 0 : Nat) : Int))), (4, .int (iZ (((riN DF1 k1 : Nat) : Int) - ((faN DF1 k1 : Nat) : Int)))), (3, .int (iZ ((sgN DF1 k1 : Nat) : Int))), (2, .int (iZ ((1 : Nat) : Int))), (0, .ref mz)]) hx hb dX11_turned_254 hl (by decide) rfl (fun ls hl => ?_)
                      have pt_256 : ∀ f : Nat, ∀ (i : Nat), (hi : i ≤ 6001) → (hf : 6001 < i + f) → (H : Heap) → (locs : List Loc) → va_P D vwCl [(mz, .inr (10, [.int (iZ ((0 : Nat) : Int)), .ref sA, .ref sB, .int (iZ ((rn : Nat) : Int)), .ref gO, .ref xO, .ref yO, .int (iZ ((k1 : Nat) : Int)), .ref dO, .ref zO, .ref wO, .ref mO, .int (iZ ((mn : Nat) : Int)), .ref aO, .ref bO, .int (iZ ((kc : Nat) : Int)), .ref uO, .ref vO, .int (iZ ((hT : Nat) : Int)), .int (iZ ((tu : Nat) : Int)), .int (iZ ((td : Nat) : Int)), .int (iZ ((ta : Nat) : Int)), .int (iZ ((tb : Nat) : Int)), .int (iZ ((tt : Nat) : Int)), .int (iZ ((tk : Nat) : Int)), .int (iZ ((tj : Nat) : Int))])), (gO, .inl (cI, 30, .inl (LI G))), (xO, .inl (cI, 30, .inl (LI X))), (yO, .inl (cI, 30, .inl (LI Y))), (dO, .inl (cI, 30, .inl (ZI DF1))), (zO, .inl (cI, 30, .inl (LI SF1))), (wO, .inl (cJ, 6001, .inr (.inl (LJ w)))), (mO, .inl (cJ, 6001, .inr (.inl (LJ v))))] H → va_D A [(mz, .inr (10, [.int (iZ ((0 : Nat) : Int)), .ref sA, .ref sB, .int (iZ ((rn : Nat) : Int)), .ref gO, .ref xO, .ref yO, .int (iZ ((k1 : Nat) : Int)), .ref dO, .ref zO, .ref wO, .ref mO, .int (iZ ((mn : Nat) : Int)), .ref aO, .ref bO, .int (iZ ((kc : Nat) : Int)), .ref uO, .ref vO, .int (iZ ((hT : Nat) : Int)), .int (iZ ((tu : Nat) : Int)), .int (iZ ((td : Nat) : Int)), .int (iZ ((ta : Nat) : Int)), .int (iZ ((tb : Nat) : Int)), .int (iZ ((tt : Nat) : Int)), .int (iZ ((tk : Nat) : Int)), .int (iZ ((tj : Nat) : Int))])), (gO, .inl (cI, 30, .inl (LI G))), (xO, .inl (cI, 30, .inl (LI X))), (yO, .inl (cI, 30, .inl (LI Y))), (dO, .inl (cI, 30, .inl (ZI DF1))), (zO, .inl (cI, 30, .inl (LI SF1))), (wO, .inl (cJ, 6001, .inr (.inl (LJ w)))), (mO, .inl (cJ, 6001, .inr (.inl (LJ v))))] → va_S A s.heap H locs → (ls : Array Slot) → lv_has ls 10 [(8, .int (iZ (((i : Nat) : Int) - 3000))), (7, .int (iZ (((((riN DF1 k1 : Nat) : Int) - ((faN DF1 k1 : Nat) : Int)).natAbs : Nat) : Int))), (5, .long (lZ ((wnP DF1 k1 (P1 (((riN DF1 k1 : Nat) : Int) - ((faN DF1 k1 : Nat) : Int))) i : Nat) : Int))), (4, .int (iZ (((riN DF1 k1 : Nat) : Int) - ((faN DF1 k1 : Nat) : Int)))), (2, .int (iZ ((1 : Nat) : Int))), (0, .ref mz)] → W p l e rmX11_turned s m args below meth c H locs 0 0 Q (F0 m 256 ls []) := by
                        intro f
                        induction f with
                        | zero =>
                          intro i hi hf H locs hP hD hS ls hl
                          exfalso; omega
                        | succ f ih_256 =>
                          intro i hi hf H locs hP hD hS ls hl
                          refine lv_iload hx hb dX11_turned_256 (lv_at hl 0 rfl) ?_
                          refine zc_sipush (z := ((3000 : Nat) : Int)) hx hb dX11_turned_258 (by decide) ?_
                          refine zb_icmp_gt (x := (((i : Nat) : Int) - 3000)) (y := ((3000 : Nat) : Int)) (tgt := 337) hx hb dX11_turned_261 (by decide) ⟨by omega, by omega⟩ ⟨by decide, by decide⟩ (fun c_261 => ?_) (fun c_261 => ?_)
                          · refine lv_lload hx hb dX11_turned_337 (lv_at hl 2 rfl) ?_
                            exact hret _ ((k1, DF1, SF1), w, v) _ _ _ _ _ _ (Nat.le_of_ble_eq_true rfl) (Nat.le_of_ble_eq_true rfl) dX11_turned_339 (⟨fun _ => by show _ = lZ (trnV _ 1); rw [trm_1 hL1 hLa hab (show i = 6001 by omega)], fun h9 => absurd (by omega) h9⟩) hP hD hS
                          · refine lv_iload_n hx hb dX11_turned_264 rfl (lv_at hl 4 rfl) ?_
                            refine zc_iconst (z := ((1 : Nat) : Int)) hx hb dX11_turned_265 (by decide) ?_
                            refine zb_icmp_ne (x := ((1 : Nat) : Int)) (y := ((1 : Nat) : Int)) (tgt := 284) hx hb dX11_turned_266 (by decide) ⟨by decide, by decide⟩ ⟨by decide, by decide⟩ (fun c_266 => ?_) (fun c_266 => ?_)
                            · exact absurd c_266 (by decide)
                            · refine lv_iload hx hb dX11_turned_269 (lv_at hl 0 rfl) ?_
                              refine lv_iload hx hb dX11_turned_271 (lv_at hl 3 rfl) ?_
                              refine zb_icmp_lt (x := (((i : Nat) : Int) - 3000)) (y := (((riN DF1 k1 : Nat) : Int) - ((faN DF1 k1 : Nat) : Int))) (tgt := 280) hx hb dX11_turned_273 (by decide) ⟨by omega, by omega⟩ ⟨by omega, by omega⟩ (fun c_273 => ?_) (fun c_273 => ?_)
                              · refine zc_iconst (z := ((0 : Nat) : Int)) hx hb dX11_turned_280 (by decide) ?_
                                refine lv_goto (tgt := 304) hx hb dX11_turned_281 (by decide) ?_
                                refine lv_istore (lv' := [(9, .int (iZ ((0 : Nat) : Int))), (8, .int (iZ (((i : Nat) : Int) - 3000))), (7, .int (iZ (((((riN DF1 k1 : Nat) : Int) - ((faN DF1 k1 : Nat) : Int)).natAbs : Nat) : Int))), (5, .long (lZ ((wnP DF1 k1 (P1 (((riN DF1 k1 : Nat) : Int) - ((faN DF1 k1 : Nat) : Int))) i : Nat) : Int))), (4, .int (iZ (((riN DF1 k1 : Nat) : Int) - ((faN DF1 k1 : Nat) : Int)))), (2, .int (iZ ((1 : Nat) : Int))), (0, .ref mz)]) hx hb dX11_turned_304 hl (by decide) rfl (fun ls hl => ?_)
                                refine lv_lload hx hb dX11_turned_306 (lv_at hl 3 rfl) ?_
                                refine lv_iload hx hb dX11_turned_308 (lv_at hl 0 rfl) ?_
                                refine zb_if_eq (x := ((0 : Nat) : Int)) (tgt := 327) hx hb dX11_turned_310 (by decide) ⟨by decide, by decide⟩ (fun c_310 => ?_) (fun c_310 => ?_)
                                · refine zc_lconst (z := ((0 : Nat) : Int)) hx hb dX11_turned_327 (by decide) ?_
                                  refine zl_add (z := ((wnP DF1 k1 (P1 (((riN DF1 k1 : Nat) : Int) - ((faN DF1 k1 : Nat) : Int))) (i + 1) : Nat) : Int)) hx hb dX11_turned_328 (by first | (rw [wnP_t (P := P1 (((riN DF1 k1 : Nat) : Int) - ((faN DF1 k1 : Nat) : Int))) (i := i) (by unfold P1; exact decide_eq_true (by omega))]; omega) | (rw [wnP_f (P := P1 (((riN DF1 k1 : Nat) : Int) - ((faN DF1 k1 : Nat) : Int))) (i := i) (by unfold P1; exact decide_eq_false (by omega))]; omega)) ?_
                                  refine lv_lstore (lv' := [(5, .long (lZ ((wnP DF1 k1 (P1 (((riN DF1 k1 : Nat) : Int) - ((faN DF1 k1 : Nat) : Int))) (i + 1) : Nat) : Int))), (9, .int (iZ ((0 : Nat) : Int))), (8, .int (iZ (((i : Nat) : Int) - 3000))), (7, .int (iZ (((((riN DF1 k1 : Nat) : Int) - ((faN DF1 k1 : Nat) : Int)).natAbs : Nat) : Int))), (4, .int (iZ (((riN DF1 k1 : Nat) : Int) - ((faN DF1 k1 : Nat) : Int)))), (2, .int (iZ ((1 : Nat) : Int))), (0, .ref mz)]) hx hb dX11_turned_329 hl (by decide) rfl (fun ls hl => ?_)
                                  refine lv_iinc (v := iZ (((i + 1 : Nat) : Int) - 3000)) (lv' := [(8, .int (iZ (((i + 1 : Nat) : Int) - 3000))), (5, .long (lZ ((wnP DF1 k1 (P1 (((riN DF1 k1 : Nat) : Int) - ((faN DF1 k1 : Nat) : Int))) (i + 1) : Nat) : Int))), (9, .int (iZ ((0 : Nat) : Int))), (7, .int (iZ (((((riN DF1 k1 : Nat) : Int) - ((faN DF1 k1 : Nat) : Int)).natAbs : Nat) : Int))), (4, .int (iZ (((riN DF1 k1 : Nat) : Int) - ((faN DF1 k1 : Nat) : Int)))), (2, .int (iZ ((1 : Nat) : Int))), (0, .ref mz)]) hx hb dX11_turned_331 hl (k := 2) rfl (zi_inc (by omega)) (by decide) rfl (fun ls hl => ?_)
                                  refine lv_goto (tgt := 256) hx hb dX11_turned_334 (by decide) ?_
                                  exact ih_256 (i + 1) (by omega) (by omega) _ _ hP hD hS ls (lv_sub hl [0, 3, 1, 4, 5, 6] rfl)
                                · exact absurd c_310 (by decide)
                              · refine zc_iconst (z := ((1 : Nat) : Int)) hx hb dX11_turned_276 (by decide) ?_
                                refine lv_goto (tgt := 304) hx hb dX11_turned_277 (by decide) ?_
                                refine lv_istore (lv' := [(9, .int (iZ ((1 : Nat) : Int))), (8, .int (iZ (((i : Nat) : Int) - 3000))), (7, .int (iZ (((((riN DF1 k1 : Nat) : Int) - ((faN DF1 k1 : Nat) : Int)).natAbs : Nat) : Int))), (5, .long (lZ ((wnP DF1 k1 (P1 (((riN DF1 k1 : Nat) : Int) - ((faN DF1 k1 : Nat) : Int))) i : Nat) : Int))), (4, .int (iZ (((riN DF1 k1 : Nat) : Int) - ((faN DF1 k1 : Nat) : Int)))), (2, .int (iZ ((1 : Nat) : Int))), (0, .ref mz)]) hx hb dX11_turned_304 hl (by decide) rfl (fun ls hl => ?_)
                                refine lv_lload hx hb dX11_turned_306 (lv_at hl 3 rfl) ?_
                                refine lv_iload hx hb dX11_turned_308 (lv_at hl 0 rfl) ?_
                                refine zb_if_eq (x := ((1 : Nat) : Int)) (tgt := 327) hx hb dX11_turned_310 (by decide) ⟨by decide, by decide⟩ (fun c_310 => ?_) (fun c_310 => ?_)
                                · exact absurd c_310 (by decide)
                                · refine lv_aload_n hx hb dX11_turned_313 rfl (lv_at hl 6 rfl) ?_
                                  refine va_get (D := D) (ci := 10) (v := .ref wO) (C := RX11) (T := TX11) (N := 26) hx hb hts hh_1 hown hK hP 0 rfl rfl 10 (by decide) hh_4 (fun _ h9 => h9) rfl dX11_turned_314 ?_
                                  refine lv_iload hx hb dX11_turned_317 (lv_at hl 1 rfl) ?_
                                  refine zc_sipush (z := ((3000 : Nat) : Int)) hx hb dX11_turned_319 (by decide) ?_
                                  refine zi_add (z := ((i : Nat) : Int)) hx hb dX11_turned_322 (by omega) ?_
                                  refine za_lald hx hb hK hP 6 1 rfl rfl (i) (v := ((w i : Nat) : Int)) (by decide) rfl (by omega) (rfl) dX11_turned_323 ?_
                                  refine tp_l (y := (lZ ((wz DF1 k1 ((i : Int) - 3000) : Nat) : Int))) (wz_at hw0 (by omega) rfl) ?_
                                  refine lv_goto (tgt := 328) hx hb dX11_turned_324 (by decide) ?_
                                  refine zl_add (z := ((wnP DF1 k1 (P1 (((riN DF1 k1 : Nat) : Int) - ((faN DF1 k1 : Nat) : Int))) (i + 1) : Nat) : Int)) hx hb dX11_turned_328 (by first | (rw [wnP_t (P := P1 (((riN DF1 k1 : Nat) : Int) - ((faN DF1 k1 : Nat) : Int))) (i := i) (by unfold P1; exact decide_eq_true (by omega))]; omega) | (rw [wnP_f (P := P1 (((riN DF1 k1 : Nat) : Int) - ((faN DF1 k1 : Nat) : Int))) (i := i) (by unfold P1; exact decide_eq_false (by omega))]; omega)) ?_
                                  refine lv_lstore (lv' := [(5, .long (lZ ((wnP DF1 k1 (P1 (((riN DF1 k1 : Nat) : Int) - ((faN DF1 k1 : Nat) : Int))) (i + 1) : Nat) : Int))), (9, .int (iZ ((1 : Nat) : Int))), (8, .int (iZ (((i : Nat) : Int) - 3000))), (7, .int (iZ (((((riN DF1 k1 : Nat) : Int) - ((faN DF1 k1 : Nat) : Int)).natAbs : Nat) : Int))), (4, .int (iZ (((riN DF1 k1 : Nat) : Int) - ((faN DF1 k1 : Nat) : Int)))), (2, .int (iZ ((1 : Nat) : Int))), (0, .ref mz)]) hx hb dX11_turned_329 hl (by decide) rfl (fun ls hl => ?_)
                                  refine lv_iinc (v := iZ (((i + 1 : Nat) : Int) - 3000)) (lv' := [(8, .int (iZ (((i + 1 : Nat) : Int) - 3000))), (5, .long (lZ ((wnP DF1 k1 (P1 (((riN DF1 k1 : Nat) : Int) - ((faN DF1 k1 : Nat) : Int))) (i + 1) : Nat) : Int))), (9, .int (iZ ((1 : Nat) : Int))), (7, .int (iZ (((((riN DF1 k1 : Nat) : Int) - ((faN DF1 k1 : Nat) : Int)).natAbs : Nat) : Int))), (4, .int (iZ (((riN DF1 k1 : Nat) : Int) - ((faN DF1 k1 : Nat) : Int)))), (2, .int (iZ ((1 : Nat) : Int))), (0, .ref mz)]) hx hb dX11_turned_331 hl (k := 2) rfl (zi_inc (by omega)) (by decide) rfl (fun ls hl => ?_)
                                  refine lv_goto (tgt := 256) hx hb dX11_turned_334 (by decide) ?_
                                  exact ih_256 (i + 1) (by omega) (by omega) _ _ hP hD hS ls (lv_sub hl [0, 3, 1, 4, 5, 6] rfl)
                      exact pt_256 6002 0 (by omega) (by omega) _ _ hP hD hS ls (lv_sub hl [0, 1, 2, 3, 5, 6] rfl)
                    · refine lv_iload hx hb dX11_turned_241 (lv_at hl 1 rfl) ?_
                      refine zi_neg (z := (-(((riN DF1 k1 : Nat) : Int) - ((faN DF1 k1 : Nat) : Int)))) hx hb dX11_turned_243 rfl ?_
                      refine lv_goto (tgt := 249) hx hb dX11_turned_244 (by decide) ?_
                      refine tp_i (y := (iZ (((((riN DF1 k1 : Nat) : Int) - ((faN DF1 k1 : Nat) : Int)).natAbs : Nat) : Int))) (congrArg iZ (by omega)) ?_
                      refine lv_istore (lv' := [(7, .int (iZ (((((riN DF1 k1 : Nat) : Int) - ((faN DF1 k1 : Nat) : Int)).natAbs : Nat) : Int))), (5, .long (lZ ((wnP DF1 k1 (P1 (((riN DF1 k1 : Nat) : Int) - ((faN DF1 k1 : Nat) : Int))) 0 : Nat) : Int))), (4, .int (iZ (((riN DF1 k1 : Nat) : Int) - ((faN DF1 k1 : Nat) : Int)))), (3, .int (iZ ((sgN DF1 k1 : Nat) : Int))), (2, .int (iZ ((1 : Nat) : Int))), (0, .ref mz)]) hx hb dX11_turned_249 hl (by decide) rfl (fun ls hl => ?_)
                      refine zc_sipush (z := (-3000 : Int)) hx hb dX11_turned_251 (by decide) ?_
                      refine tp_i (y := (iZ (((0 : Nat) : Int) - 3000))) (rfl) ?_
                      refine lv_istore (lv' := [(8, .int (iZ (((0 : Nat) : Int) - 3000))), (7, .int (iZ (((((riN DF1 k1 : Nat) : Int) - ((faN DF1 k1 : Nat) : Int)).natAbs : Nat) : Int))), (5, .long (lZ ((wnP DF1 k1 (P1 (((riN DF1 k1 : Nat) : Int) - ((faN DF1 k1 : Nat) : Int))) 0 : Nat) : Int))), (4, .int (iZ (((riN DF1 k1 : Nat) : Int) - ((faN DF1 k1 : Nat) : Int)))), (3, .int (iZ ((sgN DF1 k1 : Nat) : Int))), (2, .int (iZ ((1 : Nat) : Int))), (0, .ref mz)]) hx hb dX11_turned_254 hl (by decide) rfl (fun ls hl => ?_)
                      have pt_256 : ∀ f : Nat, ∀ (i : Nat), (hi : i ≤ 6001) → (hf : 6001 < i + f) → (H : Heap) → (locs : List Loc) → va_P D vwCl [(mz, .inr (10, [.int (iZ ((0 : Nat) : Int)), .ref sA, .ref sB, .int (iZ ((rn : Nat) : Int)), .ref gO, .ref xO, .ref yO, .int (iZ ((k1 : Nat) : Int)), .ref dO, .ref zO, .ref wO, .ref mO, .int (iZ ((mn : Nat) : Int)), .ref aO, .ref bO, .int (iZ ((kc : Nat) : Int)), .ref uO, .ref vO, .int (iZ ((hT : Nat) : Int)), .int (iZ ((tu : Nat) : Int)), .int (iZ ((td : Nat) : Int)), .int (iZ ((ta : Nat) : Int)), .int (iZ ((tb : Nat) : Int)), .int (iZ ((tt : Nat) : Int)), .int (iZ ((tk : Nat) : Int)), .int (iZ ((tj : Nat) : Int))])), (gO, .inl (cI, 30, .inl (LI G))), (xO, .inl (cI, 30, .inl (LI X))), (yO, .inl (cI, 30, .inl (LI Y))), (dO, .inl (cI, 30, .inl (ZI DF1))), (zO, .inl (cI, 30, .inl (LI SF1))), (wO, .inl (cJ, 6001, .inr (.inl (LJ w)))), (mO, .inl (cJ, 6001, .inr (.inl (LJ v))))] H → va_D A [(mz, .inr (10, [.int (iZ ((0 : Nat) : Int)), .ref sA, .ref sB, .int (iZ ((rn : Nat) : Int)), .ref gO, .ref xO, .ref yO, .int (iZ ((k1 : Nat) : Int)), .ref dO, .ref zO, .ref wO, .ref mO, .int (iZ ((mn : Nat) : Int)), .ref aO, .ref bO, .int (iZ ((kc : Nat) : Int)), .ref uO, .ref vO, .int (iZ ((hT : Nat) : Int)), .int (iZ ((tu : Nat) : Int)), .int (iZ ((td : Nat) : Int)), .int (iZ ((ta : Nat) : Int)), .int (iZ ((tb : Nat) : Int)), .int (iZ ((tt : Nat) : Int)), .int (iZ ((tk : Nat) : Int)), .int (iZ ((tj : Nat) : Int))])), (gO, .inl (cI, 30, .inl (LI G))), (xO, .inl (cI, 30, .inl (LI X))), (yO, .inl (cI, 30, .inl (LI Y))), (dO, .inl (cI, 30, .inl (ZI DF1))), (zO, .inl (cI, 30, .inl (LI SF1))), (wO, .inl (cJ, 6001, .inr (.inl (LJ w)))), (mO, .inl (cJ, 6001, .inr (.inl (LJ v))))] → va_S A s.heap H locs → (ls : Array Slot) → lv_has ls 10 [(8, .int (iZ (((i : Nat) : Int) - 3000))), (7, .int (iZ (((((riN DF1 k1 : Nat) : Int) - ((faN DF1 k1 : Nat) : Int)).natAbs : Nat) : Int))), (5, .long (lZ ((wnP DF1 k1 (P1 (((riN DF1 k1 : Nat) : Int) - ((faN DF1 k1 : Nat) : Int))) i : Nat) : Int))), (4, .int (iZ (((riN DF1 k1 : Nat) : Int) - ((faN DF1 k1 : Nat) : Int)))), (2, .int (iZ ((1 : Nat) : Int))), (0, .ref mz)] → W p l e rmX11_turned s m args below meth c H locs 0 0 Q (F0 m 256 ls []) := by
                        intro f
                        induction f with
                        | zero =>
                          intro i hi hf H locs hP hD hS ls hl
                          exfalso; omega
                        | succ f ih_256 =>
                          intro i hi hf H locs hP hD hS ls hl
                          refine lv_iload hx hb dX11_turned_256 (lv_at hl 0 rfl) ?_
                          refine zc_sipush (z := ((3000 : Nat) : Int)) hx hb dX11_turned_258 (by decide) ?_
                          refine zb_icmp_gt (x := (((i : Nat) : Int) - 3000)) (y := ((3000 : Nat) : Int)) (tgt := 337) hx hb dX11_turned_261 (by decide) ⟨by omega, by omega⟩ ⟨by decide, by decide⟩ (fun c_261 => ?_) (fun c_261 => ?_)
                          · refine lv_lload hx hb dX11_turned_337 (lv_at hl 2 rfl) ?_
                            exact hret _ ((k1, DF1, SF1), w, v) _ _ _ _ _ _ (Nat.le_of_ble_eq_true rfl) (Nat.le_of_ble_eq_true rfl) dX11_turned_339 (⟨fun _ => by show _ = lZ (trnV _ 1); rw [trm_1 hL1 hLa hab (show i = 6001 by omega)], fun h9 => absurd (by omega) h9⟩) hP hD hS
                          · refine lv_iload_n hx hb dX11_turned_264 rfl (lv_at hl 4 rfl) ?_
                            refine zc_iconst (z := ((1 : Nat) : Int)) hx hb dX11_turned_265 (by decide) ?_
                            refine zb_icmp_ne (x := ((1 : Nat) : Int)) (y := ((1 : Nat) : Int)) (tgt := 284) hx hb dX11_turned_266 (by decide) ⟨by decide, by decide⟩ ⟨by decide, by decide⟩ (fun c_266 => ?_) (fun c_266 => ?_)
                            · exact absurd c_266 (by decide)
                            · refine lv_iload hx hb dX11_turned_269 (lv_at hl 0 rfl) ?_
                              refine lv_iload hx hb dX11_turned_271 (lv_at hl 3 rfl) ?_
                              refine zb_icmp_lt (x := (((i : Nat) : Int) - 3000)) (y := (((riN DF1 k1 : Nat) : Int) - ((faN DF1 k1 : Nat) : Int))) (tgt := 280) hx hb dX11_turned_273 (by decide) ⟨by omega, by omega⟩ ⟨by omega, by omega⟩ (fun c_273 => ?_) (fun c_273 => ?_)
                              · refine zc_iconst (z := ((0 : Nat) : Int)) hx hb dX11_turned_280 (by decide) ?_
                                refine lv_goto (tgt := 304) hx hb dX11_turned_281 (by decide) ?_
                                refine lv_istore (lv' := [(9, .int (iZ ((0 : Nat) : Int))), (8, .int (iZ (((i : Nat) : Int) - 3000))), (7, .int (iZ (((((riN DF1 k1 : Nat) : Int) - ((faN DF1 k1 : Nat) : Int)).natAbs : Nat) : Int))), (5, .long (lZ ((wnP DF1 k1 (P1 (((riN DF1 k1 : Nat) : Int) - ((faN DF1 k1 : Nat) : Int))) i : Nat) : Int))), (4, .int (iZ (((riN DF1 k1 : Nat) : Int) - ((faN DF1 k1 : Nat) : Int)))), (2, .int (iZ ((1 : Nat) : Int))), (0, .ref mz)]) hx hb dX11_turned_304 hl (by decide) rfl (fun ls hl => ?_)
                                refine lv_lload hx hb dX11_turned_306 (lv_at hl 3 rfl) ?_
                                refine lv_iload hx hb dX11_turned_308 (lv_at hl 0 rfl) ?_
                                refine zb_if_eq (x := ((0 : Nat) : Int)) (tgt := 327) hx hb dX11_turned_310 (by decide) ⟨by decide, by decide⟩ (fun c_310 => ?_) (fun c_310 => ?_)
                                · refine zc_lconst (z := ((0 : Nat) : Int)) hx hb dX11_turned_327 (by decide) ?_
                                  refine zl_add (z := ((wnP DF1 k1 (P1 (((riN DF1 k1 : Nat) : Int) - ((faN DF1 k1 : Nat) : Int))) (i + 1) : Nat) : Int)) hx hb dX11_turned_328 (by first | (rw [wnP_t (P := P1 (((riN DF1 k1 : Nat) : Int) - ((faN DF1 k1 : Nat) : Int))) (i := i) (by unfold P1; exact decide_eq_true (by omega))]; omega) | (rw [wnP_f (P := P1 (((riN DF1 k1 : Nat) : Int) - ((faN DF1 k1 : Nat) : Int))) (i := i) (by unfold P1; exact decide_eq_false (by omega))]; omega)) ?_
                                  refine lv_lstore (lv' := [(5, .long (lZ ((wnP DF1 k1 (P1 (((riN DF1 k1 : Nat) : Int) - ((faN DF1 k1 : Nat) : Int))) (i + 1) : Nat) : Int))), (9, .int (iZ ((0 : Nat) : Int))), (8, .int (iZ (((i : Nat) : Int) - 3000))), (7, .int (iZ (((((riN DF1 k1 : Nat) : Int) - ((faN DF1 k1 : Nat) : Int)).natAbs : Nat) : Int))), (4, .int (iZ (((riN DF1 k1 : Nat) : Int) - ((faN DF1 k1 : Nat) : Int)))), (2, .int (iZ ((1 : Nat) : Int))), (0, .ref mz)]) hx hb dX11_turned_329 hl (by decide) rfl (fun ls hl => ?_)
                                  refine lv_iinc (v := iZ (((i + 1 : Nat) : Int) - 3000)) (lv' := [(8, .int (iZ (((i + 1 : Nat) : Int) - 3000))), (5, .long (lZ ((wnP DF1 k1 (P1 (((riN DF1 k1 : Nat) : Int) - ((faN DF1 k1 : Nat) : Int))) (i + 1) : Nat) : Int))), (9, .int (iZ ((0 : Nat) : Int))), (7, .int (iZ (((((riN DF1 k1 : Nat) : Int) - ((faN DF1 k1 : Nat) : Int)).natAbs : Nat) : Int))), (4, .int (iZ (((riN DF1 k1 : Nat) : Int) - ((faN DF1 k1 : Nat) : Int)))), (2, .int (iZ ((1 : Nat) : Int))), (0, .ref mz)]) hx hb dX11_turned_331 hl (k := 2) rfl (zi_inc (by omega)) (by decide) rfl (fun ls hl => ?_)
                                  refine lv_goto (tgt := 256) hx hb dX11_turned_334 (by decide) ?_
                                  exact ih_256 (i + 1) (by omega) (by omega) _ _ hP hD hS ls (lv_sub hl [0, 3, 1, 4, 5, 6] rfl)
                                · exact absurd c_310 (by decide)
                              · refine zc_iconst (z := ((1 : Nat) : Int)) hx hb dX11_turned_276 (by decide) ?_
                                refine lv_goto (tgt := 304) hx hb dX11_turned_277 (by decide) ?_
                                refine lv_istore (lv' := [(9, .int (iZ ((1 : Nat) : Int))), (8, .int (iZ (((i : Nat) : Int) - 3000))), (7, .int (iZ (((((riN DF1 k1 : Nat) : Int) - ((faN DF1 k1 : Nat) : Int)).natAbs : Nat) : Int))), (5, .long (lZ ((wnP DF1 k1 (P1 (((riN DF1 k1 : Nat) : Int) - ((faN DF1 k1 : Nat) : Int))) i : Nat) : Int))), (4, .int (iZ (((riN DF1 k1 : Nat) : Int) - ((faN DF1 k1 : Nat) : Int)))), (2, .int (iZ ((1 : Nat) : Int))), (0, .ref mz)]) hx hb dX11_turned_304 hl (by decide) rfl (fun ls hl => ?_)
                                refine lv_lload hx hb dX11_turned_306 (lv_at hl 3 rfl) ?_
                                refine lv_iload hx hb dX11_turned_308 (lv_at hl 0 rfl) ?_
                                refine zb_if_eq (x := ((1 : Nat) : Int)) (tgt := 327) hx hb dX11_turned_310 (by decide) ⟨by decide, by decide⟩ (fun c_310 => ?_) (fun c_310 => ?_)
                                · exact absurd c_310 (by decide)
                                · refine lv_aload_n hx hb dX11_turned_313 rfl (lv_at hl 6 rfl) ?_
                                  refine va_get (D := D) (ci := 10) (v := .ref wO) (C := RX11) (T := TX11) (N := 26) hx hb hts hh_1 hown hK hP 0 rfl rfl 10 (by decide) hh_4 (fun _ h9 => h9) rfl dX11_turned_314 ?_
                                  refine lv_iload hx hb dX11_turned_317 (lv_at hl 1 rfl) ?_
                                  refine zc_sipush (z := ((3000 : Nat) : Int)) hx hb dX11_turned_319 (by decide) ?_
                                  refine zi_add (z := ((i : Nat) : Int)) hx hb dX11_turned_322 (by omega) ?_
                                  refine za_lald hx hb hK hP 6 1 rfl rfl (i) (v := ((w i : Nat) : Int)) (by decide) rfl (by omega) (rfl) dX11_turned_323 ?_
                                  refine tp_l (y := (lZ ((wz DF1 k1 ((i : Int) - 3000) : Nat) : Int))) (wz_at hw0 (by omega) rfl) ?_
                                  refine lv_goto (tgt := 328) hx hb dX11_turned_324 (by decide) ?_
                                  refine zl_add (z := ((wnP DF1 k1 (P1 (((riN DF1 k1 : Nat) : Int) - ((faN DF1 k1 : Nat) : Int))) (i + 1) : Nat) : Int)) hx hb dX11_turned_328 (by first | (rw [wnP_t (P := P1 (((riN DF1 k1 : Nat) : Int) - ((faN DF1 k1 : Nat) : Int))) (i := i) (by unfold P1; exact decide_eq_true (by omega))]; omega) | (rw [wnP_f (P := P1 (((riN DF1 k1 : Nat) : Int) - ((faN DF1 k1 : Nat) : Int))) (i := i) (by unfold P1; exact decide_eq_false (by omega))]; omega)) ?_
                                  refine lv_lstore (lv' := [(5, .long (lZ ((wnP DF1 k1 (P1 (((riN DF1 k1 : Nat) : Int) - ((faN DF1 k1 : Nat) : Int))) (i + 1) : Nat) : Int))), (9, .int (iZ ((1 : Nat) : Int))), (8, .int (iZ (((i : Nat) : Int) - 3000))), (7, .int (iZ (((((riN DF1 k1 : Nat) : Int) - ((faN DF1 k1 : Nat) : Int)).natAbs : Nat) : Int))), (4, .int (iZ (((riN DF1 k1 : Nat) : Int) - ((faN DF1 k1 : Nat) : Int)))), (2, .int (iZ ((1 : Nat) : Int))), (0, .ref mz)]) hx hb dX11_turned_329 hl (by decide) rfl (fun ls hl => ?_)
                                  refine lv_iinc (v := iZ (((i + 1 : Nat) : Int) - 3000)) (lv' := [(8, .int (iZ (((i + 1 : Nat) : Int) - 3000))), (5, .long (lZ ((wnP DF1 k1 (P1 (((riN DF1 k1 : Nat) : Int) - ((faN DF1 k1 : Nat) : Int))) (i + 1) : Nat) : Int))), (9, .int (iZ ((1 : Nat) : Int))), (7, .int (iZ (((((riN DF1 k1 : Nat) : Int) - ((faN DF1 k1 : Nat) : Int)).natAbs : Nat) : Int))), (4, .int (iZ (((riN DF1 k1 : Nat) : Int) - ((faN DF1 k1 : Nat) : Int)))), (2, .int (iZ ((1 : Nat) : Int))), (0, .ref mz)]) hx hb dX11_turned_331 hl (k := 2) rfl (zi_inc (by omega)) (by decide) rfl (fun ls hl => ?_)
                                  refine lv_goto (tgt := 256) hx hb dX11_turned_334 (by decide) ?_
                                  exact ih_256 (i + 1) (by omega) (by omega) _ _ hP hD hS ls (lv_sub hl [0, 3, 1, 4, 5, 6] rfl)
                      exact pt_256 6002 0 (by omega) (by omega) _ _ hP hD hS ls (lv_sub hl [0, 1, 2, 3, 5, 6] rfl)
                  · refine zc_lconst (z := ((0 : Nat) : Int)) hx hb dX11_turned_233 (by decide) ?_
                    refine tp_l (y := (lZ ((wnP DF1 k1 (P2 (((((riN DF1 k1 : Nat) : Int) - ((faN DF1 k1 : Nat) : Int)).natAbs : Nat) : Int)) 0 : Nat) : Int))) (rfl) ?_
                    refine lv_lstore (lv' := [(5, .long (lZ ((wnP DF1 k1 (P2 (((((riN DF1 k1 : Nat) : Int) - ((faN DF1 k1 : Nat) : Int)).natAbs : Nat) : Int)) 0 : Nat) : Int))), (4, .int (iZ (((riN DF1 k1 : Nat) : Int) - ((faN DF1 k1 : Nat) : Int)))), (3, .int (iZ ((sgN DF1 k1 : Nat) : Int))), (2, .int (iZ ((2 : Nat) : Int))), (0, .ref mz)]) hx hb dX11_turned_234 hl (by decide) rfl (fun ls hl => ?_)
                    refine lv_iload hx hb dX11_turned_236 (lv_at hl 1 rfl) ?_
                    refine zb_if_ge (x := (((riN DF1 k1 : Nat) : Int) - ((faN DF1 k1 : Nat) : Int))) (tgt := 247) hx hb dX11_turned_238 (by decide) ⟨by omega, by omega⟩ (fun c_238 => ?_) (fun c_238 => ?_)
                    · refine lv_iload hx hb dX11_turned_247 (lv_at hl 1 rfl) ?_
                      refine tp_i (y := (iZ (((((riN DF1 k1 : Nat) : Int) - ((faN DF1 k1 : Nat) : Int)).natAbs : Nat) : Int))) (congrArg iZ (by omega)) ?_
                      refine lv_istore (lv' := [(7, .int (iZ (((((riN DF1 k1 : Nat) : Int) - ((faN DF1 k1 : Nat) : Int)).natAbs : Nat) : Int))), (5, .long (lZ ((wnP DF1 k1 (P2 (((((riN DF1 k1 : Nat) : Int) - ((faN DF1 k1 : Nat) : Int)).natAbs : Nat) : Int)) 0 : Nat) : Int))), (4, .int (iZ (((riN DF1 k1 : Nat) : Int) - ((faN DF1 k1 : Nat) : Int)))), (3, .int (iZ ((sgN DF1 k1 : Nat) : Int))), (2, .int (iZ ((2 : Nat) : Int))), (0, .ref mz)]) hx hb dX11_turned_249 hl (by decide) rfl (fun ls hl => ?_)
                      refine zc_sipush (z := (-3000 : Int)) hx hb dX11_turned_251 (by decide) ?_
                      refine tp_i (y := (iZ (((0 : Nat) : Int) - 3000))) (rfl) ?_
                      refine lv_istore (lv' := [(8, .int (iZ (((0 : Nat) : Int) - 3000))), (7, .int (iZ (((((riN DF1 k1 : Nat) : Int) - ((faN DF1 k1 : Nat) : Int)).natAbs : Nat) : Int))), (5, .long (lZ ((wnP DF1 k1 (P2 (((((riN DF1 k1 : Nat) : Int) - ((faN DF1 k1 : Nat) : Int)).natAbs : Nat) : Int)) 0 : Nat) : Int))), (4, .int (iZ (((riN DF1 k1 : Nat) : Int) - ((faN DF1 k1 : Nat) : Int)))), (3, .int (iZ ((sgN DF1 k1 : Nat) : Int))), (2, .int (iZ ((2 : Nat) : Int))), (0, .ref mz)]) hx hb dX11_turned_254 hl (by decide) rfl (fun ls hl => ?_)
                      have pt_256 : ∀ f : Nat, ∀ (i : Nat), (hi : i ≤ 6001) → (hf : 6001 < i + f) → (H : Heap) → (locs : List Loc) → va_P D vwCl [(mz, .inr (10, [.int (iZ ((0 : Nat) : Int)), .ref sA, .ref sB, .int (iZ ((rn : Nat) : Int)), .ref gO, .ref xO, .ref yO, .int (iZ ((k1 : Nat) : Int)), .ref dO, .ref zO, .ref wO, .ref mO, .int (iZ ((mn : Nat) : Int)), .ref aO, .ref bO, .int (iZ ((kc : Nat) : Int)), .ref uO, .ref vO, .int (iZ ((hT : Nat) : Int)), .int (iZ ((tu : Nat) : Int)), .int (iZ ((td : Nat) : Int)), .int (iZ ((ta : Nat) : Int)), .int (iZ ((tb : Nat) : Int)), .int (iZ ((tt : Nat) : Int)), .int (iZ ((tk : Nat) : Int)), .int (iZ ((tj : Nat) : Int))])), (gO, .inl (cI, 30, .inl (LI G))), (xO, .inl (cI, 30, .inl (LI X))), (yO, .inl (cI, 30, .inl (LI Y))), (dO, .inl (cI, 30, .inl (ZI DF1))), (zO, .inl (cI, 30, .inl (LI SF1))), (wO, .inl (cJ, 6001, .inr (.inl (LJ w)))), (mO, .inl (cJ, 6001, .inr (.inl (LJ v))))] H → va_D A [(mz, .inr (10, [.int (iZ ((0 : Nat) : Int)), .ref sA, .ref sB, .int (iZ ((rn : Nat) : Int)), .ref gO, .ref xO, .ref yO, .int (iZ ((k1 : Nat) : Int)), .ref dO, .ref zO, .ref wO, .ref mO, .int (iZ ((mn : Nat) : Int)), .ref aO, .ref bO, .int (iZ ((kc : Nat) : Int)), .ref uO, .ref vO, .int (iZ ((hT : Nat) : Int)), .int (iZ ((tu : Nat) : Int)), .int (iZ ((td : Nat) : Int)), .int (iZ ((ta : Nat) : Int)), .int (iZ ((tb : Nat) : Int)), .int (iZ ((tt : Nat) : Int)), .int (iZ ((tk : Nat) : Int)), .int (iZ ((tj : Nat) : Int))])), (gO, .inl (cI, 30, .inl (LI G))), (xO, .inl (cI, 30, .inl (LI X))), (yO, .inl (cI, 30, .inl (LI Y))), (dO, .inl (cI, 30, .inl (ZI DF1))), (zO, .inl (cI, 30, .inl (LI SF1))), (wO, .inl (cJ, 6001, .inr (.inl (LJ w)))), (mO, .inl (cJ, 6001, .inr (.inl (LJ v))))] → va_S A s.heap H locs → (ls : Array Slot) → lv_has ls 10 [(8, .int (iZ (((i : Nat) : Int) - 3000))), (7, .int (iZ (((((riN DF1 k1 : Nat) : Int) - ((faN DF1 k1 : Nat) : Int)).natAbs : Nat) : Int))), (5, .long (lZ ((wnP DF1 k1 (P2 (((((riN DF1 k1 : Nat) : Int) - ((faN DF1 k1 : Nat) : Int)).natAbs : Nat) : Int)) i : Nat) : Int))), (4, .int (iZ (((riN DF1 k1 : Nat) : Int) - ((faN DF1 k1 : Nat) : Int)))), (2, .int (iZ ((2 : Nat) : Int))), (0, .ref mz)] → W p l e rmX11_turned s m args below meth c H locs 0 0 Q (F0 m 256 ls []) := by
                        intro f
                        induction f with
                        | zero =>
                          intro i hi hf H locs hP hD hS ls hl
                          exfalso; omega
                        | succ f ih_256 =>
                          intro i hi hf H locs hP hD hS ls hl
                          refine lv_iload hx hb dX11_turned_256 (lv_at hl 0 rfl) ?_
                          refine zc_sipush (z := ((3000 : Nat) : Int)) hx hb dX11_turned_258 (by decide) ?_
                          refine zb_icmp_gt (x := (((i : Nat) : Int) - 3000)) (y := ((3000 : Nat) : Int)) (tgt := 337) hx hb dX11_turned_261 (by decide) ⟨by omega, by omega⟩ ⟨by decide, by decide⟩ (fun c_261 => ?_) (fun c_261 => ?_)
                          · refine lv_lload hx hb dX11_turned_337 (lv_at hl 2 rfl) ?_
                            exact hret _ ((k1, DF1, SF1), w, v) _ _ _ _ _ _ (Nat.le_of_ble_eq_true rfl) (Nat.le_of_ble_eq_true rfl) dX11_turned_339 (⟨fun _ => by show _ = lZ (trnV _ 2); rw [trm_2 hL1 hLa hab (show i = 6001 by omega)], fun h9 => absurd (by omega) h9⟩) hP hD hS
                          · refine lv_iload_n hx hb dX11_turned_264 rfl (lv_at hl 4 rfl) ?_
                            refine zc_iconst (z := ((1 : Nat) : Int)) hx hb dX11_turned_265 (by decide) ?_
                            refine zb_icmp_ne (x := ((2 : Nat) : Int)) (y := ((1 : Nat) : Int)) (tgt := 284) hx hb dX11_turned_266 (by decide) ⟨by decide, by decide⟩ ⟨by decide, by decide⟩ (fun c_266 => ?_) (fun c_266 => ?_)
                            · refine lv_iload hx hb dX11_turned_284 (lv_at hl 0 rfl) ?_
                              refine lv_iload hx hb dX11_turned_286 (lv_at hl 1 rfl) ?_
                              refine zb_icmp_ge (x := (((i : Nat) : Int) - 3000)) (y := (((((riN DF1 k1 : Nat) : Int) - ((faN DF1 k1 : Nat) : Int)).natAbs : Nat) : Int)) (tgt := 299) hx hb dX11_turned_288 (by decide) ⟨by omega, by omega⟩ ⟨by omega, by omega⟩ (fun c_288 => ?_) (fun c_288 => ?_)
                              · refine zc_iconst (z := ((1 : Nat) : Int)) hx hb dX11_turned_299 (by decide) ?_
                                refine lv_goto (tgt := 304) hx hb dX11_turned_300 (by decide) ?_
                                refine lv_istore (lv' := [(9, .int (iZ ((1 : Nat) : Int))), (8, .int (iZ (((i : Nat) : Int) - 3000))), (7, .int (iZ (((((riN DF1 k1 : Nat) : Int) - ((faN DF1 k1 : Nat) : Int)).natAbs : Nat) : Int))), (5, .long (lZ ((wnP DF1 k1 (P2 (((((riN DF1 k1 : Nat) : Int) - ((faN DF1 k1 : Nat) : Int)).natAbs : Nat) : Int)) i : Nat) : Int))), (4, .int (iZ (((riN DF1 k1 : Nat) : Int) - ((faN DF1 k1 : Nat) : Int)))), (2, .int (iZ ((2 : Nat) : Int))), (0, .ref mz)]) hx hb dX11_turned_304 hl (by decide) rfl (fun ls hl => ?_)
                                refine lv_lload hx hb dX11_turned_306 (lv_at hl 3 rfl) ?_
                                refine lv_iload hx hb dX11_turned_308 (lv_at hl 0 rfl) ?_
                                refine zb_if_eq (x := ((1 : Nat) : Int)) (tgt := 327) hx hb dX11_turned_310 (by decide) ⟨by decide, by decide⟩ (fun c_310 => ?_) (fun c_310 => ?_)
                                · exact absurd c_310 (by decide)
                                · refine lv_aload_n hx hb dX11_turned_313 rfl (lv_at hl 6 rfl) ?_
                                  refine va_get (D := D) (ci := 10) (v := .ref wO) (C := RX11) (T := TX11) (N := 26) hx hb hts hh_1 hown hK hP 0 rfl rfl 10 (by decide) hh_4 (fun _ h9 => h9) rfl dX11_turned_314 ?_
                                  refine lv_iload hx hb dX11_turned_317 (lv_at hl 1 rfl) ?_
                                  refine zc_sipush (z := ((3000 : Nat) : Int)) hx hb dX11_turned_319 (by decide) ?_
                                  refine zi_add (z := ((i : Nat) : Int)) hx hb dX11_turned_322 (by omega) ?_
                                  refine za_lald hx hb hK hP 6 1 rfl rfl (i) (v := ((w i : Nat) : Int)) (by decide) rfl (by omega) (rfl) dX11_turned_323 ?_
                                  refine tp_l (y := (lZ ((wz DF1 k1 ((i : Int) - 3000) : Nat) : Int))) (wz_at hw0 (by omega) rfl) ?_
                                  refine lv_goto (tgt := 328) hx hb dX11_turned_324 (by decide) ?_
                                  refine zl_add (z := ((wnP DF1 k1 (P2 (((((riN DF1 k1 : Nat) : Int) - ((faN DF1 k1 : Nat) : Int)).natAbs : Nat) : Int)) (i + 1) : Nat) : Int)) hx hb dX11_turned_328 (by first | (rw [wnP_t (P := P2 (((((riN DF1 k1 : Nat) : Int) - ((faN DF1 k1 : Nat) : Int)).natAbs : Nat) : Int)) (i := i) (by unfold P2; exact decide_eq_true (by omega))]; omega) | (rw [wnP_f (P := P2 (((((riN DF1 k1 : Nat) : Int) - ((faN DF1 k1 : Nat) : Int)).natAbs : Nat) : Int)) (i := i) (by unfold P2; exact decide_eq_false (by omega))]; omega)) ?_
                                  refine lv_lstore (lv' := [(5, .long (lZ ((wnP DF1 k1 (P2 (((((riN DF1 k1 : Nat) : Int) - ((faN DF1 k1 : Nat) : Int)).natAbs : Nat) : Int)) (i + 1) : Nat) : Int))), (9, .int (iZ ((1 : Nat) : Int))), (8, .int (iZ (((i : Nat) : Int) - 3000))), (7, .int (iZ (((((riN DF1 k1 : Nat) : Int) - ((faN DF1 k1 : Nat) : Int)).natAbs : Nat) : Int))), (4, .int (iZ (((riN DF1 k1 : Nat) : Int) - ((faN DF1 k1 : Nat) : Int)))), (2, .int (iZ ((2 : Nat) : Int))), (0, .ref mz)]) hx hb dX11_turned_329 hl (by decide) rfl (fun ls hl => ?_)
                                  refine lv_iinc (v := iZ (((i + 1 : Nat) : Int) - 3000)) (lv' := [(8, .int (iZ (((i + 1 : Nat) : Int) - 3000))), (5, .long (lZ ((wnP DF1 k1 (P2 (((((riN DF1 k1 : Nat) : Int) - ((faN DF1 k1 : Nat) : Int)).natAbs : Nat) : Int)) (i + 1) : Nat) : Int))), (9, .int (iZ ((1 : Nat) : Int))), (7, .int (iZ (((((riN DF1 k1 : Nat) : Int) - ((faN DF1 k1 : Nat) : Int)).natAbs : Nat) : Int))), (4, .int (iZ (((riN DF1 k1 : Nat) : Int) - ((faN DF1 k1 : Nat) : Int)))), (2, .int (iZ ((2 : Nat) : Int))), (0, .ref mz)]) hx hb dX11_turned_331 hl (k := 2) rfl (zi_inc (by omega)) (by decide) rfl (fun ls hl => ?_)
                                  refine lv_goto (tgt := 256) hx hb dX11_turned_334 (by decide) ?_
                                  exact ih_256 (i + 1) (by omega) (by omega) _ _ hP hD hS ls (lv_sub hl [0, 3, 1, 4, 5, 6] rfl)
                              · refine lv_iload hx hb dX11_turned_291 (lv_at hl 0 rfl) ?_
                                refine lv_iload hx hb dX11_turned_293 (lv_at hl 1 rfl) ?_
                                refine zi_neg (z := (-(((((riN DF1 k1 : Nat) : Int) - ((faN DF1 k1 : Nat) : Int)).natAbs : Nat) : Int))) hx hb dX11_turned_295 rfl ?_
                                refine zb_icmp_gt (x := (((i : Nat) : Int) - 3000)) (y := (-(((((riN DF1 k1 : Nat) : Int) - ((faN DF1 k1 : Nat) : Int)).natAbs : Nat) : Int))) (tgt := 303) hx hb dX11_turned_296 (by decide) ⟨by omega, by omega⟩ ⟨by omega, by omega⟩ (fun c_296 => ?_) (fun c_296 => ?_)
                                · refine zc_iconst (z := ((0 : Nat) : Int)) hx hb dX11_turned_303 (by decide) ?_
                                  refine lv_istore (lv' := [(9, .int (iZ ((0 : Nat) : Int))), (8, .int (iZ (((i : Nat) : Int) - 3000))), (7, .int (iZ (((((riN DF1 k1 : Nat) : Int) - ((faN DF1 k1 : Nat) : Int)).natAbs : Nat) : Int))), (5, .long (lZ ((wnP DF1 k1 (P2 (((((riN DF1 k1 : Nat) : Int) - ((faN DF1 k1 : Nat) : Int)).natAbs : Nat) : Int)) i : Nat) : Int))), (4, .int (iZ (((riN DF1 k1 : Nat) : Int) - ((faN DF1 k1 : Nat) : Int)))), (2, .int (iZ ((2 : Nat) : Int))), (0, .ref mz)]) hx hb dX11_turned_304 hl (by decide) rfl (fun ls hl => ?_)
                                  refine lv_lload hx hb dX11_turned_306 (lv_at hl 3 rfl) ?_
                                  refine lv_iload hx hb dX11_turned_308 (lv_at hl 0 rfl) ?_
                                  refine zb_if_eq (x := ((0 : Nat) : Int)) (tgt := 327) hx hb dX11_turned_310 (by decide) ⟨by decide, by decide⟩ (fun c_310 => ?_) (fun c_310 => ?_)
                                  · refine zc_lconst (z := ((0 : Nat) : Int)) hx hb dX11_turned_327 (by decide) ?_
                                    refine zl_add (z := ((wnP DF1 k1 (P2 (((((riN DF1 k1 : Nat) : Int) - ((faN DF1 k1 : Nat) : Int)).natAbs : Nat) : Int)) (i + 1) : Nat) : Int)) hx hb dX11_turned_328 (by first | (rw [wnP_t (P := P2 (((((riN DF1 k1 : Nat) : Int) - ((faN DF1 k1 : Nat) : Int)).natAbs : Nat) : Int)) (i := i) (by unfold P2; exact decide_eq_true (by omega))]; omega) | (rw [wnP_f (P := P2 (((((riN DF1 k1 : Nat) : Int) - ((faN DF1 k1 : Nat) : Int)).natAbs : Nat) : Int)) (i := i) (by unfold P2; exact decide_eq_false (by omega))]; omega)) ?_
                                    refine lv_lstore (lv' := [(5, .long (lZ ((wnP DF1 k1 (P2 (((((riN DF1 k1 : Nat) : Int) - ((faN DF1 k1 : Nat) : Int)).natAbs : Nat) : Int)) (i + 1) : Nat) : Int))), (9, .int (iZ ((0 : Nat) : Int))), (8, .int (iZ (((i : Nat) : Int) - 3000))), (7, .int (iZ (((((riN DF1 k1 : Nat) : Int) - ((faN DF1 k1 : Nat) : Int)).natAbs : Nat) : Int))), (4, .int (iZ (((riN DF1 k1 : Nat) : Int) - ((faN DF1 k1 : Nat) : Int)))), (2, .int (iZ ((2 : Nat) : Int))), (0, .ref mz)]) hx hb dX11_turned_329 hl (by decide) rfl (fun ls hl => ?_)
                                    refine lv_iinc (v := iZ (((i + 1 : Nat) : Int) - 3000)) (lv' := [(8, .int (iZ (((i + 1 : Nat) : Int) - 3000))), (5, .long (lZ ((wnP DF1 k1 (P2 (((((riN DF1 k1 : Nat) : Int) - ((faN DF1 k1 : Nat) : Int)).natAbs : Nat) : Int)) (i + 1) : Nat) : Int))), (9, .int (iZ ((0 : Nat) : Int))), (7, .int (iZ (((((riN DF1 k1 : Nat) : Int) - ((faN DF1 k1 : Nat) : Int)).natAbs : Nat) : Int))), (4, .int (iZ (((riN DF1 k1 : Nat) : Int) - ((faN DF1 k1 : Nat) : Int)))), (2, .int (iZ ((2 : Nat) : Int))), (0, .ref mz)]) hx hb dX11_turned_331 hl (k := 2) rfl (zi_inc (by omega)) (by decide) rfl (fun ls hl => ?_)
                                    refine lv_goto (tgt := 256) hx hb dX11_turned_334 (by decide) ?_
                                    exact ih_256 (i + 1) (by omega) (by omega) _ _ hP hD hS ls (lv_sub hl [0, 3, 1, 4, 5, 6] rfl)
                                  · exact absurd c_310 (by decide)
                                · refine zc_iconst (z := ((1 : Nat) : Int)) hx hb dX11_turned_299 (by decide) ?_
                                  refine lv_goto (tgt := 304) hx hb dX11_turned_300 (by decide) ?_
                                  refine lv_istore (lv' := [(9, .int (iZ ((1 : Nat) : Int))), (8, .int (iZ (((i : Nat) : Int) - 3000))), (7, .int (iZ (((((riN DF1 k1 : Nat) : Int) - ((faN DF1 k1 : Nat) : Int)).natAbs : Nat) : Int))), (5, .long (lZ ((wnP DF1 k1 (P2 (((((riN DF1 k1 : Nat) : Int) - ((faN DF1 k1 : Nat) : Int)).natAbs : Nat) : Int)) i : Nat) : Int))), (4, .int (iZ (((riN DF1 k1 : Nat) : Int) - ((faN DF1 k1 : Nat) : Int)))), (2, .int (iZ ((2 : Nat) : Int))), (0, .ref mz)]) hx hb dX11_turned_304 hl (by decide) rfl (fun ls hl => ?_)
                                  refine lv_lload hx hb dX11_turned_306 (lv_at hl 3 rfl) ?_
                                  refine lv_iload hx hb dX11_turned_308 (lv_at hl 0 rfl) ?_
                                  refine zb_if_eq (x := ((1 : Nat) : Int)) (tgt := 327) hx hb dX11_turned_310 (by decide) ⟨by decide, by decide⟩ (fun c_310 => ?_) (fun c_310 => ?_)
                                  · exact absurd c_310 (by decide)
                                  · refine lv_aload_n hx hb dX11_turned_313 rfl (lv_at hl 6 rfl) ?_
                                    refine va_get (D := D) (ci := 10) (v := .ref wO) (C := RX11) (T := TX11) (N := 26) hx hb hts hh_1 hown hK hP 0 rfl rfl 10 (by decide) hh_4 (fun _ h9 => h9) rfl dX11_turned_314 ?_
                                    refine lv_iload hx hb dX11_turned_317 (lv_at hl 1 rfl) ?_
                                    refine zc_sipush (z := ((3000 : Nat) : Int)) hx hb dX11_turned_319 (by decide) ?_
                                    refine zi_add (z := ((i : Nat) : Int)) hx hb dX11_turned_322 (by omega) ?_
                                    refine za_lald hx hb hK hP 6 1 rfl rfl (i) (v := ((w i : Nat) : Int)) (by decide) rfl (by omega) (rfl) dX11_turned_323 ?_
                                    refine tp_l (y := (lZ ((wz DF1 k1 ((i : Int) - 3000) : Nat) : Int))) (wz_at hw0 (by omega) rfl) ?_
                                    refine lv_goto (tgt := 328) hx hb dX11_turned_324 (by decide) ?_
                                    refine zl_add (z := ((wnP DF1 k1 (P2 (((((riN DF1 k1 : Nat) : Int) - ((faN DF1 k1 : Nat) : Int)).natAbs : Nat) : Int)) (i + 1) : Nat) : Int)) hx hb dX11_turned_328 (by first | (rw [wnP_t (P := P2 (((((riN DF1 k1 : Nat) : Int) - ((faN DF1 k1 : Nat) : Int)).natAbs : Nat) : Int)) (i := i) (by unfold P2; exact decide_eq_true (by omega))]; omega) | (rw [wnP_f (P := P2 (((((riN DF1 k1 : Nat) : Int) - ((faN DF1 k1 : Nat) : Int)).natAbs : Nat) : Int)) (i := i) (by unfold P2; exact decide_eq_false (by omega))]; omega)) ?_
                                    refine lv_lstore (lv' := [(5, .long (lZ ((wnP DF1 k1 (P2 (((((riN DF1 k1 : Nat) : Int) - ((faN DF1 k1 : Nat) : Int)).natAbs : Nat) : Int)) (i + 1) : Nat) : Int))), (9, .int (iZ ((1 : Nat) : Int))), (8, .int (iZ (((i : Nat) : Int) - 3000))), (7, .int (iZ (((((riN DF1 k1 : Nat) : Int) - ((faN DF1 k1 : Nat) : Int)).natAbs : Nat) : Int))), (4, .int (iZ (((riN DF1 k1 : Nat) : Int) - ((faN DF1 k1 : Nat) : Int)))), (2, .int (iZ ((2 : Nat) : Int))), (0, .ref mz)]) hx hb dX11_turned_329 hl (by decide) rfl (fun ls hl => ?_)
                                    refine lv_iinc (v := iZ (((i + 1 : Nat) : Int) - 3000)) (lv' := [(8, .int (iZ (((i + 1 : Nat) : Int) - 3000))), (5, .long (lZ ((wnP DF1 k1 (P2 (((((riN DF1 k1 : Nat) : Int) - ((faN DF1 k1 : Nat) : Int)).natAbs : Nat) : Int)) (i + 1) : Nat) : Int))), (9, .int (iZ ((1 : Nat) : Int))), (7, .int (iZ (((((riN DF1 k1 : Nat) : Int) - ((faN DF1 k1 : Nat) : Int)).natAbs : Nat) : Int))), (4, .int (iZ (((riN DF1 k1 : Nat) : Int) - ((faN DF1 k1 : Nat) : Int)))), (2, .int (iZ ((2 : Nat) : Int))), (0, .ref mz)]) hx hb dX11_turned_331 hl (k := 2) rfl (zi_inc (by omega)) (by decide) rfl (fun ls hl => ?_)
                                    refine lv_goto (tgt := 256) hx hb dX11_turned_334 (by decide) ?_
                                    exact ih_256 (i + 1) (by omega) (by omega) _ _ hP hD hS ls (lv_sub hl [0, 3, 1, 4, 5, 6] rfl)
                            · exact absurd c_266 (by decide)
                      exact pt_256 6002 0 (by omega) (by omega) _ _ hP hD hS ls (lv_sub hl [0, 1, 2, 3, 5, 6] rfl)
                    · refine lv_iload hx hb dX11_turned_241 (lv_at hl 1 rfl) ?_
                      refine zi_neg (z := (-(((riN DF1 k1 : Nat) : Int) - ((faN DF1 k1 : Nat) : Int)))) hx hb dX11_turned_243 rfl ?_
                      refine lv_goto (tgt := 249) hx hb dX11_turned_244 (by decide) ?_
                      refine tp_i (y := (iZ (((((riN DF1 k1 : Nat) : Int) - ((faN DF1 k1 : Nat) : Int)).natAbs : Nat) : Int))) (congrArg iZ (by omega)) ?_
                      refine lv_istore (lv' := [(7, .int (iZ (((((riN DF1 k1 : Nat) : Int) - ((faN DF1 k1 : Nat) : Int)).natAbs : Nat) : Int))), (5, .long (lZ ((wnP DF1 k1 (P2 (((((riN DF1 k1 : Nat) : Int) - ((faN DF1 k1 : Nat) : Int)).natAbs : Nat) : Int)) 0 : Nat) : Int))), (4, .int (iZ (((riN DF1 k1 : Nat) : Int) - ((faN DF1 k1 : Nat) : Int)))), (3, .int (iZ ((sgN DF1 k1 : Nat) : Int))), (2, .int (iZ ((2 : Nat) : Int))), (0, .ref mz)]) hx hb dX11_turned_249 hl (by decide) rfl (fun ls hl => ?_)
                      refine zc_sipush (z := (-3000 : Int)) hx hb dX11_turned_251 (by decide) ?_
                      refine tp_i (y := (iZ (((0 : Nat) : Int) - 3000))) (rfl) ?_
                      refine lv_istore (lv' := [(8, .int (iZ (((0 : Nat) : Int) - 3000))), (7, .int (iZ (((((riN DF1 k1 : Nat) : Int) - ((faN DF1 k1 : Nat) : Int)).natAbs : Nat) : Int))), (5, .long (lZ ((wnP DF1 k1 (P2 (((((riN DF1 k1 : Nat) : Int) - ((faN DF1 k1 : Nat) : Int)).natAbs : Nat) : Int)) 0 : Nat) : Int))), (4, .int (iZ (((riN DF1 k1 : Nat) : Int) - ((faN DF1 k1 : Nat) : Int)))), (3, .int (iZ ((sgN DF1 k1 : Nat) : Int))), (2, .int (iZ ((2 : Nat) : Int))), (0, .ref mz)]) hx hb dX11_turned_254 hl (by decide) rfl (fun ls hl => ?_)
                      have pt_256 : ∀ f : Nat, ∀ (i : Nat), (hi : i ≤ 6001) → (hf : 6001 < i + f) → (H : Heap) → (locs : List Loc) → va_P D vwCl [(mz, .inr (10, [.int (iZ ((0 : Nat) : Int)), .ref sA, .ref sB, .int (iZ ((rn : Nat) : Int)), .ref gO, .ref xO, .ref yO, .int (iZ ((k1 : Nat) : Int)), .ref dO, .ref zO, .ref wO, .ref mO, .int (iZ ((mn : Nat) : Int)), .ref aO, .ref bO, .int (iZ ((kc : Nat) : Int)), .ref uO, .ref vO, .int (iZ ((hT : Nat) : Int)), .int (iZ ((tu : Nat) : Int)), .int (iZ ((td : Nat) : Int)), .int (iZ ((ta : Nat) : Int)), .int (iZ ((tb : Nat) : Int)), .int (iZ ((tt : Nat) : Int)), .int (iZ ((tk : Nat) : Int)), .int (iZ ((tj : Nat) : Int))])), (gO, .inl (cI, 30, .inl (LI G))), (xO, .inl (cI, 30, .inl (LI X))), (yO, .inl (cI, 30, .inl (LI Y))), (dO, .inl (cI, 30, .inl (ZI DF1))), (zO, .inl (cI, 30, .inl (LI SF1))), (wO, .inl (cJ, 6001, .inr (.inl (LJ w)))), (mO, .inl (cJ, 6001, .inr (.inl (LJ v))))] H → va_D A [(mz, .inr (10, [.int (iZ ((0 : Nat) : Int)), .ref sA, .ref sB, .int (iZ ((rn : Nat) : Int)), .ref gO, .ref xO, .ref yO, .int (iZ ((k1 : Nat) : Int)), .ref dO, .ref zO, .ref wO, .ref mO, .int (iZ ((mn : Nat) : Int)), .ref aO, .ref bO, .int (iZ ((kc : Nat) : Int)), .ref uO, .ref vO, .int (iZ ((hT : Nat) : Int)), .int (iZ ((tu : Nat) : Int)), .int (iZ ((td : Nat) : Int)), .int (iZ ((ta : Nat) : Int)), .int (iZ ((tb : Nat) : Int)), .int (iZ ((tt : Nat) : Int)), .int (iZ ((tk : Nat) : Int)), .int (iZ ((tj : Nat) : Int))])), (gO, .inl (cI, 30, .inl (LI G))), (xO, .inl (cI, 30, .inl (LI X))), (yO, .inl (cI, 30, .inl (LI Y))), (dO, .inl (cI, 30, .inl (ZI DF1))), (zO, .inl (cI, 30, .inl (LI SF1))), (wO, .inl (cJ, 6001, .inr (.inl (LJ w)))), (mO, .inl (cJ, 6001, .inr (.inl (LJ v))))] → va_S A s.heap H locs → (ls : Array Slot) → lv_has ls 10 [(8, .int (iZ (((i : Nat) : Int) - 3000))), (7, .int (iZ (((((riN DF1 k1 : Nat) : Int) - ((faN DF1 k1 : Nat) : Int)).natAbs : Nat) : Int))), (5, .long (lZ ((wnP DF1 k1 (P2 (((((riN DF1 k1 : Nat) : Int) - ((faN DF1 k1 : Nat) : Int)).natAbs : Nat) : Int)) i : Nat) : Int))), (4, .int (iZ (((riN DF1 k1 : Nat) : Int) - ((faN DF1 k1 : Nat) : Int)))), (2, .int (iZ ((2 : Nat) : Int))), (0, .ref mz)] → W p l e rmX11_turned s m args below meth c H locs 0 0 Q (F0 m 256 ls []) := by
                        intro f
                        induction f with
                        | zero =>
                          intro i hi hf H locs hP hD hS ls hl
                          exfalso; omega
                        | succ f ih_256 =>
                          intro i hi hf H locs hP hD hS ls hl
                          refine lv_iload hx hb dX11_turned_256 (lv_at hl 0 rfl) ?_
                          refine zc_sipush (z := ((3000 : Nat) : Int)) hx hb dX11_turned_258 (by decide) ?_
                          refine zb_icmp_gt (x := (((i : Nat) : Int) - 3000)) (y := ((3000 : Nat) : Int)) (tgt := 337) hx hb dX11_turned_261 (by decide) ⟨by omega, by omega⟩ ⟨by decide, by decide⟩ (fun c_261 => ?_) (fun c_261 => ?_)
                          · refine lv_lload hx hb dX11_turned_337 (lv_at hl 2 rfl) ?_
                            exact hret _ ((k1, DF1, SF1), w, v) _ _ _ _ _ _ (Nat.le_of_ble_eq_true rfl) (Nat.le_of_ble_eq_true rfl) dX11_turned_339 (⟨fun _ => by show _ = lZ (trnV _ 2); rw [trm_2 hL1 hLa hab (show i = 6001 by omega)], fun h9 => absurd (by omega) h9⟩) hP hD hS
                          · refine lv_iload_n hx hb dX11_turned_264 rfl (lv_at hl 4 rfl) ?_
                            refine zc_iconst (z := ((1 : Nat) : Int)) hx hb dX11_turned_265 (by decide) ?_
                            refine zb_icmp_ne (x := ((2 : Nat) : Int)) (y := ((1 : Nat) : Int)) (tgt := 284) hx hb dX11_turned_266 (by decide) ⟨by decide, by decide⟩ ⟨by decide, by decide⟩ (fun c_266 => ?_) (fun c_266 => ?_)
                            · refine lv_iload hx hb dX11_turned_284 (lv_at hl 0 rfl) ?_
                              refine lv_iload hx hb dX11_turned_286 (lv_at hl 1 rfl) ?_
                              refine zb_icmp_ge (x := (((i : Nat) : Int) - 3000)) (y := (((((riN DF1 k1 : Nat) : Int) - ((faN DF1 k1 : Nat) : Int)).natAbs : Nat) : Int)) (tgt := 299) hx hb dX11_turned_288 (by decide) ⟨by omega, by omega⟩ ⟨by omega, by omega⟩ (fun c_288 => ?_) (fun c_288 => ?_)
                              · refine zc_iconst (z := ((1 : Nat) : Int)) hx hb dX11_turned_299 (by decide) ?_
                                refine lv_goto (tgt := 304) hx hb dX11_turned_300 (by decide) ?_
                                refine lv_istore (lv' := [(9, .int (iZ ((1 : Nat) : Int))), (8, .int (iZ (((i : Nat) : Int) - 3000))), (7, .int (iZ (((((riN DF1 k1 : Nat) : Int) - ((faN DF1 k1 : Nat) : Int)).natAbs : Nat) : Int))), (5, .long (lZ ((wnP DF1 k1 (P2 (((((riN DF1 k1 : Nat) : Int) - ((faN DF1 k1 : Nat) : Int)).natAbs : Nat) : Int)) i : Nat) : Int))), (4, .int (iZ (((riN DF1 k1 : Nat) : Int) - ((faN DF1 k1 : Nat) : Int)))), (2, .int (iZ ((2 : Nat) : Int))), (0, .ref mz)]) hx hb dX11_turned_304 hl (by decide) rfl (fun ls hl => ?_)
                                refine lv_lload hx hb dX11_turned_306 (lv_at hl 3 rfl) ?_
                                refine lv_iload hx hb dX11_turned_308 (lv_at hl 0 rfl) ?_
                                refine zb_if_eq (x := ((1 : Nat) : Int)) (tgt := 327) hx hb dX11_turned_310 (by decide) ⟨by decide, by decide⟩ (fun c_310 => ?_) (fun c_310 => ?_)
                                · exact absurd c_310 (by decide)
                                · refine lv_aload_n hx hb dX11_turned_313 rfl (lv_at hl 6 rfl) ?_
                                  refine va_get (D := D) (ci := 10) (v := .ref wO) (C := RX11) (T := TX11) (N := 26) hx hb hts hh_1 hown hK hP 0 rfl rfl 10 (by decide) hh_4 (fun _ h9 => h9) rfl dX11_turned_314 ?_
                                  refine lv_iload hx hb dX11_turned_317 (lv_at hl 1 rfl) ?_
                                  refine zc_sipush (z := ((3000 : Nat) : Int)) hx hb dX11_turned_319 (by decide) ?_
                                  refine zi_add (z := ((i : Nat) : Int)) hx hb dX11_turned_322 (by omega) ?_
                                  refine za_lald hx hb hK hP 6 1 rfl rfl (i) (v := ((w i : Nat) : Int)) (by decide) rfl (by omega) (rfl) dX11_turned_323 ?_
                                  refine tp_l (y := (lZ ((wz DF1 k1 ((i : Int) - 3000) : Nat) : Int))) (wz_at hw0 (by omega) rfl) ?_
                                  refine lv_goto (tgt := 328) hx hb dX11_turned_324 (by decide) ?_
                                  refine zl_add (z := ((wnP DF1 k1 (P2 (((((riN DF1 k1 : Nat) : Int) - ((faN DF1 k1 : Nat) : Int)).natAbs : Nat) : Int)) (i + 1) : Nat) : Int)) hx hb dX11_turned_328 (by first | (rw [wnP_t (P := P2 (((((riN DF1 k1 : Nat) : Int) - ((faN DF1 k1 : Nat) : Int)).natAbs : Nat) : Int)) (i := i) (by unfold P2; exact decide_eq_true (by omega))]; omega) | (rw [wnP_f (P := P2 (((((riN DF1 k1 : Nat) : Int) - ((faN DF1 k1 : Nat) : Int)).natAbs : Nat) : Int)) (i := i) (by unfold P2; exact decide_eq_false (by omega))]; omega)) ?_
                                  refine lv_lstore (lv' := [(5, .long (lZ ((wnP DF1 k1 (P2 (((((riN DF1 k1 : Nat) : Int) - ((faN DF1 k1 : Nat) : Int)).natAbs : Nat) : Int)) (i + 1) : Nat) : Int))), (9, .int (iZ ((1 : Nat) : Int))), (8, .int (iZ (((i : Nat) : Int) - 3000))), (7, .int (iZ (((((riN DF1 k1 : Nat) : Int) - ((faN DF1 k1 : Nat) : Int)).natAbs : Nat) : Int))), (4, .int (iZ (((riN DF1 k1 : Nat) : Int) - ((faN DF1 k1 : Nat) : Int)))), (2, .int (iZ ((2 : Nat) : Int))), (0, .ref mz)]) hx hb dX11_turned_329 hl (by decide) rfl (fun ls hl => ?_)
                                  refine lv_iinc (v := iZ (((i + 1 : Nat) : Int) - 3000)) (lv' := [(8, .int (iZ (((i + 1 : Nat) : Int) - 3000))), (5, .long (lZ ((wnP DF1 k1 (P2 (((((riN DF1 k1 : Nat) : Int) - ((faN DF1 k1 : Nat) : Int)).natAbs : Nat) : Int)) (i + 1) : Nat) : Int))), (9, .int (iZ ((1 : Nat) : Int))), (7, .int (iZ (((((riN DF1 k1 : Nat) : Int) - ((faN DF1 k1 : Nat) : Int)).natAbs : Nat) : Int))), (4, .int (iZ (((riN DF1 k1 : Nat) : Int) - ((faN DF1 k1 : Nat) : Int)))), (2, .int (iZ ((2 : Nat) : Int))), (0, .ref mz)]) hx hb dX11_turned_331 hl (k := 2) rfl (zi_inc (by omega)) (by decide) rfl (fun ls hl => ?_)
                                  refine lv_goto (tgt := 256) hx hb dX11_turned_334 (by decide) ?_
                                  exact ih_256 (i + 1) (by omega) (by omega) _ _ hP hD hS ls (lv_sub hl [0, 3, 1, 4, 5, 6] rfl)
                              · refine lv_iload hx hb dX11_turned_291 (lv_at hl 0 rfl) ?_
                                refine lv_iload hx hb dX11_turned_293 (lv_at hl 1 rfl) ?_
                                refine zi_neg (z := (-(((((riN DF1 k1 : Nat) : Int) - ((faN DF1 k1 : Nat) : Int)).natAbs : Nat) : Int))) hx hb dX11_turned_295 rfl ?_
                                refine zb_icmp_gt (x := (((i : Nat) : Int) - 3000)) (y := (-(((((riN DF1 k1 : Nat) : Int) - ((faN DF1 k1 : Nat) : Int)).natAbs : Nat) : Int))) (tgt := 303) hx hb dX11_turned_296 (by decide) ⟨by omega, by omega⟩ ⟨by omega, by omega⟩ (fun c_296 => ?_) (fun c_296 => ?_)
                                · refine zc_iconst (z := ((0 : Nat) : Int)) hx hb dX11_turned_303 (by decide) ?_
                                  refine lv_istore (lv' := [(9, .int (iZ ((0 : Nat) : Int))), (8, .int (iZ (((i : Nat) : Int) - 3000))), (7, .int (iZ (((((riN DF1 k1 : Nat) : Int) - ((faN DF1 k1 : Nat) : Int)).natAbs : Nat) : Int))), (5, .long (lZ ((wnP DF1 k1 (P2 (((((riN DF1 k1 : Nat) : Int) - ((faN DF1 k1 : Nat) : Int)).natAbs : Nat) : Int)) i : Nat) : Int))), (4, .int (iZ (((riN DF1 k1 : Nat) : Int) - ((faN DF1 k1 : Nat) : Int)))), (2, .int (iZ ((2 : Nat) : Int))), (0, .ref mz)]) hx hb dX11_turned_304 hl (by decide) rfl (fun ls hl => ?_)
                                  refine lv_lload hx hb dX11_turned_306 (lv_at hl 3 rfl) ?_
                                  refine lv_iload hx hb dX11_turned_308 (lv_at hl 0 rfl) ?_
                                  refine zb_if_eq (x := ((0 : Nat) : Int)) (tgt := 327) hx hb dX11_turned_310 (by decide) ⟨by decide, by decide⟩ (fun c_310 => ?_) (fun c_310 => ?_)
                                  · refine zc_lconst (z := ((0 : Nat) : Int)) hx hb dX11_turned_327 (by decide) ?_
                                    refine zl_add (z := ((wnP DF1 k1 (P2 (((((riN DF1 k1 : Nat) : Int) - ((faN DF1 k1 : Nat) : Int)).natAbs : Nat) : Int)) (i + 1) : Nat) : Int)) hx hb dX11_turned_328 (by first | (rw [wnP_t (P := P2 (((((riN DF1 k1 : Nat) : Int) - ((faN DF1 k1 : Nat) : Int)).natAbs : Nat) : Int)) (i := i) (by unfold P2; exact decide_eq_true (by omega))]; omega) | (rw [wnP_f (P := P2 (((((riN DF1 k1 : Nat) : Int) - ((faN DF1 k1 : Nat) : Int)).natAbs : Nat) : Int)) (i := i) (by unfold P2; exact decide_eq_false (by omega))]; omega)) ?_
                                    refine lv_lstore (lv' := [(5, .long (lZ ((wnP DF1 k1 (P2 (((((riN DF1 k1 : Nat) : Int) - ((faN DF1 k1 : Nat) : Int)).natAbs : Nat) : Int)) (i + 1) : Nat) : Int))), (9, .int (iZ ((0 : Nat) : Int))), (8, .int (iZ (((i : Nat) : Int) - 3000))), (7, .int (iZ (((((riN DF1 k1 : Nat) : Int) - ((faN DF1 k1 : Nat) : Int)).natAbs : Nat) : Int))), (4, .int (iZ (((riN DF1 k1 : Nat) : Int) - ((faN DF1 k1 : Nat) : Int)))), (2, .int (iZ ((2 : Nat) : Int))), (0, .ref mz)]) hx hb dX11_turned_329 hl (by decide) rfl (fun ls hl => ?_)
                                    refine lv_iinc (v := iZ (((i + 1 : Nat) : Int) - 3000)) (lv' := [(8, .int (iZ (((i + 1 : Nat) : Int) - 3000))), (5, .long (lZ ((wnP DF1 k1 (P2 (((((riN DF1 k1 : Nat) : Int) - ((faN DF1 k1 : Nat) : Int)).natAbs : Nat) : Int)) (i + 1) : Nat) : Int))), (9, .int (iZ ((0 : Nat) : Int))), (7, .int (iZ (((((riN DF1 k1 : Nat) : Int) - ((faN DF1 k1 : Nat) : Int)).natAbs : Nat) : Int))), (4, .int (iZ (((riN DF1 k1 : Nat) : Int) - ((faN DF1 k1 : Nat) : Int)))), (2, .int (iZ ((2 : Nat) : Int))), (0, .ref mz)]) hx hb dX11_turned_331 hl (k := 2) rfl (zi_inc (by omega)) (by decide) rfl (fun ls hl => ?_)
                                    refine lv_goto (tgt := 256) hx hb dX11_turned_334 (by decide) ?_
                                    exact ih_256 (i + 1) (by omega) (by omega) _ _ hP hD hS ls (lv_sub hl [0, 3, 1, 4, 5, 6] rfl)
                                  · exact absurd c_310 (by decide)
                                · refine zc_iconst (z := ((1 : Nat) : Int)) hx hb dX11_turned_299 (by decide) ?_
                                  refine lv_goto (tgt := 304) hx hb dX11_turned_300 (by decide) ?_
                                  refine lv_istore (lv' := [(9, .int (iZ ((1 : Nat) : Int))), (8, .int (iZ (((i : Nat) : Int) - 3000))), (7, .int (iZ (((((riN DF1 k1 : Nat) : Int) - ((faN DF1 k1 : Nat) : Int)).natAbs : Nat) : Int))), (5, .long (lZ ((wnP DF1 k1 (P2 (((((riN DF1 k1 : Nat) : Int) - ((faN DF1 k1 : Nat) : Int)).natAbs : Nat) : Int)) i : Nat) : Int))), (4, .int (iZ (((riN DF1 k1 : Nat) : Int) - ((faN DF1 k1 : Nat) : Int)))), (2, .int (iZ ((2 : Nat) : Int))), (0, .ref mz)]) hx hb dX11_turned_304 hl (by decide) rfl (fun ls hl => ?_)
                                  refine lv_lload hx hb dX11_turned_306 (lv_at hl 3 rfl) ?_
                                  refine lv_iload hx hb dX11_turned_308 (lv_at hl 0 rfl) ?_
                                  refine zb_if_eq (x := ((1 : Nat) : Int)) (tgt := 327) hx hb dX11_turned_310 (by decide) ⟨by decide, by decide⟩ (fun c_310 => ?_) (fun c_310 => ?_)
                                  · exact absurd c_310 (by decide)
                                  · refine lv_aload_n hx hb dX11_turned_313 rfl (lv_at hl 6 rfl) ?_
                                    refine va_get (D := D) (ci := 10) (v := .ref wO) (C := RX11) (T := TX11) (N := 26) hx hb hts hh_1 hown hK hP 0 rfl rfl 10 (by decide) hh_4 (fun _ h9 => h9) rfl dX11_turned_314 ?_
                                    refine lv_iload hx hb dX11_turned_317 (lv_at hl 1 rfl) ?_
                                    refine zc_sipush (z := ((3000 : Nat) : Int)) hx hb dX11_turned_319 (by decide) ?_
                                    refine zi_add (z := ((i : Nat) : Int)) hx hb dX11_turned_322 (by omega) ?_
                                    refine za_lald hx hb hK hP 6 1 rfl rfl (i) (v := ((w i : Nat) : Int)) (by decide) rfl (by omega) (rfl) dX11_turned_323 ?_
                                    refine tp_l (y := (lZ ((wz DF1 k1 ((i : Int) - 3000) : Nat) : Int))) (wz_at hw0 (by omega) rfl) ?_
                                    refine lv_goto (tgt := 328) hx hb dX11_turned_324 (by decide) ?_
                                    refine zl_add (z := ((wnP DF1 k1 (P2 (((((riN DF1 k1 : Nat) : Int) - ((faN DF1 k1 : Nat) : Int)).natAbs : Nat) : Int)) (i + 1) : Nat) : Int)) hx hb dX11_turned_328 (by first | (rw [wnP_t (P := P2 (((((riN DF1 k1 : Nat) : Int) - ((faN DF1 k1 : Nat) : Int)).natAbs : Nat) : Int)) (i := i) (by unfold P2; exact decide_eq_true (by omega))]; omega) | (rw [wnP_f (P := P2 (((((riN DF1 k1 : Nat) : Int) - ((faN DF1 k1 : Nat) : Int)).natAbs : Nat) : Int)) (i := i) (by unfold P2; exact decide_eq_false (by omega))]; omega)) ?_
                                    refine lv_lstore (lv' := [(5, .long (lZ ((wnP DF1 k1 (P2 (((((riN DF1 k1 : Nat) : Int) - ((faN DF1 k1 : Nat) : Int)).natAbs : Nat) : Int)) (i + 1) : Nat) : Int))), (9, .int (iZ ((1 : Nat) : Int))), (8, .int (iZ (((i : Nat) : Int) - 3000))), (7, .int (iZ (((((riN DF1 k1 : Nat) : Int) - ((faN DF1 k1 : Nat) : Int)).natAbs : Nat) : Int))), (4, .int (iZ (((riN DF1 k1 : Nat) : Int) - ((faN DF1 k1 : Nat) : Int)))), (2, .int (iZ ((2 : Nat) : Int))), (0, .ref mz)]) hx hb dX11_turned_329 hl (by decide) rfl (fun ls hl => ?_)
                                    refine lv_iinc (v := iZ (((i + 1 : Nat) : Int) - 3000)) (lv' := [(8, .int (iZ (((i + 1 : Nat) : Int) - 3000))), (5, .long (lZ ((wnP DF1 k1 (P2 (((((riN DF1 k1 : Nat) : Int) - ((faN DF1 k1 : Nat) : Int)).natAbs : Nat) : Int)) (i + 1) : Nat) : Int))), (9, .int (iZ ((1 : Nat) : Int))), (7, .int (iZ (((((riN DF1 k1 : Nat) : Int) - ((faN DF1 k1 : Nat) : Int)).natAbs : Nat) : Int))), (4, .int (iZ (((riN DF1 k1 : Nat) : Int) - ((faN DF1 k1 : Nat) : Int)))), (2, .int (iZ ((2 : Nat) : Int))), (0, .ref mz)]) hx hb dX11_turned_331 hl (k := 2) rfl (zi_inc (by omega)) (by decide) rfl (fun ls hl => ?_)
                                    refine lv_goto (tgt := 256) hx hb dX11_turned_334 (by decide) ?_
                                    exact ih_256 (i + 1) (by omega) (by omega) _ _ hP hD hS ls (lv_sub hl [0, 3, 1, 4, 5, 6] rfl)
                            · exact absurd c_266 (by decide)
                      exact pt_256 6002 0 (by omega) (by omega) _ _ hP hD hS ls (lv_sub hl [0, 1, 2, 3, 5, 6] rfl)
                · refine lv_iload_n hx hb dX11_turned_230 rfl (lv_at hl 2 rfl) ?_
                  refine z_i2l (z := ((sgN DF1 k1 : Nat) : Int)) hx hb dX11_turned_231 ⟨by omega, by omega⟩ rfl ?_
                  exact hret _ ((k1, DF1, SF1), w, v) _ _ _ _ _ _ (Nat.le_of_ble_eq_true rfl) (Nat.le_of_ble_eq_true rfl) dX11_turned_232 (⟨fun _ => by show _ = lZ (trnV _ what); rw [show what = 0 by omega, ← trn_0 hL1 hLa], fun h9 => absurd (by omega) h9⟩) hP hD hS
              · have pt_220 : ∀ (w v : Nat → Nat), (hw0 : ∀ j, j < 6001 → w j = wz DF1 (u + 1) ((j : Int) - 3000)) → (H : Heap) → (locs : List Loc) → va_P D vwCl [(mz, .inr (10, [.int (iZ ((0 : Nat) : Int)), .ref sA, .ref sB, .int (iZ ((rn : Nat) : Int)), .ref gO, .ref xO, .ref yO, .int (iZ ((k1 : Nat) : Int)), .ref dO, .ref zO, .ref wO, .ref mO, .int (iZ ((mn : Nat) : Int)), .ref aO, .ref bO, .int (iZ ((kc : Nat) : Int)), .ref uO, .ref vO, .int (iZ ((hT : Nat) : Int)), .int (iZ ((tu : Nat) : Int)), .int (iZ ((td : Nat) : Int)), .int (iZ ((ta : Nat) : Int)), .int (iZ ((tb : Nat) : Int)), .int (iZ ((tt : Nat) : Int)), .int (iZ ((tk : Nat) : Int)), .int (iZ ((tj : Nat) : Int))])), (gO, .inl (cI, 30, .inl (LI G))), (xO, .inl (cI, 30, .inl (LI X))), (yO, .inl (cI, 30, .inl (LI Y))), (dO, .inl (cI, 30, .inl (ZI DF1))), (zO, .inl (cI, 30, .inl (LI SF1))), (wO, .inl (cJ, 6001, .inr (.inl (LJ w)))), (mO, .inl (cJ, 6001, .inr (.inl (LJ v))))] H → va_D A [(mz, .inr (10, [.int (iZ ((0 : Nat) : Int)), .ref sA, .ref sB, .int (iZ ((rn : Nat) : Int)), .ref gO, .ref xO, .ref yO, .int (iZ ((k1 : Nat) : Int)), .ref dO, .ref zO, .ref wO, .ref mO, .int (iZ ((mn : Nat) : Int)), .ref aO, .ref bO, .int (iZ ((kc : Nat) : Int)), .ref uO, .ref vO, .int (iZ ((hT : Nat) : Int)), .int (iZ ((tu : Nat) : Int)), .int (iZ ((td : Nat) : Int)), .int (iZ ((ta : Nat) : Int)), .int (iZ ((tb : Nat) : Int)), .int (iZ ((tt : Nat) : Int)), .int (iZ ((tk : Nat) : Int)), .int (iZ ((tj : Nat) : Int))])), (gO, .inl (cI, 30, .inl (LI G))), (xO, .inl (cI, 30, .inl (LI X))), (yO, .inl (cI, 30, .inl (LI Y))), (dO, .inl (cI, 30, .inl (ZI DF1))), (zO, .inl (cI, 30, .inl (LI SF1))), (wO, .inl (cJ, 6001, .inr (.inl (LJ w)))), (mO, .inl (cJ, 6001, .inr (.inl (LJ v))))] → va_S A s.heap H locs → (ls : Array Slot) → lv_has ls 10 [(5, .int (iZ ((u : Nat) : Int))), (4, .int (iZ (((riN DF1 (u + 1) : Nat) : Int) - ((faN DF1 (u + 1) : Nat) : Int)))), (3, .int (iZ ((sgN DF1 (u + 1) : Nat) : Int))), (2, .int (iZ ((what : Nat) : Int))), (0, .ref mz)] → W p l e rmX11_turned s m args below meth c H locs 0 0 Q (F0 m 220 ls []) := by
                  intro w v hw0 H locs hP hD hS ls hl
                  refine lv_iinc (v := iZ ((u + 1 : Nat) : Int)) (lv' := [(5, .int (iZ ((u + 1 : Nat) : Int))), (4, .int (iZ (((riN DF1 (u + 1) : Nat) : Int) - ((faN DF1 (u + 1) : Nat) : Int)))), (3, .int (iZ ((sgN DF1 (u + 1) : Nat) : Int))), (2, .int (iZ ((what : Nat) : Int))), (0, .ref mz)]) hx hb dX11_turned_220 hl (k := 0) rfl (zi_inc (by omega)) (by decide) rfl (fun ls hl => ?_)
                  refine lv_goto (tgt := 71) hx hb dX11_turned_223 (by decide) ?_
                  exact ih_71 (u + 1) _ _ (by omega) hw0 (by omega) _ _ hP hD hS ls (lv_sub hl [0, 1, 2, 3, 4] rfl)
                have hdu := hDb u (by omega)
                have hau := abN_mono DF1 (show u + 1 ≤ k1 by omega)
                have hae : abN DF1 (u + 1) = abN DF1 u + (DF1 u).natAbs := rfl
                have hae2 := abN_eq DF1 u
                have hae3 := abN_eq DF1 (u + 1)
                have hsu : sgN DF1 u ≤ u := cnt_le _ _
                refine lv_aload_n hx hb dX11_turned_80 rfl (lv_at hl 4 rfl) ?_
                refine va_get (D := D) (ci := 10) (v := .ref dO) (C := RX11) (T := TX11) (N := 26) hx hb hts hh_1 hown hK hP 0 rfl rfl 8 (by decide) hh_5 (fun _ h9 => h9) rfl dX11_turned_81 ?_
                refine lv_iload hx hb dX11_turned_84 (lv_at hl 0 rfl) ?_
                refine za_iald hx hb hK hP 4 0 rfl rfl (u) (v := (DF1 u)) (by decide) rfl (by omega) (rfl) dX11_turned_86 ?_
                refine lv_istore (lv' := [(6, .int (iZ (DF1 u))), (5, .int (iZ ((u : Nat) : Int))), (4, .int (iZ (((riN DF1 u : Nat) : Int) - ((faN DF1 u : Nat) : Int)))), (3, .int (iZ ((sgN DF1 u : Nat) : Int))), (2, .int (iZ ((what : Nat) : Int))), (0, .ref mz)]) hx hb dX11_turned_87 hl (by decide) rfl (fun ls hl => ?_)
                refine lv_iload hx hb dX11_turned_89 (lv_at hl 2 rfl) ?_
                refine lv_iload hx hb dX11_turned_91 (lv_at hl 0 rfl) ?_
                refine zi_add (z := (((riN DF1 (u + 1) : Nat) : Int) - ((faN DF1 (u + 1) : Nat) : Int))) hx hb dX11_turned_93 (by have e8 : riN DF1 (u + 1) = riN DF1 u + (DF1 u).toNat := rfl; have e9 : faN DF1 (u + 1) = faN DF1 u + (-DF1 u).toNat := rfl; omega) ?_
                refine lv_istore (lv' := [(4, .int (iZ (((riN DF1 (u + 1) : Nat) : Int) - ((faN DF1 (u + 1) : Nat) : Int)))), (6, .int (iZ (DF1 u))), (5, .int (iZ ((u : Nat) : Int))), (3, .int (iZ ((sgN DF1 u : Nat) : Int))), (2, .int (iZ ((what : Nat) : Int))), (0, .ref mz)]) hx hb dX11_turned_94 hl (by decide) rfl (fun ls hl => ?_)
                refine lv_iload hx hb dX11_turned_96 (lv_at hl 1 rfl) ?_
                refine zb_if_eq (x := (DF1 u)) (tgt := 220) hx hb dX11_turned_98 (by decide) ⟨by omega, by omega⟩ (fun c_98 => ?_) (fun c_98 => ?_)
                · have e9 : sgN DF1 (u + 1) = sgN DF1 u := cnt_f (by simp; omega)
                  rw [← e9] at hl
                  exact pt_220 _ _ (fun j h9 => by rw [wz, if_pos (by omega)]; exact hw0 j h9) _ _ hP hD hS ls (lv_sub hl [2, 0, 3, 4, 5] rfl)
                · refine lv_iinc (v := iZ ((sgN DF1 (u + 1) : Nat) : Int)) (lv' := [(3, .int (iZ ((sgN DF1 (u + 1) : Nat) : Int))), (4, .int (iZ (((riN DF1 (u + 1) : Nat) : Int) - ((faN DF1 (u + 1) : Nat) : Int)))), (6, .int (iZ (DF1 u))), (5, .int (iZ ((u : Nat) : Int))), (2, .int (iZ ((what : Nat) : Int))), (0, .ref mz)]) hx hb dX11_turned_101 hl (k := 3) rfl (zi_inc (by have e9 : sgN DF1 (u + 1) = sgN DF1 u + 1 := cnt_t (by simp; omega); omega)) (by decide) rfl (fun ls hl => ?_)
                  refine zc_iconst (z := ((0 : Nat) : Int)) hx hb dX11_turned_104 (by decide) ?_
                  refine lv_istore (lv' := [(7, .int (iZ ((0 : Nat) : Int))), (3, .int (iZ ((sgN DF1 (u + 1) : Nat) : Int))), (4, .int (iZ (((riN DF1 (u + 1) : Nat) : Int) - ((faN DF1 (u + 1) : Nat) : Int)))), (6, .int (iZ (DF1 u))), (5, .int (iZ ((u : Nat) : Int))), (2, .int (iZ ((what : Nat) : Int))), (0, .ref mz)]) hx hb dX11_turned_105 hl (by decide) rfl (fun ls hl => ?_)
                  have pt_107 : ∀ h : Nat, ∀ (i : Nat) (v : Nat → Nat), (hi : i ≤ 6001) → (hv0 : ∀ j, j < i → v j = wz DF1 (u + 1) ((j : Int) - 3000)) → (hf : 6001 < i + h) → (H : Heap) → (locs : List Loc) → va_P D vwCl [(mz, .inr (10, [.int (iZ ((0 : Nat) : Int)), .ref sA, .ref sB, .int (iZ ((rn : Nat) : Int)), .ref gO, .ref xO, .ref yO, .int (iZ ((k1 : Nat) : Int)), .ref dO, .ref zO, .ref wO, .ref mO, .int (iZ ((mn : Nat) : Int)), .ref aO, .ref bO, .int (iZ ((kc : Nat) : Int)), .ref uO, .ref vO, .int (iZ ((hT : Nat) : Int)), .int (iZ ((tu : Nat) : Int)), .int (iZ ((td : Nat) : Int)), .int (iZ ((ta : Nat) : Int)), .int (iZ ((tb : Nat) : Int)), .int (iZ ((tt : Nat) : Int)), .int (iZ ((tk : Nat) : Int)), .int (iZ ((tj : Nat) : Int))])), (gO, .inl (cI, 30, .inl (LI G))), (xO, .inl (cI, 30, .inl (LI X))), (yO, .inl (cI, 30, .inl (LI Y))), (dO, .inl (cI, 30, .inl (ZI DF1))), (zO, .inl (cI, 30, .inl (LI SF1))), (wO, .inl (cJ, 6001, .inr (.inl (LJ w)))), (mO, .inl (cJ, 6001, .inr (.inl (LJ v))))] H → va_D A [(mz, .inr (10, [.int (iZ ((0 : Nat) : Int)), .ref sA, .ref sB, .int (iZ ((rn : Nat) : Int)), .ref gO, .ref xO, .ref yO, .int (iZ ((k1 : Nat) : Int)), .ref dO, .ref zO, .ref wO, .ref mO, .int (iZ ((mn : Nat) : Int)), .ref aO, .ref bO, .int (iZ ((kc : Nat) : Int)), .ref uO, .ref vO, .int (iZ ((hT : Nat) : Int)), .int (iZ ((tu : Nat) : Int)), .int (iZ ((td : Nat) : Int)), .int (iZ ((ta : Nat) : Int)), .int (iZ ((tb : Nat) : Int)), .int (iZ ((tt : Nat) : Int)), .int (iZ ((tk : Nat) : Int)), .int (iZ ((tj : Nat) : Int))])), (gO, .inl (cI, 30, .inl (LI G))), (xO, .inl (cI, 30, .inl (LI X))), (yO, .inl (cI, 30, .inl (LI Y))), (dO, .inl (cI, 30, .inl (ZI DF1))), (zO, .inl (cI, 30, .inl (LI SF1))), (wO, .inl (cJ, 6001, .inr (.inl (LJ w)))), (mO, .inl (cJ, 6001, .inr (.inl (LJ v))))] → va_S A s.heap H locs → (ls : Array Slot) → lv_has ls 10 [(7, .int (iZ ((i : Nat) : Int))), (6, .int (iZ (DF1 u))), (5, .int (iZ ((u : Nat) : Int))), (4, .int (iZ (((riN DF1 (u + 1) : Nat) : Int) - ((faN DF1 (u + 1) : Nat) : Int)))), (3, .int (iZ ((sgN DF1 (u + 1) : Nat) : Int))), (2, .int (iZ ((what : Nat) : Int))), (0, .ref mz)] → W p l e rmX11_turned s m args below meth c H locs 0 0 Q (F0 m 107 ls []) := by
                    intro h
                    induction h with
                    | zero =>
                      intro i v hi hv0 hf H locs hP hD hS ls hl
                      exfalso; omega
                    | succ h ih_107 =>
                      intro i v hi hv0 hf H locs hP hD hS ls hl
                      refine lv_iload hx hb dX11_turned_107 (lv_at hl 0 rfl) ?_
                      refine zc_sipush (z := ((6000 : Nat) : Int)) hx hb dX11_turned_109 (by decide) ?_
                      refine zb_icmp_gt (x := ((i : Nat) : Int)) (y := ((6000 : Nat) : Int)) (tgt := 189) hx hb dX11_turned_112 (by decide) ⟨by omega, by omega⟩ ⟨by decide, by decide⟩ (fun c_112 => ?_) (fun c_112 => ?_)
                      · have e9 : i = 6001 := by omega
                        rw [e9] at hv0
                        refine zc_iconst (z := ((0 : Nat) : Int)) hx hb dX11_turned_189 (by decide) ?_
                        refine lv_istore (lv' := [(7, .int (iZ ((0 : Nat) : Int))), (6, .int (iZ (DF1 u))), (5, .int (iZ ((u : Nat) : Int))), (4, .int (iZ (((riN DF1 (u + 1) : Nat) : Int) - ((faN DF1 (u + 1) : Nat) : Int)))), (3, .int (iZ ((sgN DF1 (u + 1) : Nat) : Int))), (2, .int (iZ ((what : Nat) : Int))), (0, .ref mz)]) hx hb dX11_turned_190 hl (by decide) rfl (fun ls hl => ?_)
                        have pt_192 : ∀ h : Nat, ∀ (i : Nat) (w : Nat → Nat), (hi : i ≤ 6001) → (hw1 : ∀ j, j < i → w j = wz DF1 (u + 1) ((j : Int) - 3000)) → (hf : 6001 < i + h) → (H : Heap) → (locs : List Loc) → va_P D vwCl [(mz, .inr (10, [.int (iZ ((0 : Nat) : Int)), .ref sA, .ref sB, .int (iZ ((rn : Nat) : Int)), .ref gO, .ref xO, .ref yO, .int (iZ ((k1 : Nat) : Int)), .ref dO, .ref zO, .ref wO, .ref mO, .int (iZ ((mn : Nat) : Int)), .ref aO, .ref bO, .int (iZ ((kc : Nat) : Int)), .ref uO, .ref vO, .int (iZ ((hT : Nat) : Int)), .int (iZ ((tu : Nat) : Int)), .int (iZ ((td : Nat) : Int)), .int (iZ ((ta : Nat) : Int)), .int (iZ ((tb : Nat) : Int)), .int (iZ ((tt : Nat) : Int)), .int (iZ ((tk : Nat) : Int)), .int (iZ ((tj : Nat) : Int))])), (gO, .inl (cI, 30, .inl (LI G))), (xO, .inl (cI, 30, .inl (LI X))), (yO, .inl (cI, 30, .inl (LI Y))), (dO, .inl (cI, 30, .inl (ZI DF1))), (zO, .inl (cI, 30, .inl (LI SF1))), (wO, .inl (cJ, 6001, .inr (.inl (LJ w)))), (mO, .inl (cJ, 6001, .inr (.inl (LJ v))))] H → va_D A [(mz, .inr (10, [.int (iZ ((0 : Nat) : Int)), .ref sA, .ref sB, .int (iZ ((rn : Nat) : Int)), .ref gO, .ref xO, .ref yO, .int (iZ ((k1 : Nat) : Int)), .ref dO, .ref zO, .ref wO, .ref mO, .int (iZ ((mn : Nat) : Int)), .ref aO, .ref bO, .int (iZ ((kc : Nat) : Int)), .ref uO, .ref vO, .int (iZ ((hT : Nat) : Int)), .int (iZ ((tu : Nat) : Int)), .int (iZ ((td : Nat) : Int)), .int (iZ ((ta : Nat) : Int)), .int (iZ ((tb : Nat) : Int)), .int (iZ ((tt : Nat) : Int)), .int (iZ ((tk : Nat) : Int)), .int (iZ ((tj : Nat) : Int))])), (gO, .inl (cI, 30, .inl (LI G))), (xO, .inl (cI, 30, .inl (LI X))), (yO, .inl (cI, 30, .inl (LI Y))), (dO, .inl (cI, 30, .inl (ZI DF1))), (zO, .inl (cI, 30, .inl (LI SF1))), (wO, .inl (cJ, 6001, .inr (.inl (LJ w)))), (mO, .inl (cJ, 6001, .inr (.inl (LJ v))))] → va_S A s.heap H locs → (ls : Array Slot) → lv_has ls 10 [(7, .int (iZ ((i : Nat) : Int))), (6, .int (iZ (DF1 u))), (5, .int (iZ ((u : Nat) : Int))), (4, .int (iZ (((riN DF1 (u + 1) : Nat) : Int) - ((faN DF1 (u + 1) : Nat) : Int)))), (3, .int (iZ ((sgN DF1 (u + 1) : Nat) : Int))), (2, .int (iZ ((what : Nat) : Int))), (0, .ref mz)] → W p l e rmX11_turned s m args below meth c H locs 0 0 Q (F0 m 192 ls []) := by
                          intro h
                          induction h with
                          | zero =>
                            intro i w hi hw1 hf H locs hP hD hS ls hl
                            exfalso; omega
                          | succ h ih_192 =>
                            intro i w hi hw1 hf H locs hP hD hS ls hl
                            refine lv_iload hx hb dX11_turned_192 (lv_at hl 0 rfl) ?_
                            refine zc_sipush (z := ((6000 : Nat) : Int)) hx hb dX11_turned_194 (by decide) ?_
                            refine zb_icmp_gt (x := ((i : Nat) : Int)) (y := ((6000 : Nat) : Int)) (tgt := 220) hx hb dX11_turned_197 (by decide) ⟨by omega, by omega⟩ ⟨by decide, by decide⟩ (fun c_197 => ?_) (fun c_197 => ?_)
                            · exact pt_220 _ _ (by have e9 : i = 6001 := (by omega); rw [e9] at hw1; exact hw1) _ _ hP hD hS ls (lv_sub hl [2, 3, 4, 5, 6] rfl)
                            · refine lv_aload_n hx hb dX11_turned_200 rfl (lv_at hl 6 rfl) ?_
                              refine va_get (D := D) (ci := 10) (v := .ref wO) (C := RX11) (T := TX11) (N := 26) hx hb hts hh_1 hown hK hP 0 rfl rfl 10 (by decide) hh_4 (fun _ h9 => h9) rfl dX11_turned_201 ?_
                              refine lv_iload hx hb dX11_turned_204 (lv_at hl 0 rfl) ?_
                              refine lv_aload_n hx hb dX11_turned_206 rfl (lv_at hl 6 rfl) ?_
                              refine va_get (D := D) (ci := 10) (v := .ref mO) (C := RX11) (T := TX11) (N := 26) hx hb hts hh_1 hown hK hP 0 rfl rfl 11 (by decide) hh_6 (fun _ h9 => h9) rfl dX11_turned_207 ?_
                              refine lv_iload hx hb dX11_turned_210 (lv_at hl 0 rfl) ?_
                              refine za_lald hx hb hK hP 7 1 rfl rfl (i) (v := ((v i : Nat) : Int)) (by decide) rfl (by omega) (rfl) dX11_turned_212 ?_
                              refine za_last hx hb hK hP hD hS 6 1 rfl rfl (i) (by decide) rfl (by omega) dX11_turned_213 (fun H locs hP hD hS => ?_)
                              have hP : va_P D vwCl [(mz, .inr (10, [.int (iZ ((0 : Nat) : Int)), .ref sA, .ref sB, .int (iZ ((rn : Nat) : Int)), .ref gO, .ref xO, .ref yO, .int (iZ ((k1 : Nat) : Int)), .ref dO, .ref zO, .ref wO, .ref mO, .int (iZ ((mn : Nat) : Int)), .ref aO, .ref bO, .int (iZ ((kc : Nat) : Int)), .ref uO, .ref vO, .int (iZ ((hT : Nat) : Int)), .int (iZ ((tu : Nat) : Int)), .int (iZ ((td : Nat) : Int)), .int (iZ ((ta : Nat) : Int)), .int (iZ ((tb : Nat) : Int)), .int (iZ ((tt : Nat) : Int)), .int (iZ ((tk : Nat) : Int)), .int (iZ ((tj : Nat) : Int))])), (gO, .inl (cI, 30, .inl (LI G))), (xO, .inl (cI, 30, .inl (LI X))), (yO, .inl (cI, 30, .inl (LI Y))), (dO, .inl (cI, 30, .inl (ZI DF1))), (zO, .inl (cI, 30, .inl (LI SF1))), (wO, .inl (cJ, 6001, .inr (.inl (vp_updL (LJ w) (i) ((lZ ((v i : Nat) : Int))))))), (mO, .inl (cJ, 6001, .inr (.inl (LJ v))))] H := hP
                              have hD : va_D A [(mz, .inr (10, [.int (iZ ((0 : Nat) : Int)), .ref sA, .ref sB, .int (iZ ((rn : Nat) : Int)), .ref gO, .ref xO, .ref yO, .int (iZ ((k1 : Nat) : Int)), .ref dO, .ref zO, .ref wO, .ref mO, .int (iZ ((mn : Nat) : Int)), .ref aO, .ref bO, .int (iZ ((kc : Nat) : Int)), .ref uO, .ref vO, .int (iZ ((hT : Nat) : Int)), .int (iZ ((tu : Nat) : Int)), .int (iZ ((td : Nat) : Int)), .int (iZ ((ta : Nat) : Int)), .int (iZ ((tb : Nat) : Int)), .int (iZ ((tt : Nat) : Int)), .int (iZ ((tk : Nat) : Int)), .int (iZ ((tj : Nat) : Int))])), (gO, .inl (cI, 30, .inl (LI G))), (xO, .inl (cI, 30, .inl (LI X))), (yO, .inl (cI, 30, .inl (LI Y))), (dO, .inl (cI, 30, .inl (ZI DF1))), (zO, .inl (cI, 30, .inl (LI SF1))), (wO, .inl (cJ, 6001, .inr (.inl (vp_updL (LJ w) (i) ((lZ ((v i : Nat) : Int))))))), (mO, .inl (cJ, 6001, .inr (.inl (LJ v))))] := hD
                              rw [LJ_up] at hP hD
                              have hP : va_P D vwCl [(mz, .inr (10, [.int (iZ ((0 : Nat) : Int)), .ref sA, .ref sB, .int (iZ ((rn : Nat) : Int)), .ref gO, .ref xO, .ref yO, .int (iZ ((k1 : Nat) : Int)), .ref dO, .ref zO, .ref wO, .ref mO, .int (iZ ((mn : Nat) : Int)), .ref aO, .ref bO, .int (iZ ((kc : Nat) : Int)), .ref uO, .ref vO, .int (iZ ((hT : Nat) : Int)), .int (iZ ((tu : Nat) : Int)), .int (iZ ((td : Nat) : Int)), .int (iZ ((ta : Nat) : Int)), .int (iZ ((tb : Nat) : Int)), .int (iZ ((tt : Nat) : Int)), .int (iZ ((tk : Nat) : Int)), .int (iZ ((tj : Nat) : Int))])), (gO, .inl (cI, 30, .inl (LI G))), (xO, .inl (cI, 30, .inl (LI X))), (yO, .inl (cI, 30, .inl (LI Y))), (dO, .inl (cI, 30, .inl (ZI DF1))), (zO, .inl (cI, 30, .inl (LI SF1))), (wO, .inl (cJ, 6001, .inr (.inl (LJ (nup w (i) (v i)))))), (mO, .inl (cJ, 6001, .inr (.inl (LJ v))))] H := hP
                              have hD : va_D A [(mz, .inr (10, [.int (iZ ((0 : Nat) : Int)), .ref sA, .ref sB, .int (iZ ((rn : Nat) : Int)), .ref gO, .ref xO, .ref yO, .int (iZ ((k1 : Nat) : Int)), .ref dO, .ref zO, .ref wO, .ref mO, .int (iZ ((mn : Nat) : Int)), .ref aO, .ref bO, .int (iZ ((kc : Nat) : Int)), .ref uO, .ref vO, .int (iZ ((hT : Nat) : Int)), .int (iZ ((tu : Nat) : Int)), .int (iZ ((td : Nat) : Int)), .int (iZ ((ta : Nat) : Int)), .int (iZ ((tb : Nat) : Int)), .int (iZ ((tt : Nat) : Int)), .int (iZ ((tk : Nat) : Int)), .int (iZ ((tj : Nat) : Int))])), (gO, .inl (cI, 30, .inl (LI G))), (xO, .inl (cI, 30, .inl (LI X))), (yO, .inl (cI, 30, .inl (LI Y))), (dO, .inl (cI, 30, .inl (ZI DF1))), (zO, .inl (cI, 30, .inl (LI SF1))), (wO, .inl (cJ, 6001, .inr (.inl (LJ (nup w (i) (v i)))))), (mO, .inl (cJ, 6001, .inr (.inl (LJ v))))] := hD
                              refine lv_iinc (v := iZ ((i + 1 : Nat) : Int)) (lv' := [(7, .int (iZ ((i + 1 : Nat) : Int))), (6, .int (iZ (DF1 u))), (5, .int (iZ ((u : Nat) : Int))), (4, .int (iZ (((riN DF1 (u + 1) : Nat) : Int) - ((faN DF1 (u + 1) : Nat) : Int)))), (3, .int (iZ ((sgN DF1 (u + 1) : Nat) : Int))), (2, .int (iZ ((what : Nat) : Int))), (0, .ref mz)]) hx hb dX11_turned_214 hl (k := 0) rfl (zi_inc (by omega)) (by decide) rfl (fun ls hl => ?_)
                              refine lv_goto (tgt := 192) hx hb dX11_turned_217 (by decide) ?_
                              exact ih_192 (i + 1) _ (by omega) (nup_all hw1 (hv0 i (by omega))) (by omega) _ _ hP hD hS ls (lv_sub hl [0, 1, 2, 3, 4, 5, 6] rfl)
                        exact pt_192 6002 0 _ (by omega) (fun j h9 => by omega) (by omega) _ _ hP hD hS ls (lv_sub hl [0, 1, 2, 3, 4, 5, 6] rfl)
                      · have pt_151 : (H : Heap) → (locs : List Loc) → va_P D vwCl [(mz, .inr (10, [.int (iZ ((0 : Nat) : Int)), .ref sA, .ref sB, .int (iZ ((rn : Nat) : Int)), .ref gO, .ref xO, .ref yO, .int (iZ ((k1 : Nat) : Int)), .ref dO, .ref zO, .ref wO, .ref mO, .int (iZ ((mn : Nat) : Int)), .ref aO, .ref bO, .int (iZ ((kc : Nat) : Int)), .ref uO, .ref vO, .int (iZ ((hT : Nat) : Int)), .int (iZ ((tu : Nat) : Int)), .int (iZ ((td : Nat) : Int)), .int (iZ ((ta : Nat) : Int)), .int (iZ ((tb : Nat) : Int)), .int (iZ ((tt : Nat) : Int)), .int (iZ ((tk : Nat) : Int)), .int (iZ ((tj : Nat) : Int))])), (gO, .inl (cI, 30, .inl (LI G))), (xO, .inl (cI, 30, .inl (LI X))), (yO, .inl (cI, 30, .inl (LI Y))), (dO, .inl (cI, 30, .inl (ZI DF1))), (zO, .inl (cI, 30, .inl (LI SF1))), (wO, .inl (cJ, 6001, .inr (.inl (LJ w)))), (mO, .inl (cJ, 6001, .inr (.inl (LJ v))))] H → va_D A [(mz, .inr (10, [.int (iZ ((0 : Nat) : Int)), .ref sA, .ref sB, .int (iZ ((rn : Nat) : Int)), .ref gO, .ref xO, .ref yO, .int (iZ ((k1 : Nat) : Int)), .ref dO, .ref zO, .ref wO, .ref mO, .int (iZ ((mn : Nat) : Int)), .ref aO, .ref bO, .int (iZ ((kc : Nat) : Int)), .ref uO, .ref vO, .int (iZ ((hT : Nat) : Int)), .int (iZ ((tu : Nat) : Int)), .int (iZ ((td : Nat) : Int)), .int (iZ ((ta : Nat) : Int)), .int (iZ ((tb : Nat) : Int)), .int (iZ ((tt : Nat) : Int)), .int (iZ ((tk : Nat) : Int)), .int (iZ ((tj : Nat) : Int))])), (gO, .inl (cI, 30, .inl (LI G))), (xO, .inl (cI, 30, .inl (LI X))), (yO, .inl (cI, 30, .inl (LI Y))), (dO, .inl (cI, 30, .inl (ZI DF1))), (zO, .inl (cI, 30, .inl (LI SF1))), (wO, .inl (cJ, 6001, .inr (.inl (LJ w)))), (mO, .inl (cJ, 6001, .inr (.inl (LJ v))))] → va_S A s.heap H locs → (ls : Array Slot) → lv_has ls 10 [(7, .int (iZ ((i : Nat) : Int))), (6, .int (iZ (DF1 u))), (5, .int (iZ ((u : Nat) : Int))), (4, .int (iZ (((riN DF1 (u + 1) : Nat) : Int) - ((faN DF1 (u + 1) : Nat) : Int)))), (3, .int (iZ ((sgN DF1 (u + 1) : Nat) : Int))), (2, .int (iZ ((what : Nat) : Int))), (0, .ref mz)] → W p l e rmX11_turned s m args below meth c H locs 0 0 Q (F0 m 151 ls [.long (lZ ((wz DF1 u ((i : Int) - 3000 - DF1 u) : Nat) : Int)), .int (iZ ((i : Nat) : Int)), .ref mO]) := by
                          intro   H locs hP hD hS ls hl
                          refine lv_iload hx hb dX11_turned_151 (lv_at hl 0 rfl) ?_
                          refine lv_iload hx hb dX11_turned_153 (lv_at hl 1 rfl) ?_
                          refine zi_add (z := (((i : Nat) : Int) + DF1 u)) hx hb dX11_turned_155 rfl ?_
                          refine z_i2l (z := (((i : Nat) : Int) + DF1 u)) hx hb dX11_turned_156 ⟨by omega, by omega⟩ rfl ?_
                          refine zc_lconst (z := ((0 : Nat) : Int)) hx hb dX11_turned_157 (by decide) ?_
                          refine lv_ldc2 hx hb hown hh_7 dX11_turned_158 (tp_l (y := lZ ((6000 : Nat) : Int)) (by decide) ?_)
                          refine ca_iS [.long (lZ (((i : Nat) : Int) + DF1 u)), .long (lZ ((0 : Nat) : Int)), .long (lZ ((6000 : Nat) : Int))] [.long (lZ ((wz DF1 u ((i : Int) - 3000 - DF1 u) : Nat) : Int)), .int (iZ ((i : Nat) : Int)), .ref mO] [(mz, .inr (10, [.int (iZ ((0 : Nat) : Int)), .ref sA, .ref sB, .int (iZ ((rn : Nat) : Int)), .ref gO, .ref xO, .ref yO, .int (iZ ((k1 : Nat) : Int)), .ref dO, .ref zO, .ref wO, .ref mO, .int (iZ ((mn : Nat) : Int)), .ref aO, .ref bO, .int (iZ ((kc : Nat) : Int)), .ref uO, .ref vO, .int (iZ ((hT : Nat) : Int)), .int (iZ ((tu : Nat) : Int)), .int (iZ ((td : Nat) : Int)), .int (iZ ((ta : Nat) : Int)), .int (iZ ((tb : Nat) : Int)), .int (iZ ((tt : Nat) : Int)), .int (iZ ((tk : Nat) : Int)), .int (iZ ((tj : Nat) : Int))])), (gO, .inl (cI, 30, .inl (LI G))), (xO, .inl (cI, 30, .inl (LI X))), (yO, .inl (cI, 30, .inl (LI Y))), (dO, .inl (cI, 30, .inl (ZI DF1))), (zO, .inl (cI, 30, .inl (LI SF1))), (wO, .inl (cJ, 6001, .inr (.inl (LJ w)))), (mO, .inl (cJ, 6001, .inr (.inl (LJ v))))] 0 0 ⟨hx, hb, hml, hown, hts⟩ (c_X11_in l D cI cJ (((i : Nat) : Int) + DF1 u) ((0 : Nat) : Int) ((6000 : Nat) : Int) ⟨by omega, by omega⟩ ⟨by omega, by omega⟩ ⟨by omega, by omega⟩) (va_cwS 3 hts gX11_turned_X11_in rfl rfl rfl (by decide +kernel) ⟨(Nat.le_of_ble_eq_true rfl), (Nat.le_of_ble_eq_true rfl)⟩) hK hP hD hS hA [] [0, 1, 2, 3, 4, 5, 6, 7] rfl rfl rfl rfl (by decide) rfl hl.1 rfl (Nat.le_of_ble_eq_true rfl) dX11_turned_161 ⟨(Nat.le_of_ble_eq_true rfl), (Nat.le_of_ble_eq_true rfl)⟩ (Nat.le_of_ble_eq_true rfl) (Nat.le_of_ble_eq_true rfl) (fun r_161 u9 H locs hw hP hD hS => ?_)
                          obtain u9 := u9
                          try dsimp only at hw
                          obtain ⟨b6, wa6, wb6, wc6⟩ := hw
                          have hP : va_P D vwCl [(mz, .inr (10, [.int (iZ ((0 : Nat) : Int)), .ref sA, .ref sB, .int (iZ ((rn : Nat) : Int)), .ref gO, .ref xO, .ref yO, .int (iZ ((k1 : Nat) : Int)), .ref dO, .ref zO, .ref wO, .ref mO, .int (iZ ((mn : Nat) : Int)), .ref aO, .ref bO, .int (iZ ((kc : Nat) : Int)), .ref uO, .ref vO, .int (iZ ((hT : Nat) : Int)), .int (iZ ((tu : Nat) : Int)), .int (iZ ((td : Nat) : Int)), .int (iZ ((ta : Nat) : Int)), .int (iZ ((tb : Nat) : Int)), .int (iZ ((tt : Nat) : Int)), .int (iZ ((tk : Nat) : Int)), .int (iZ ((tj : Nat) : Int))])), (gO, .inl (cI, 30, .inl (LI G))), (xO, .inl (cI, 30, .inl (LI X))), (yO, .inl (cI, 30, .inl (LI Y))), (dO, .inl (cI, 30, .inl (ZI DF1))), (zO, .inl (cI, 30, .inl (LI SF1))), (wO, .inl (cJ, 6001, .inr (.inl (LJ w)))), (mO, .inl (cJ, 6001, .inr (.inl (LJ v))))] H := hP
                          have hD : va_D A [(mz, .inr (10, [.int (iZ ((0 : Nat) : Int)), .ref sA, .ref sB, .int (iZ ((rn : Nat) : Int)), .ref gO, .ref xO, .ref yO, .int (iZ ((k1 : Nat) : Int)), .ref dO, .ref zO, .ref wO, .ref mO, .int (iZ ((mn : Nat) : Int)), .ref aO, .ref bO, .int (iZ ((kc : Nat) : Int)), .ref uO, .ref vO, .int (iZ ((hT : Nat) : Int)), .int (iZ ((tu : Nat) : Int)), .int (iZ ((td : Nat) : Int)), .int (iZ ((ta : Nat) : Int)), .int (iZ ((tb : Nat) : Int)), .int (iZ ((tt : Nat) : Int)), .int (iZ ((tk : Nat) : Int)), .int (iZ ((tj : Nat) : Int))])), (gO, .inl (cI, 30, .inl (LI G))), (xO, .inl (cI, 30, .inl (LI X))), (yO, .inl (cI, 30, .inl (LI Y))), (dO, .inl (cI, 30, .inl (ZI DF1))), (zO, .inl (cI, 30, .inl (LI SF1))), (wO, .inl (cJ, 6001, .inr (.inl (LJ w)))), (mO, .inl (cJ, 6001, .inr (.inl (LJ v))))] := hD
                          refine tp_i (y := (iZ (b6))) (wa6) ?_
                          refine zb_if_eq (x := (b6)) (tgt := 180) hx hb dX11_turned_164 (by decide) ⟨by omega, by omega⟩ (fun c_164 => ?_) (fun c_164 => ?_)
                          · refine zc_lconst (z := ((0 : Nat) : Int)) hx hb dX11_turned_180 (by decide) ?_
                            refine tp_l (y := (lZ ((wz DF1 u ((i : Int) - 3000 + DF1 u) : Nat) : Int))) (wz_out (by omega)) ?_
                            refine zl_add (z := ((wz DF1 (u + 1) ((i : Int) - 3000) : Nat) : Int)) hx hb dX11_turned_181 (by rw [wz, if_neg (by omega)]; omega) ?_
                            refine za_last hx hb hK hP hD hS 7 1 rfl rfl (i) (by decide) rfl (by omega) dX11_turned_182 (fun H locs hP hD hS => ?_)
                            have hP : va_P D vwCl [(mz, .inr (10, [.int (iZ ((0 : Nat) : Int)), .ref sA, .ref sB, .int (iZ ((rn : Nat) : Int)), .ref gO, .ref xO, .ref yO, .int (iZ ((k1 : Nat) : Int)), .ref dO, .ref zO, .ref wO, .ref mO, .int (iZ ((mn : Nat) : Int)), .ref aO, .ref bO, .int (iZ ((kc : Nat) : Int)), .ref uO, .ref vO, .int (iZ ((hT : Nat) : Int)), .int (iZ ((tu : Nat) : Int)), .int (iZ ((td : Nat) : Int)), .int (iZ ((ta : Nat) : Int)), .int (iZ ((tb : Nat) : Int)), .int (iZ ((tt : Nat) : Int)), .int (iZ ((tk : Nat) : Int)), .int (iZ ((tj : Nat) : Int))])), (gO, .inl (cI, 30, .inl (LI G))), (xO, .inl (cI, 30, .inl (LI X))), (yO, .inl (cI, 30, .inl (LI Y))), (dO, .inl (cI, 30, .inl (ZI DF1))), (zO, .inl (cI, 30, .inl (LI SF1))), (wO, .inl (cJ, 6001, .inr (.inl (LJ w)))), (mO, .inl (cJ, 6001, .inr (.inl (vp_updL (LJ v) (i) ((lZ ((wz DF1 (u + 1) ((i : Int) - 3000) : Nat) : Int)))))))] H := hP
                            have hD : va_D A [(mz, .inr (10, [.int (iZ ((0 : Nat) : Int)), .ref sA, .ref sB, .int (iZ ((rn : Nat) : Int)), .ref gO, .ref xO, .ref yO, .int (iZ ((k1 : Nat) : Int)), .ref dO, .ref zO, .ref wO, .ref mO, .int (iZ ((mn : Nat) : Int)), .ref aO, .ref bO, .int (iZ ((kc : Nat) : Int)), .ref uO, .ref vO, .int (iZ ((hT : Nat) : Int)), .int (iZ ((tu : Nat) : Int)), .int (iZ ((td : Nat) : Int)), .int (iZ ((ta : Nat) : Int)), .int (iZ ((tb : Nat) : Int)), .int (iZ ((tt : Nat) : Int)), .int (iZ ((tk : Nat) : Int)), .int (iZ ((tj : Nat) : Int))])), (gO, .inl (cI, 30, .inl (LI G))), (xO, .inl (cI, 30, .inl (LI X))), (yO, .inl (cI, 30, .inl (LI Y))), (dO, .inl (cI, 30, .inl (ZI DF1))), (zO, .inl (cI, 30, .inl (LI SF1))), (wO, .inl (cJ, 6001, .inr (.inl (LJ w)))), (mO, .inl (cJ, 6001, .inr (.inl (vp_updL (LJ v) (i) ((lZ ((wz DF1 (u + 1) ((i : Int) - 3000) : Nat) : Int)))))))] := hD
                            rw [LJ_up] at hP hD
                            have hP : va_P D vwCl [(mz, .inr (10, [.int (iZ ((0 : Nat) : Int)), .ref sA, .ref sB, .int (iZ ((rn : Nat) : Int)), .ref gO, .ref xO, .ref yO, .int (iZ ((k1 : Nat) : Int)), .ref dO, .ref zO, .ref wO, .ref mO, .int (iZ ((mn : Nat) : Int)), .ref aO, .ref bO, .int (iZ ((kc : Nat) : Int)), .ref uO, .ref vO, .int (iZ ((hT : Nat) : Int)), .int (iZ ((tu : Nat) : Int)), .int (iZ ((td : Nat) : Int)), .int (iZ ((ta : Nat) : Int)), .int (iZ ((tb : Nat) : Int)), .int (iZ ((tt : Nat) : Int)), .int (iZ ((tk : Nat) : Int)), .int (iZ ((tj : Nat) : Int))])), (gO, .inl (cI, 30, .inl (LI G))), (xO, .inl (cI, 30, .inl (LI X))), (yO, .inl (cI, 30, .inl (LI Y))), (dO, .inl (cI, 30, .inl (ZI DF1))), (zO, .inl (cI, 30, .inl (LI SF1))), (wO, .inl (cJ, 6001, .inr (.inl (LJ w)))), (mO, .inl (cJ, 6001, .inr (.inl (LJ (nup v (i) (wz DF1 (u + 1) ((i : Int) - 3000)))))))] H := hP
                            have hD : va_D A [(mz, .inr (10, [.int (iZ ((0 : Nat) : Int)), .ref sA, .ref sB, .int (iZ ((rn : Nat) : Int)), .ref gO, .ref xO, .ref yO, .int (iZ ((k1 : Nat) : Int)), .ref dO, .ref zO, .ref wO, .ref mO, .int (iZ ((mn : Nat) : Int)), .ref aO, .ref bO, .int (iZ ((kc : Nat) : Int)), .ref uO, .ref vO, .int (iZ ((hT : Nat) : Int)), .int (iZ ((tu : Nat) : Int)), .int (iZ ((td : Nat) : Int)), .int (iZ ((ta : Nat) : Int)), .int (iZ ((tb : Nat) : Int)), .int (iZ ((tt : Nat) : Int)), .int (iZ ((tk : Nat) : Int)), .int (iZ ((tj : Nat) : Int))])), (gO, .inl (cI, 30, .inl (LI G))), (xO, .inl (cI, 30, .inl (LI X))), (yO, .inl (cI, 30, .inl (LI Y))), (dO, .inl (cI, 30, .inl (ZI DF1))), (zO, .inl (cI, 30, .inl (LI SF1))), (wO, .inl (cJ, 6001, .inr (.inl (LJ w)))), (mO, .inl (cJ, 6001, .inr (.inl (LJ (nup v (i) (wz DF1 (u + 1) ((i : Int) - 3000)))))))] := hD
                            refine lv_iinc (v := iZ ((i + 1 : Nat) : Int)) (lv' := [(7, .int (iZ ((i + 1 : Nat) : Int))), (6, .int (iZ (DF1 u))), (5, .int (iZ ((u : Nat) : Int))), (4, .int (iZ (((riN DF1 (u + 1) : Nat) : Int) - ((faN DF1 (u + 1) : Nat) : Int)))), (3, .int (iZ ((sgN DF1 (u + 1) : Nat) : Int))), (2, .int (iZ ((what : Nat) : Int))), (0, .ref mz)]) hx hb dX11_turned_183 hl (k := 0) rfl (zi_inc (by omega)) (by decide) rfl (fun ls hl => ?_)
                            refine lv_goto (tgt := 107) hx hb dX11_turned_186 (by decide) ?_
                            exact ih_107 (i + 1) _ (by omega) (nup_all hv0 rfl) (by omega) _ _ hP hD hS ls (lv_sub hl [0, 1, 2, 3, 4, 5, 6] rfl)
                          · refine lv_aload_n hx hb dX11_turned_167 rfl (lv_at hl 6 rfl) ?_
                            refine va_get (D := D) (ci := 10) (v := .ref wO) (C := RX11) (T := TX11) (N := 26) hx hb hts hh_1 hown hK hP 0 rfl rfl 10 (by decide) hh_4 (fun _ h9 => h9) rfl dX11_turned_168 ?_
                            refine lv_iload hx hb dX11_turned_171 (lv_at hl 0 rfl) ?_
                            refine lv_iload hx hb dX11_turned_173 (lv_at hl 1 rfl) ?_
                            refine zi_add (z := (((i : Nat) : Int) + DF1 u)) hx hb dX11_turned_175 rfl ?_
                            refine za_lald hx hb hK hP 6 1 rfl rfl ((((i : Nat) : Int) + DF1 u).toNat) (v := ((w ((((i : Nat) : Int) + DF1 u).toNat) : Nat) : Int)) (by decide) (by omega) (by omega) (rfl) dX11_turned_176 ?_
                            refine tp_l (y := (lZ ((wz DF1 u ((i : Int) - 3000 + DF1 u) : Nat) : Int))) (wz_at hw0 (by omega) (by omega)) ?_
                            refine lv_goto (tgt := 181) hx hb dX11_turned_177 (by decide) ?_
                            refine zl_add (z := ((wz DF1 (u + 1) ((i : Int) - 3000) : Nat) : Int)) hx hb dX11_turned_181 (by rw [wz, if_neg (by omega)]; omega) ?_
                            refine za_last hx hb hK hP hD hS 7 1 rfl rfl (i) (by decide) rfl (by omega) dX11_turned_182 (fun H locs hP hD hS => ?_)
                            have hP : va_P D vwCl [(mz, .inr (10, [.int (iZ ((0 : Nat) : Int)), .ref sA, .ref sB, .int (iZ ((rn : Nat) : Int)), .ref gO, .ref xO, .ref yO, .int (iZ ((k1 : Nat) : Int)), .ref dO, .ref zO, .ref wO, .ref mO, .int (iZ ((mn : Nat) : Int)), .ref aO, .ref bO, .int (iZ ((kc : Nat) : Int)), .ref uO, .ref vO, .int (iZ ((hT : Nat) : Int)), .int (iZ ((tu : Nat) : Int)), .int (iZ ((td : Nat) : Int)), .int (iZ ((ta : Nat) : Int)), .int (iZ ((tb : Nat) : Int)), .int (iZ ((tt : Nat) : Int)), .int (iZ ((tk : Nat) : Int)), .int (iZ ((tj : Nat) : Int))])), (gO, .inl (cI, 30, .inl (LI G))), (xO, .inl (cI, 30, .inl (LI X))), (yO, .inl (cI, 30, .inl (LI Y))), (dO, .inl (cI, 30, .inl (ZI DF1))), (zO, .inl (cI, 30, .inl (LI SF1))), (wO, .inl (cJ, 6001, .inr (.inl (LJ w)))), (mO, .inl (cJ, 6001, .inr (.inl (vp_updL (LJ v) (i) ((lZ ((wz DF1 (u + 1) ((i : Int) - 3000) : Nat) : Int)))))))] H := hP
                            have hD : va_D A [(mz, .inr (10, [.int (iZ ((0 : Nat) : Int)), .ref sA, .ref sB, .int (iZ ((rn : Nat) : Int)), .ref gO, .ref xO, .ref yO, .int (iZ ((k1 : Nat) : Int)), .ref dO, .ref zO, .ref wO, .ref mO, .int (iZ ((mn : Nat) : Int)), .ref aO, .ref bO, .int (iZ ((kc : Nat) : Int)), .ref uO, .ref vO, .int (iZ ((hT : Nat) : Int)), .int (iZ ((tu : Nat) : Int)), .int (iZ ((td : Nat) : Int)), .int (iZ ((ta : Nat) : Int)), .int (iZ ((tb : Nat) : Int)), .int (iZ ((tt : Nat) : Int)), .int (iZ ((tk : Nat) : Int)), .int (iZ ((tj : Nat) : Int))])), (gO, .inl (cI, 30, .inl (LI G))), (xO, .inl (cI, 30, .inl (LI X))), (yO, .inl (cI, 30, .inl (LI Y))), (dO, .inl (cI, 30, .inl (ZI DF1))), (zO, .inl (cI, 30, .inl (LI SF1))), (wO, .inl (cJ, 6001, .inr (.inl (LJ w)))), (mO, .inl (cJ, 6001, .inr (.inl (vp_updL (LJ v) (i) ((lZ ((wz DF1 (u + 1) ((i : Int) - 3000) : Nat) : Int)))))))] := hD
                            rw [LJ_up] at hP hD
                            have hP : va_P D vwCl [(mz, .inr (10, [.int (iZ ((0 : Nat) : Int)), .ref sA, .ref sB, .int (iZ ((rn : Nat) : Int)), .ref gO, .ref xO, .ref yO, .int (iZ ((k1 : Nat) : Int)), .ref dO, .ref zO, .ref wO, .ref mO, .int (iZ ((mn : Nat) : Int)), .ref aO, .ref bO, .int (iZ ((kc : Nat) : Int)), .ref uO, .ref vO, .int (iZ ((hT : Nat) : Int)), .int (iZ ((tu : Nat) : Int)), .int (iZ ((td : Nat) : Int)), .int (iZ ((ta : Nat) : Int)), .int (iZ ((tb : Nat) : Int)), .int (iZ ((tt : Nat) : Int)), .int (iZ ((tk : Nat) : Int)), .int (iZ ((tj : Nat) : Int))])), (gO, .inl (cI, 30, .inl (LI G))), (xO, .inl (cI, 30, .inl (LI X))), (yO, .inl (cI, 30, .inl (LI Y))), (dO, .inl (cI, 30, .inl (ZI DF1))), (zO, .inl (cI, 30, .inl (LI SF1))), (wO, .inl (cJ, 6001, .inr (.inl (LJ w)))), (mO, .inl (cJ, 6001, .inr (.inl (LJ (nup v (i) (wz DF1 (u + 1) ((i : Int) - 3000)))))))] H := hP
                            have hD : va_D A [(mz, .inr (10, [.int (iZ ((0 : Nat) : Int)), .ref sA, .ref sB, .int (iZ ((rn : Nat) : Int)), .ref gO, .ref xO, .ref yO, .int (iZ ((k1 : Nat) : Int)), .ref dO, .ref zO, .ref wO, .ref mO, .int (iZ ((mn : Nat) : Int)), .ref aO, .ref bO, .int (iZ ((kc : Nat) : Int)), .ref uO, .ref vO, .int (iZ ((hT : Nat) : Int)), .int (iZ ((tu : Nat) : Int)), .int (iZ ((td : Nat) : Int)), .int (iZ ((ta : Nat) : Int)), .int (iZ ((tb : Nat) : Int)), .int (iZ ((tt : Nat) : Int)), .int (iZ ((tk : Nat) : Int)), .int (iZ ((tj : Nat) : Int))])), (gO, .inl (cI, 30, .inl (LI G))), (xO, .inl (cI, 30, .inl (LI X))), (yO, .inl (cI, 30, .inl (LI Y))), (dO, .inl (cI, 30, .inl (ZI DF1))), (zO, .inl (cI, 30, .inl (LI SF1))), (wO, .inl (cJ, 6001, .inr (.inl (LJ w)))), (mO, .inl (cJ, 6001, .inr (.inl (LJ (nup v (i) (wz DF1 (u + 1) ((i : Int) - 3000)))))))] := hD
                            refine lv_iinc (v := iZ ((i + 1 : Nat) : Int)) (lv' := [(7, .int (iZ ((i + 1 : Nat) : Int))), (6, .int (iZ (DF1 u))), (5, .int (iZ ((u : Nat) : Int))), (4, .int (iZ (((riN DF1 (u + 1) : Nat) : Int) - ((faN DF1 (u + 1) : Nat) : Int)))), (3, .int (iZ ((sgN DF1 (u + 1) : Nat) : Int))), (2, .int (iZ ((what : Nat) : Int))), (0, .ref mz)]) hx hb dX11_turned_183 hl (k := 0) rfl (zi_inc (by omega)) (by decide) rfl (fun ls hl => ?_)
                            refine lv_goto (tgt := 107) hx hb dX11_turned_186 (by decide) ?_
                            exact ih_107 (i + 1) _ (by omega) (nup_all hv0 rfl) (by omega) _ _ hP hD hS ls (lv_sub hl [0, 1, 2, 3, 4, 5, 6] rfl)
                        refine lv_aload_n hx hb dX11_turned_115 rfl (lv_at hl 6 rfl) ?_
                        refine va_get (D := D) (ci := 10) (v := .ref mO) (C := RX11) (T := TX11) (N := 26) hx hb hts hh_1 hown hK hP 0 rfl rfl 11 (by decide) hh_6 (fun _ h9 => h9) rfl dX11_turned_116 ?_
                        refine lv_iload hx hb dX11_turned_119 (lv_at hl 0 rfl) ?_
                        refine lv_iload hx hb dX11_turned_121 (lv_at hl 0 rfl) ?_
                        refine lv_iload hx hb dX11_turned_123 (lv_at hl 1 rfl) ?_
                        refine zi_sub (z := (((i : Nat) : Int) - DF1 u)) hx hb dX11_turned_125 rfl ?_
                        refine z_i2l (z := (((i : Nat) : Int) - DF1 u)) hx hb dX11_turned_126 ⟨by omega, by omega⟩ rfl ?_
                        refine zc_lconst (z := ((0 : Nat) : Int)) hx hb dX11_turned_127 (by decide) ?_
                        refine lv_ldc2 hx hb hown hh_7 dX11_turned_128 (tp_l (y := lZ ((6000 : Nat) : Int)) (by decide) ?_)
                        refine ca_iS [.long (lZ (((i : Nat) : Int) - DF1 u)), .long (lZ ((0 : Nat) : Int)), .long (lZ ((6000 : Nat) : Int))] [.int (iZ ((i : Nat) : Int)), .ref mO] [(mz, .inr (10, [.int (iZ ((0 : Nat) : Int)), .ref sA, .ref sB, .int (iZ ((rn : Nat) : Int)), .ref gO, .ref xO, .ref yO, .int (iZ ((k1 : Nat) : Int)), .ref dO, .ref zO, .ref wO, .ref mO, .int (iZ ((mn : Nat) : Int)), .ref aO, .ref bO, .int (iZ ((kc : Nat) : Int)), .ref uO, .ref vO, .int (iZ ((hT : Nat) : Int)), .int (iZ ((tu : Nat) : Int)), .int (iZ ((td : Nat) : Int)), .int (iZ ((ta : Nat) : Int)), .int (iZ ((tb : Nat) : Int)), .int (iZ ((tt : Nat) : Int)), .int (iZ ((tk : Nat) : Int)), .int (iZ ((tj : Nat) : Int))])), (gO, .inl (cI, 30, .inl (LI G))), (xO, .inl (cI, 30, .inl (LI X))), (yO, .inl (cI, 30, .inl (LI Y))), (dO, .inl (cI, 30, .inl (ZI DF1))), (zO, .inl (cI, 30, .inl (LI SF1))), (wO, .inl (cJ, 6001, .inr (.inl (LJ w)))), (mO, .inl (cJ, 6001, .inr (.inl (LJ v))))] 0 0 ⟨hx, hb, hml, hown, hts⟩ (c_X11_in l D cI cJ (((i : Nat) : Int) - DF1 u) ((0 : Nat) : Int) ((6000 : Nat) : Int) ⟨by omega, by omega⟩ ⟨by omega, by omega⟩ ⟨by omega, by omega⟩) (va_cwS 3 hts gX11_turned_X11_in rfl rfl rfl (by decide +kernel) ⟨(Nat.le_of_ble_eq_true rfl), (Nat.le_of_ble_eq_true rfl)⟩) hK hP hD hS hA [] [0, 1, 2, 3, 4, 5, 6, 7] rfl rfl rfl rfl (by decide) rfl hl.1 rfl (Nat.le_of_ble_eq_true rfl) dX11_turned_131 ⟨(Nat.le_of_ble_eq_true rfl), (Nat.le_of_ble_eq_true rfl)⟩ (Nat.le_of_ble_eq_true rfl) (Nat.le_of_ble_eq_true rfl) (fun r_131 u9 H locs hw hP hD hS => ?_)
                        obtain u9 := u9
                        try dsimp only at hw
                        obtain ⟨b5, wa5, wb5, wc5⟩ := hw
                        have hP : va_P D vwCl [(mz, .inr (10, [.int (iZ ((0 : Nat) : Int)), .ref sA, .ref sB, .int (iZ ((rn : Nat) : Int)), .ref gO, .ref xO, .ref yO, .int (iZ ((k1 : Nat) : Int)), .ref dO, .ref zO, .ref wO, .ref mO, .int (iZ ((mn : Nat) : Int)), .ref aO, .ref bO, .int (iZ ((kc : Nat) : Int)), .ref uO, .ref vO, .int (iZ ((hT : Nat) : Int)), .int (iZ ((tu : Nat) : Int)), .int (iZ ((td : Nat) : Int)), .int (iZ ((ta : Nat) : Int)), .int (iZ ((tb : Nat) : Int)), .int (iZ ((tt : Nat) : Int)), .int (iZ ((tk : Nat) : Int)), .int (iZ ((tj : Nat) : Int))])), (gO, .inl (cI, 30, .inl (LI G))), (xO, .inl (cI, 30, .inl (LI X))), (yO, .inl (cI, 30, .inl (LI Y))), (dO, .inl (cI, 30, .inl (ZI DF1))), (zO, .inl (cI, 30, .inl (LI SF1))), (wO, .inl (cJ, 6001, .inr (.inl (LJ w)))), (mO, .inl (cJ, 6001, .inr (.inl (LJ v))))] H := hP
                        have hD : va_D A [(mz, .inr (10, [.int (iZ ((0 : Nat) : Int)), .ref sA, .ref sB, .int (iZ ((rn : Nat) : Int)), .ref gO, .ref xO, .ref yO, .int (iZ ((k1 : Nat) : Int)), .ref dO, .ref zO, .ref wO, .ref mO, .int (iZ ((mn : Nat) : Int)), .ref aO, .ref bO, .int (iZ ((kc : Nat) : Int)), .ref uO, .ref vO, .int (iZ ((hT : Nat) : Int)), .int (iZ ((tu : Nat) : Int)), .int (iZ ((td : Nat) : Int)), .int (iZ ((ta : Nat) : Int)), .int (iZ ((tb : Nat) : Int)), .int (iZ ((tt : Nat) : Int)), .int (iZ ((tk : Nat) : Int)), .int (iZ ((tj : Nat) : Int))])), (gO, .inl (cI, 30, .inl (LI G))), (xO, .inl (cI, 30, .inl (LI X))), (yO, .inl (cI, 30, .inl (LI Y))), (dO, .inl (cI, 30, .inl (ZI DF1))), (zO, .inl (cI, 30, .inl (LI SF1))), (wO, .inl (cJ, 6001, .inr (.inl (LJ w)))), (mO, .inl (cJ, 6001, .inr (.inl (LJ v))))] := hD
                        refine tp_i (y := (iZ (b5))) (wa5) ?_
                        refine zb_if_eq (x := (b5)) (tgt := 150) hx hb dX11_turned_134 (by decide) ⟨by omega, by omega⟩ (fun c_134 => ?_) (fun c_134 => ?_)
                        · refine zc_lconst (z := ((0 : Nat) : Int)) hx hb dX11_turned_150 (by decide) ?_
                          refine tp_l (y := (lZ ((wz DF1 u ((i : Int) - 3000 - DF1 u) : Nat) : Int))) (wz_out (by omega)) ?_
                          exact pt_151   _ _ hP hD hS ls (lv_sub hl [0, 1, 2, 3, 4, 5, 6] rfl)
                        · refine lv_aload_n hx hb dX11_turned_137 rfl (lv_at hl 6 rfl) ?_
                          refine va_get (D := D) (ci := 10) (v := .ref wO) (C := RX11) (T := TX11) (N := 26) hx hb hts hh_1 hown hK hP 0 rfl rfl 10 (by decide) hh_4 (fun _ h9 => h9) rfl dX11_turned_138 ?_
                          refine lv_iload hx hb dX11_turned_141 (lv_at hl 0 rfl) ?_
                          refine lv_iload hx hb dX11_turned_143 (lv_at hl 1 rfl) ?_
                          refine zi_sub (z := (((i : Nat) : Int) - DF1 u)) hx hb dX11_turned_145 rfl ?_
                          refine za_lald hx hb hK hP 6 1 rfl rfl ((((i : Nat) : Int) - DF1 u).toNat) (v := ((w ((((i : Nat) : Int) - DF1 u).toNat) : Nat) : Int)) (by decide) (by omega) (by omega) (rfl) dX11_turned_146 ?_
                          refine tp_l (y := (lZ ((wz DF1 u ((i : Int) - 3000 - DF1 u) : Nat) : Int))) (wz_at hw0 (by omega) (by omega)) ?_
                          refine lv_goto (tgt := 151) hx hb dX11_turned_147 (by decide) ?_
                          exact pt_151   _ _ hP hD hS ls (lv_sub hl [0, 1, 2, 3, 4, 5, 6] rfl)
                  exact pt_107 6002 0 _ (by omega) (fun j h9 => by omega) (by omega) _ _ hP hD hS ls (lv_sub hl [0, 3, 4, 2, 1, 5, 6] rfl)
          exact pt_71 (k1 + 1) 0 _ _ (by omega) (by have e9 : i = 6001 := (by omega); rw [e9] at hw0; exact hw0) (by omega) _ _ hP hD hS ls (lv_sub hl [0, 1, 2, 3, 4] rfl)
        · refine lv_aload_n hx hb dX11_turned_42 rfl (lv_at hl 4 rfl) ?_
          refine va_get (D := D) (ci := 10) (v := .ref wO) (C := RX11) (T := TX11) (N := 26) hx hb hts hh_1 hown hK hP 0 rfl rfl 10 (by decide) hh_4 (fun _ h9 => h9) rfl dX11_turned_43 ?_
          refine lv_iload hx hb dX11_turned_46 (lv_at hl 0 rfl) ?_
          refine lv_iload hx hb dX11_turned_48 (lv_at hl 0 rfl) ?_
          refine zc_sipush (z := ((3000 : Nat) : Int)) hx hb dX11_turned_50 (by decide) ?_
          refine zb_icmp_ne (x := ((i : Nat) : Int)) (y := ((3000 : Nat) : Int)) (tgt := 60) hx hb dX11_turned_53 (by decide) ⟨by omega, by omega⟩ ⟨by decide, by decide⟩ (fun c_53 => ?_) (fun c_53 => ?_)
          · refine zc_lconst (z := ((0 : Nat) : Int)) hx hb dX11_turned_60 (by decide) ?_
            refine za_last hx hb hK hP hD hS 6 1 rfl rfl (i) (by decide) rfl (by omega) dX11_turned_61 (fun H locs hP hD hS => ?_)
            have hP : va_P D vwCl [(mz, .inr (10, [.int (iZ ((0 : Nat) : Int)), .ref sA, .ref sB, .int (iZ ((rn : Nat) : Int)), .ref gO, .ref xO, .ref yO, .int (iZ ((k1 : Nat) : Int)), .ref dO, .ref zO, .ref wO, .ref mO, .int (iZ ((mn : Nat) : Int)), .ref aO, .ref bO, .int (iZ ((kc : Nat) : Int)), .ref uO, .ref vO, .int (iZ ((hT : Nat) : Int)), .int (iZ ((tu : Nat) : Int)), .int (iZ ((td : Nat) : Int)), .int (iZ ((ta : Nat) : Int)), .int (iZ ((tb : Nat) : Int)), .int (iZ ((tt : Nat) : Int)), .int (iZ ((tk : Nat) : Int)), .int (iZ ((tj : Nat) : Int))])), (gO, .inl (cI, 30, .inl (LI G))), (xO, .inl (cI, 30, .inl (LI X))), (yO, .inl (cI, 30, .inl (LI Y))), (dO, .inl (cI, 30, .inl (ZI DF1))), (zO, .inl (cI, 30, .inl (LI SF1))), (wO, .inl (cJ, 6001, .inr (.inl (vp_updL (LJ w) (i) ((lZ ((0 : Nat) : Int))))))), (mO, .inl (cJ, 6001, .inr (.inl (LJ v))))] H := hP
            have hD : va_D A [(mz, .inr (10, [.int (iZ ((0 : Nat) : Int)), .ref sA, .ref sB, .int (iZ ((rn : Nat) : Int)), .ref gO, .ref xO, .ref yO, .int (iZ ((k1 : Nat) : Int)), .ref dO, .ref zO, .ref wO, .ref mO, .int (iZ ((mn : Nat) : Int)), .ref aO, .ref bO, .int (iZ ((kc : Nat) : Int)), .ref uO, .ref vO, .int (iZ ((hT : Nat) : Int)), .int (iZ ((tu : Nat) : Int)), .int (iZ ((td : Nat) : Int)), .int (iZ ((ta : Nat) : Int)), .int (iZ ((tb : Nat) : Int)), .int (iZ ((tt : Nat) : Int)), .int (iZ ((tk : Nat) : Int)), .int (iZ ((tj : Nat) : Int))])), (gO, .inl (cI, 30, .inl (LI G))), (xO, .inl (cI, 30, .inl (LI X))), (yO, .inl (cI, 30, .inl (LI Y))), (dO, .inl (cI, 30, .inl (ZI DF1))), (zO, .inl (cI, 30, .inl (LI SF1))), (wO, .inl (cJ, 6001, .inr (.inl (vp_updL (LJ w) (i) ((lZ ((0 : Nat) : Int))))))), (mO, .inl (cJ, 6001, .inr (.inl (LJ v))))] := hD
            rw [LJ_up] at hP hD
            have hP : va_P D vwCl [(mz, .inr (10, [.int (iZ ((0 : Nat) : Int)), .ref sA, .ref sB, .int (iZ ((rn : Nat) : Int)), .ref gO, .ref xO, .ref yO, .int (iZ ((k1 : Nat) : Int)), .ref dO, .ref zO, .ref wO, .ref mO, .int (iZ ((mn : Nat) : Int)), .ref aO, .ref bO, .int (iZ ((kc : Nat) : Int)), .ref uO, .ref vO, .int (iZ ((hT : Nat) : Int)), .int (iZ ((tu : Nat) : Int)), .int (iZ ((td : Nat) : Int)), .int (iZ ((ta : Nat) : Int)), .int (iZ ((tb : Nat) : Int)), .int (iZ ((tt : Nat) : Int)), .int (iZ ((tk : Nat) : Int)), .int (iZ ((tj : Nat) : Int))])), (gO, .inl (cI, 30, .inl (LI G))), (xO, .inl (cI, 30, .inl (LI X))), (yO, .inl (cI, 30, .inl (LI Y))), (dO, .inl (cI, 30, .inl (ZI DF1))), (zO, .inl (cI, 30, .inl (LI SF1))), (wO, .inl (cJ, 6001, .inr (.inl (LJ (nup w (i) (0)))))), (mO, .inl (cJ, 6001, .inr (.inl (LJ v))))] H := hP
            have hD : va_D A [(mz, .inr (10, [.int (iZ ((0 : Nat) : Int)), .ref sA, .ref sB, .int (iZ ((rn : Nat) : Int)), .ref gO, .ref xO, .ref yO, .int (iZ ((k1 : Nat) : Int)), .ref dO, .ref zO, .ref wO, .ref mO, .int (iZ ((mn : Nat) : Int)), .ref aO, .ref bO, .int (iZ ((kc : Nat) : Int)), .ref uO, .ref vO, .int (iZ ((hT : Nat) : Int)), .int (iZ ((tu : Nat) : Int)), .int (iZ ((td : Nat) : Int)), .int (iZ ((ta : Nat) : Int)), .int (iZ ((tb : Nat) : Int)), .int (iZ ((tt : Nat) : Int)), .int (iZ ((tk : Nat) : Int)), .int (iZ ((tj : Nat) : Int))])), (gO, .inl (cI, 30, .inl (LI G))), (xO, .inl (cI, 30, .inl (LI X))), (yO, .inl (cI, 30, .inl (LI Y))), (dO, .inl (cI, 30, .inl (ZI DF1))), (zO, .inl (cI, 30, .inl (LI SF1))), (wO, .inl (cJ, 6001, .inr (.inl (LJ (nup w (i) (0)))))), (mO, .inl (cJ, 6001, .inr (.inl (LJ v))))] := hD
            refine lv_iinc (v := iZ ((i + 1 : Nat) : Int)) (lv' := [(5, .int (iZ ((i + 1 : Nat) : Int))), (4, .int (iZ ((0 : Nat) : Int))), (3, .int (iZ ((0 : Nat) : Int))), (2, .int (iZ ((what : Nat) : Int))), (0, .ref mz)]) hx hb dX11_turned_62 hl (k := 0) rfl (zi_inc (by omega)) (by decide) rfl (fun ls hl => ?_)
            refine lv_goto (tgt := 34) hx hb dX11_turned_65 (by decide) ?_
            exact ih_34 (i + 1) _ (by omega) (nup_all hw0 (by rw [wz]; first | (rw [if_pos (by omega)]) | (rw [if_neg (by omega)]))) (by omega) _ _ hP hD hS ls (lv_sub hl [0, 1, 2, 3, 4] rfl)
          · refine zc_lconst (z := ((1 : Nat) : Int)) hx hb dX11_turned_56 (by decide) ?_
            refine lv_goto (tgt := 61) hx hb dX11_turned_57 (by decide) ?_
            refine za_last hx hb hK hP hD hS 6 1 rfl rfl (i) (by decide) rfl (by omega) dX11_turned_61 (fun H locs hP hD hS => ?_)
            have hP : va_P D vwCl [(mz, .inr (10, [.int (iZ ((0 : Nat) : Int)), .ref sA, .ref sB, .int (iZ ((rn : Nat) : Int)), .ref gO, .ref xO, .ref yO, .int (iZ ((k1 : Nat) : Int)), .ref dO, .ref zO, .ref wO, .ref mO, .int (iZ ((mn : Nat) : Int)), .ref aO, .ref bO, .int (iZ ((kc : Nat) : Int)), .ref uO, .ref vO, .int (iZ ((hT : Nat) : Int)), .int (iZ ((tu : Nat) : Int)), .int (iZ ((td : Nat) : Int)), .int (iZ ((ta : Nat) : Int)), .int (iZ ((tb : Nat) : Int)), .int (iZ ((tt : Nat) : Int)), .int (iZ ((tk : Nat) : Int)), .int (iZ ((tj : Nat) : Int))])), (gO, .inl (cI, 30, .inl (LI G))), (xO, .inl (cI, 30, .inl (LI X))), (yO, .inl (cI, 30, .inl (LI Y))), (dO, .inl (cI, 30, .inl (ZI DF1))), (zO, .inl (cI, 30, .inl (LI SF1))), (wO, .inl (cJ, 6001, .inr (.inl (vp_updL (LJ w) (i) ((lZ ((1 : Nat) : Int))))))), (mO, .inl (cJ, 6001, .inr (.inl (LJ v))))] H := hP
            have hD : va_D A [(mz, .inr (10, [.int (iZ ((0 : Nat) : Int)), .ref sA, .ref sB, .int (iZ ((rn : Nat) : Int)), .ref gO, .ref xO, .ref yO, .int (iZ ((k1 : Nat) : Int)), .ref dO, .ref zO, .ref wO, .ref mO, .int (iZ ((mn : Nat) : Int)), .ref aO, .ref bO, .int (iZ ((kc : Nat) : Int)), .ref uO, .ref vO, .int (iZ ((hT : Nat) : Int)), .int (iZ ((tu : Nat) : Int)), .int (iZ ((td : Nat) : Int)), .int (iZ ((ta : Nat) : Int)), .int (iZ ((tb : Nat) : Int)), .int (iZ ((tt : Nat) : Int)), .int (iZ ((tk : Nat) : Int)), .int (iZ ((tj : Nat) : Int))])), (gO, .inl (cI, 30, .inl (LI G))), (xO, .inl (cI, 30, .inl (LI X))), (yO, .inl (cI, 30, .inl (LI Y))), (dO, .inl (cI, 30, .inl (ZI DF1))), (zO, .inl (cI, 30, .inl (LI SF1))), (wO, .inl (cJ, 6001, .inr (.inl (vp_updL (LJ w) (i) ((lZ ((1 : Nat) : Int))))))), (mO, .inl (cJ, 6001, .inr (.inl (LJ v))))] := hD
            rw [LJ_up] at hP hD
            have hP : va_P D vwCl [(mz, .inr (10, [.int (iZ ((0 : Nat) : Int)), .ref sA, .ref sB, .int (iZ ((rn : Nat) : Int)), .ref gO, .ref xO, .ref yO, .int (iZ ((k1 : Nat) : Int)), .ref dO, .ref zO, .ref wO, .ref mO, .int (iZ ((mn : Nat) : Int)), .ref aO, .ref bO, .int (iZ ((kc : Nat) : Int)), .ref uO, .ref vO, .int (iZ ((hT : Nat) : Int)), .int (iZ ((tu : Nat) : Int)), .int (iZ ((td : Nat) : Int)), .int (iZ ((ta : Nat) : Int)), .int (iZ ((tb : Nat) : Int)), .int (iZ ((tt : Nat) : Int)), .int (iZ ((tk : Nat) : Int)), .int (iZ ((tj : Nat) : Int))])), (gO, .inl (cI, 30, .inl (LI G))), (xO, .inl (cI, 30, .inl (LI X))), (yO, .inl (cI, 30, .inl (LI Y))), (dO, .inl (cI, 30, .inl (ZI DF1))), (zO, .inl (cI, 30, .inl (LI SF1))), (wO, .inl (cJ, 6001, .inr (.inl (LJ (nup w (i) (1)))))), (mO, .inl (cJ, 6001, .inr (.inl (LJ v))))] H := hP
            have hD : va_D A [(mz, .inr (10, [.int (iZ ((0 : Nat) : Int)), .ref sA, .ref sB, .int (iZ ((rn : Nat) : Int)), .ref gO, .ref xO, .ref yO, .int (iZ ((k1 : Nat) : Int)), .ref dO, .ref zO, .ref wO, .ref mO, .int (iZ ((mn : Nat) : Int)), .ref aO, .ref bO, .int (iZ ((kc : Nat) : Int)), .ref uO, .ref vO, .int (iZ ((hT : Nat) : Int)), .int (iZ ((tu : Nat) : Int)), .int (iZ ((td : Nat) : Int)), .int (iZ ((ta : Nat) : Int)), .int (iZ ((tb : Nat) : Int)), .int (iZ ((tt : Nat) : Int)), .int (iZ ((tk : Nat) : Int)), .int (iZ ((tj : Nat) : Int))])), (gO, .inl (cI, 30, .inl (LI G))), (xO, .inl (cI, 30, .inl (LI X))), (yO, .inl (cI, 30, .inl (LI Y))), (dO, .inl (cI, 30, .inl (ZI DF1))), (zO, .inl (cI, 30, .inl (LI SF1))), (wO, .inl (cJ, 6001, .inr (.inl (LJ (nup w (i) (1)))))), (mO, .inl (cJ, 6001, .inr (.inl (LJ v))))] := hD
            refine lv_iinc (v := iZ ((i + 1 : Nat) : Int)) (lv' := [(5, .int (iZ ((i + 1 : Nat) : Int))), (4, .int (iZ ((0 : Nat) : Int))), (3, .int (iZ ((0 : Nat) : Int))), (2, .int (iZ ((what : Nat) : Int))), (0, .ref mz)]) hx hb dX11_turned_62 hl (k := 0) rfl (zi_inc (by omega)) (by decide) rfl (fun ls hl => ?_)
            refine lv_goto (tgt := 34) hx hb dX11_turned_65 (by decide) ?_
            exact ih_34 (i + 1) _ (by omega) (nup_all hw0 (by rw [wz]; first | (rw [if_pos (by omega)]) | (rw [if_neg (by omega)]))) (by omega) _ _ hP hD hS ls (lv_sub hl [0, 1, 2, 3, 4] rfl)
    exact pt_34 6002 0 _ (by omega) (fun j h9 => by omega) (by omega) _ _ (hP.sub [2, 3, 4, 5, 6, 7, 0, 1] rfl) (hD.sub [2, 3, 4, 5, 6, 7, 0, 1] rfl rfl) hS ls (lv_sub hl [0, 1, 2, 5, 3] rfl)
  · refine lv_ldc2 hx hb hown hh_8 dX11_turned_17 (tp_l (y := lZ (-1 : Int)) (by decide) ?_)
    exact hret _ ((un, DF, SF), w, v) _ _ _ _ _ _ (Nat.le_of_ble_eq_true rfl) (Nat.le_of_ble_eq_true rfl) dX11_turned_20 (⟨fun h9 => absurd h9 (by omega), fun _ => rfl⟩) hP hD hS

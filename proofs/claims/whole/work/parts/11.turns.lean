def sumN (f : Nat → Nat) : Nat → Nat
  | 0 => 0
  | k + 1 => sumN f k + f k
theorem sumN_s (f : Nat → Nat) (k : Nat) : sumN f (k + 1) = sumN f k + f k := rfl
theorem sumN_congr {f g : Nat → Nat} : ∀ {k : Nat}, (∀ i, i < k → f i = g i) → sumN f k = sumN g k
  | 0, _ => rfl
  | k + 1, H => by rw [sumN_s, sumN_s, sumN_congr (fun i hi => H i (by omega)), H k (by omega)]
theorem sumN_mono (f : Nat → Nat) : ∀ {k n : Nat}, k ≤ n → sumN f k ≤ sumN f n
  | k, 0, h => by have e : k = 0 := by omega
                  subst e; exact Nat.le_refl _
  | k, n + 1, h => by
    rcases (show k = n + 1 ∨ k ≤ n by omega) with e | e
    · subst e; exact Nat.le_refl _
    · have := sumN_mono f e; rw [sumN_s]; omega
/-- how many signs there are, what rises, what falls, of the first k units -/
def sgN (DF : Nat → Int) (k : Nat) : Nat := cnt (fun i => decide (DF i ≠ 0)) k
def riN (DF : Nat → Int) (k : Nat) : Nat := sumN (fun i => (DF i).toNat) k
def faN (DF : Nat → Int) (k : Nat) : Nat := sumN (fun i => (-DF i).toNat) k
def abN (DF : Nat → Int) (k : Nat) : Nat := sumN (fun i => (DF i).natAbs) k
theorem abN_eq (DF : Nat → Int) : ∀ k : Nat, abN DF k = riN DF k + faN DF k
  | 0 => rfl
  | k + 1 => by
    have := abN_eq DF k
    unfold abN riN faN at *
    rw [sumN_s, sumN_s, sumN_s, this]
    omega
/-- in how many ways of the first k units just x bears the minus sign -/
def subP (DF : Nat → Int) : Nat → Nat → Nat
  | 0, x => if x = 0 then 1 else 0
  | k + 1, x => if DF k = 0 then subP DF k x else subP DF k x + (if (DF k).natAbs ≤ x then subP DF k (x - (DF k).natAbs) else 0)
theorem subP_big (DF : Nat → Int) : ∀ {k x : Nat}, abN DF k < x → subP DF k x = 0
  | 0, x, h => by
    have h2 : (0 : Nat) < x := h
    rw [subP, if_neg (by omega)]
  | k + 1, x, h => by
    have e : abN DF (k + 1) = abN DF k + (DF k).natAbs := rfl
    rw [subP]
    split
    · exact subP_big DF (by omega)
    · rw [subP_big DF (show abN DF k < x by omega)]
      split
      · rw [subP_big DF (show abN DF k < x - (DF k).natAbs by omega)]
      · rfl
def tsN (w : Nat → Nat) (z : Nat) (j : Nat) : Nat := w j + (if z ≤ j then w (j - z) else 0)
def rmX7_init : Room := { frames := 1, cells := 1, slots := 1501, locals := 12 }
set_option maxHeartbeats 4000000 in
set_option maxRecDepth 100000 in
theorem c_X7_init (l : Launch) (D : va_G) (cI cJ : ClassId) (h0 : Nat) : Cv l D vwCl (tyT cI cJ) yX7_init wsX7_init rmX7_init [.ref h0] [(h0, .inr (6, [.null, .int (iZ ((0 : Nat) : Int)), .int (iZ ((0 : Nat) : Int)), .int (iZ ((0 : Nat) : Int))]))] (Nat) (fun _ => True) (fun q => [(h0, .inr (6, [.ref q, .int (iZ ((0 : Nat) : Int)), .int (iZ ((0 : Nat) : Int)), .int (iZ ((0 : Nat) : Int))])), (q, .inl (cJ, 1501, .inr (.inl (LJ ((fun _ => 0))))))]) := by
  refine en_v (cc := cX7_init) (maxL := 1) (by decide) rfl [(0, .ref h0)] (Nat.le_of_ble_eq_true rfl) rfl ?_
  intro p e s m args below meth c Q A hx hb hml hown hts hnm hK hP hD hA hS hret ls hl
  have hh_0 := hts (.methodLink RX7 1 objectInit) (by decide +kernel)
  have hh_1 := hts (.instanceMethod objectInit) (by decide +kernel)
  have hh_2 := hts (.code objectInit ⟨#[0xb1]⟩ 1 none) (by decide +kernel)
  have hh_3 := hts (.arrayClass .long) (by decide +kernel)
  have hh_4 := hts (.fieldLink RX7 9 "BoundDraws$Turns" "waysByMinus" "[J") (by decide +kernel)
  have hh_5 := (show ∀ w ∈ wsX70, w ∈ wsX7_init by decide +kernel)
  have hh_6 := hts (.fieldLink RX7 13 "BoundDraws$Turns" "signs" "I") (by decide +kernel)
  have hh_7 := hts (.fieldLink RX7 17 "BoundDraws$Turns" "rises" "I") (by decide +kernel)
  have hh_8 := hts (.fieldLink RX7 20 "BoundDraws$Turns" "falls" "I") (by decide +kernel)
  refine lv_aload_n hx hb dX7_init_0 rfl (lv_at hl 0 rfl) ?_
  refine W.objInit hx hb hown hh_0 hh_1 hh_2 rfl (by rw [hml]; exact hl.1) rfl dX7_init_1 (Nat.le_of_ble_eq_true rfl) (Nat.le_of_ble_eq_true rfl) ?_
  refine W.eq (g2 := F0 m 4 ls []) rfl ?_
  refine lv_aload_n hx hb dX7_init_4 rfl (lv_at hl 0 rfl) ?_
  refine zc_sipush (z := ((1501 : Nat) : Int)) hx hb dX7_init_5 (by decide) ?_
  refine zn_newJ (N := 1501) hx hb hh_3 hK hP hD hS hA (Nat.le_of_ble_eq_true rfl) (Nat.le_of_ble_eq_true rfl) dX7_init_8 (fun q1 H hP hD hS => ?_)
  have hP : va_P D vwCl [(h0, .inr (6, [.null, .int (iZ ((0 : Nat) : Int)), .int (iZ ((0 : Nat) : Int)), .int (iZ ((0 : Nat) : Int))])), (q1, .inl (cJ, 1501, .inr (.inl (LJ (fun _ => 0)))))] H := hP
  have hD : va_D A [(h0, .inr (6, [.null, .int (iZ ((0 : Nat) : Int)), .int (iZ ((0 : Nat) : Int)), .int (iZ ((0 : Nat) : Int))])), (q1, .inl (cJ, 1501, .inr (.inl (LJ (fun _ => 0)))))] := hD
  refine W.widen (k := 1) (n := 1501) (Nat.le_of_ble_eq_true rfl) (Nat.le_of_ble_eq_true rfl) ?_
  refine va_putF (D := D) (ci := 6) (v := .ref q1) (ty := .array .long) (C := RX7) (T := TX7) (N := 4) hx hb hts hh_5 tyX7 tyX7_ok nmX7 hown hK hP hD hS 0 rfl rfl 0 (by decide) hh_4 (fun _ h9 => h9) rfl hnm rfl (by decide +kernel) rfl rfl (Nat.le_of_ble_eq_true rfl) dX7_init_10 (fun H locs hP hD hS => ?_)
  have hP : va_P D vwCl [(h0, .inr (6, [.ref q1, .int (iZ ((0 : Nat) : Int)), .int (iZ ((0 : Nat) : Int)), .int (iZ ((0 : Nat) : Int))])), (q1, .inl (cJ, 1501, .inr (.inl (LJ (fun _ => 0)))))] H := hP
  have hD : va_D A [(h0, .inr (6, [.ref q1, .int (iZ ((0 : Nat) : Int)), .int (iZ ((0 : Nat) : Int)), .int (iZ ((0 : Nat) : Int))])), (q1, .inl (cJ, 1501, .inr (.inl (LJ (fun _ => 0)))))] := hD
  refine lv_aload_n hx hb dX7_init_13 rfl (lv_at hl 0 rfl) ?_
  refine zc_iconst (z := ((0 : Nat) : Int)) hx hb dX7_init_14 (by decide) ?_
  refine va_put (D := D) (ci := 6) (v := .int (iZ ((0 : Nat) : Int))) (ty := .int) (C := RX7) (T := TX7) (N := 4) hx hb hts hh_5 tyX7 tyX7_ok nmX7 hown hK hP hD hS 0 rfl rfl 1 (by decide) hh_6 (fun _ h9 => h9) rfl (by decide +kernel) rfl rfl (Nat.le_of_ble_eq_true rfl) dX7_init_15 (fun H locs hP hD hS => ?_)
  have hP : va_P D vwCl [(h0, .inr (6, [.ref q1, .int (iZ ((0 : Nat) : Int)), .int (iZ ((0 : Nat) : Int)), .int (iZ ((0 : Nat) : Int))])), (q1, .inl (cJ, 1501, .inr (.inl (LJ (fun _ => 0)))))] H := hP
  have hD : va_D A [(h0, .inr (6, [.ref q1, .int (iZ ((0 : Nat) : Int)), .int (iZ ((0 : Nat) : Int)), .int (iZ ((0 : Nat) : Int))])), (q1, .inl (cJ, 1501, .inr (.inl (LJ (fun _ => 0)))))] := hD
  refine lv_aload_n hx hb dX7_init_18 rfl (lv_at hl 0 rfl) ?_
  refine zc_iconst (z := ((0 : Nat) : Int)) hx hb dX7_init_19 (by decide) ?_
  refine va_put (D := D) (ci := 6) (v := .int (iZ ((0 : Nat) : Int))) (ty := .int) (C := RX7) (T := TX7) (N := 4) hx hb hts hh_5 tyX7 tyX7_ok nmX7 hown hK hP hD hS 0 rfl rfl 2 (by decide) hh_7 (fun _ h9 => h9) rfl (by decide +kernel) rfl rfl (Nat.le_of_ble_eq_true rfl) dX7_init_20 (fun H locs hP hD hS => ?_)
  have hP : va_P D vwCl [(h0, .inr (6, [.ref q1, .int (iZ ((0 : Nat) : Int)), .int (iZ ((0 : Nat) : Int)), .int (iZ ((0 : Nat) : Int))])), (q1, .inl (cJ, 1501, .inr (.inl (LJ (fun _ => 0)))))] H := hP
  have hD : va_D A [(h0, .inr (6, [.ref q1, .int (iZ ((0 : Nat) : Int)), .int (iZ ((0 : Nat) : Int)), .int (iZ ((0 : Nat) : Int))])), (q1, .inl (cJ, 1501, .inr (.inl (LJ (fun _ => 0)))))] := hD
  refine lv_aload_n hx hb dX7_init_23 rfl (lv_at hl 0 rfl) ?_
  refine zc_iconst (z := ((0 : Nat) : Int)) hx hb dX7_init_24 (by decide) ?_
  refine va_put (D := D) (ci := 6) (v := .int (iZ ((0 : Nat) : Int))) (ty := .int) (C := RX7) (T := TX7) (N := 4) hx hb hts hh_5 tyX7 tyX7_ok nmX7 hown hK hP hD hS 0 rfl rfl 3 (by decide) hh_8 (fun _ h9 => h9) rfl (by decide +kernel) rfl rfl (Nat.le_of_ble_eq_true rfl) dX7_init_25 (fun H locs hP hD hS => ?_)
  have hP : va_P D vwCl [(h0, .inr (6, [.ref q1, .int (iZ ((0 : Nat) : Int)), .int (iZ ((0 : Nat) : Int)), .int (iZ ((0 : Nat) : Int))])), (q1, .inl (cJ, 1501, .inr (.inl (LJ (fun _ => 0)))))] H := hP
  have hD : va_D A [(h0, .inr (6, [.ref q1, .int (iZ ((0 : Nat) : Int)), .int (iZ ((0 : Nat) : Int)), .int (iZ ((0 : Nat) : Int))])), (q1, .inl (cJ, 1501, .inr (.inl (LJ (fun _ => 0)))))] := hD
  exact hret (q1) _ _ _ _ _ _ (Nat.le_of_ble_eq_true rfl) (Nat.le_of_ble_eq_true rfl) dX7_init_28 (trivial) hP hD hS
def rmX7_measure : Room := { frames := 1, cells := 0, slots := 0, locals := 21 }
set_option maxHeartbeats 4000000 in
set_option maxRecDepth 100000 in
theorem c_X7_measure (l : Launch) (D : va_G) (cI cJ : ClassId) (h0 wa : Nat) (w : Nat → Nat) (sg ri fa : Nat) (h1 da sa k : Nat) (DF : Nat → Int) (SF : Nat → Nat) (hk : k ≤ 30) (hD0 : ∀ i, i < k → -3000 ≤ DF i ∧ DF i ≤ 3000) : Cv l D vwCl (tyT cI cJ) yX7_measure wsX7_measure rmX7_measure [.ref h0, .ref h1] [(h0, .inr (6, [.ref wa, .int (iZ ((sg : Nat) : Int)), .int (iZ ((ri : Nat) : Int)), .int (iZ ((fa : Nat) : Int))])), (wa, .inl (cJ, 1501, .inr (.inl (LJ w)))), (h1, .inr (7, [.ref da, .ref sa, .int (iZ ((k : Nat) : Int))])), (da, .inl (cI, 30, .inl (ZI DF))), (sa, .inl (cI, 30, .inl (LI SF)))] (Unit) (fun _ => True) (fun _ => [(h0, .inr (6, [.ref wa, .int (iZ ((sgN DF k : Nat) : Int)), .int (iZ ((riN DF k : Nat) : Int)), .int (iZ ((faN DF k : Nat) : Int))])), (wa, .inl (cJ, 1501, .inr (.inl (LJ w)))), (h1, .inr (7, [.ref da, .ref sa, .int (iZ ((k : Nat) : Int))])), (da, .inl (cI, 30, .inl (ZI DF))), (sa, .inl (cI, 30, .inl (LI SF)))]) := by
  refine en_v (cc := cX7_measure) (maxL := 4) (by decide) rfl [(0, .ref h0), (1, .ref h1)] (Nat.le_of_ble_eq_true rfl) rfl ?_
  intro p e s m args below meth c Q A hx hb hml hown hts hnm hK hP hD hA hS hret ls hl
  have hh_0 := hts (.fieldLink RX7 13 "BoundDraws$Turns" "signs" "I") (by decide +kernel)
  have hh_1 := (show ∀ w ∈ wsX70, w ∈ wsX7_measure by decide +kernel)
  have hh_2 := hts (.fieldLink RX7 17 "BoundDraws$Turns" "rises" "I") (by decide +kernel)
  have hh_3 := hts (.fieldLink RX7 20 "BoundDraws$Turns" "falls" "I") (by decide +kernel)
  have hh_4 := hts (.methodLink RX7 53 Lib.Math.max.name) (by decide +kernel)
  have hh_5 := hts (.static Lib.Math.max.name) (by decide +kernel)
  have hh_6 := hts (.initialized "java/lang/Math") (by decide +kernel)
  have hh_7 := hts (.code Lib.Math.max.name Lib.Math.max.code 2 (some .int)) (by decide +kernel)
  refine lv_aload_n hx hb dX7_measure_0 rfl (lv_at hl 0 rfl) ?_
  refine zc_iconst (z := ((0 : Nat) : Int)) hx hb dX7_measure_1 (by decide) ?_
  refine va_put (D := D) (ci := 6) (v := .int (iZ ((0 : Nat) : Int))) (ty := .int) (C := RX7) (T := TX7) (N := 4) hx hb hts hh_1 tyX7 tyX7_ok nmX7 hown hK hP hD hS 0 rfl rfl 1 (by decide) hh_0 (fun _ h9 => h9) rfl (by decide +kernel) rfl rfl (Nat.le_of_ble_eq_true rfl) dX7_measure_2 (fun H locs hP hD hS => ?_)
  have hP : va_P D vwCl [(h0, .inr (6, [.ref wa, .int (iZ ((0 : Nat) : Int)), .int (iZ ((ri : Nat) : Int)), .int (iZ ((fa : Nat) : Int))])), (wa, .inl (cJ, 1501, .inr (.inl (LJ w)))), (h1, .inr (7, [.ref da, .ref sa, .int (iZ ((k : Nat) : Int))])), (da, .inl (cI, 30, .inl (ZI DF))), (sa, .inl (cI, 30, .inl (LI SF)))] H := hP
  have hD : va_D A [(h0, .inr (6, [.ref wa, .int (iZ ((0 : Nat) : Int)), .int (iZ ((ri : Nat) : Int)), .int (iZ ((fa : Nat) : Int))])), (wa, .inl (cJ, 1501, .inr (.inl (LJ w)))), (h1, .inr (7, [.ref da, .ref sa, .int (iZ ((k : Nat) : Int))])), (da, .inl (cI, 30, .inl (ZI DF))), (sa, .inl (cI, 30, .inl (LI SF)))] := hD
  refine lv_aload_n hx hb dX7_measure_5 rfl (lv_at hl 0 rfl) ?_
  refine zc_iconst (z := ((0 : Nat) : Int)) hx hb dX7_measure_6 (by decide) ?_
  refine va_put (D := D) (ci := 6) (v := .int (iZ ((0 : Nat) : Int))) (ty := .int) (C := RX7) (T := TX7) (N := 4) hx hb hts hh_1 tyX7 tyX7_ok nmX7 hown hK hP hD hS 0 rfl rfl 2 (by decide) hh_2 (fun _ h9 => h9) rfl (by decide +kernel) rfl rfl (Nat.le_of_ble_eq_true rfl) dX7_measure_7 (fun H locs hP hD hS => ?_)
  have hP : va_P D vwCl [(h0, .inr (6, [.ref wa, .int (iZ ((0 : Nat) : Int)), .int (iZ ((0 : Nat) : Int)), .int (iZ ((fa : Nat) : Int))])), (wa, .inl (cJ, 1501, .inr (.inl (LJ w)))), (h1, .inr (7, [.ref da, .ref sa, .int (iZ ((k : Nat) : Int))])), (da, .inl (cI, 30, .inl (ZI DF))), (sa, .inl (cI, 30, .inl (LI SF)))] H := hP
  have hD : va_D A [(h0, .inr (6, [.ref wa, .int (iZ ((0 : Nat) : Int)), .int (iZ ((0 : Nat) : Int)), .int (iZ ((fa : Nat) : Int))])), (wa, .inl (cJ, 1501, .inr (.inl (LJ w)))), (h1, .inr (7, [.ref da, .ref sa, .int (iZ ((k : Nat) : Int))])), (da, .inl (cI, 30, .inl (ZI DF))), (sa, .inl (cI, 30, .inl (LI SF)))] := hD
  refine lv_aload_n hx hb dX7_measure_10 rfl (lv_at hl 0 rfl) ?_
  refine zc_iconst (z := ((0 : Nat) : Int)) hx hb dX7_measure_11 (by decide) ?_
  refine va_put (D := D) (ci := 6) (v := .int (iZ ((0 : Nat) : Int))) (ty := .int) (C := RX7) (T := TX7) (N := 4) hx hb hts hh_1 tyX7 tyX7_ok nmX7 hown hK hP hD hS 0 rfl rfl 3 (by decide) hh_3 (fun _ h9 => h9) rfl (by decide +kernel) rfl rfl (Nat.le_of_ble_eq_true rfl) dX7_measure_12 (fun H locs hP hD hS => ?_)
  have hP : va_P D vwCl [(h0, .inr (6, [.ref wa, .int (iZ ((0 : Nat) : Int)), .int (iZ ((0 : Nat) : Int)), .int (iZ ((0 : Nat) : Int))])), (wa, .inl (cJ, 1501, .inr (.inl (LJ w)))), (h1, .inr (7, [.ref da, .ref sa, .int (iZ ((k : Nat) : Int))])), (da, .inl (cI, 30, .inl (ZI DF))), (sa, .inl (cI, 30, .inl (LI SF)))] H := hP
  have hD : va_D A [(h0, .inr (6, [.ref wa, .int (iZ ((0 : Nat) : Int)), .int (iZ ((0 : Nat) : Int)), .int (iZ ((0 : Nat) : Int))])), (wa, .inl (cJ, 1501, .inr (.inl (LJ w)))), (h1, .inr (7, [.ref da, .ref sa, .int (iZ ((k : Nat) : Int))])), (da, .inl (cI, 30, .inl (ZI DF))), (sa, .inl (cI, 30, .inl (LI SF)))] := hD
  refine zc_iconst (z := ((0 : Nat) : Int)) hx hb dX7_measure_15 (by decide) ?_
  refine lv_istore_n (lv' := [(2, .int (iZ ((0 : Nat) : Int))), (0, .ref h0), (1, .ref h1)]) hx hb dX7_measure_16 rfl hl (by decide) rfl (fun ls hl => ?_)
  have pt_17 : ∀ f : Nat, ∀ (i : Nat), (hi : i ≤ k) → (hf : k < i + f) → (H : Heap) → (locs : List Loc) → va_P D vwCl [(h0, .inr (6, [.ref wa, .int (iZ ((sgN DF i : Nat) : Int)), .int (iZ ((riN DF i : Nat) : Int)), .int (iZ ((faN DF i : Nat) : Int))])), (wa, .inl (cJ, 1501, .inr (.inl (LJ w)))), (h1, .inr (7, [.ref da, .ref sa, .int (iZ ((k : Nat) : Int))])), (da, .inl (cI, 30, .inl (ZI DF))), (sa, .inl (cI, 30, .inl (LI SF)))] H → va_D A [(h0, .inr (6, [.ref wa, .int (iZ ((sgN DF i : Nat) : Int)), .int (iZ ((riN DF i : Nat) : Int)), .int (iZ ((faN DF i : Nat) : Int))])), (wa, .inl (cJ, 1501, .inr (.inl (LJ w)))), (h1, .inr (7, [.ref da, .ref sa, .int (iZ ((k : Nat) : Int))])), (da, .inl (cI, 30, .inl (ZI DF))), (sa, .inl (cI, 30, .inl (LI SF)))] → va_S A s.heap H locs → (ls : Array Slot) → lv_has ls 4 [(2, .int (iZ ((i : Nat) : Int))), (0, .ref h0), (1, .ref h1)] → W p l e rmX7_measure s m args below meth c H locs 0 0 Q (F0 m 17 ls []) := by
    intro f
    induction f with
    | zero =>
      intro i hi hf H locs hP hD hS ls hl
      exfalso; omega
    | succ f ih =>
      intro i hi hf H locs hP hD hS ls hl
      refine lv_iload_n hx hb dX7_measure_17 rfl (lv_at hl 0 rfl) ?_
      refine lv_aload_n hx hb dX7_measure_18 rfl (lv_at hl 2 rfl) ?_
      refine ca_iV [] [.int (iZ ((i : Nat) : Int))] [(h0, .inr (6, [.ref wa, .int (iZ ((sgN DF i : Nat) : Int)), .int (iZ ((riN DF i : Nat) : Int)), .int (iZ ((faN DF i : Nat) : Int))])), (wa, .inl (cJ, 1501, .inr (.inl (LJ w))))] 0 0 ⟨hx, hb, hml, hown, hts⟩ (c_X8_size l D cI cJ h1 da sa k DF SF) (cwV 0 hts gX7_measure_X8_size rfl rfl rfl (by decide +kernel) ⟨(Nat.le_of_ble_eq_true rfl), (Nat.le_of_ble_eq_true rfl)⟩) hK hP hD hS hA [2, 3, 4] [0, 1] rfl rfl rfl rfl (by decide) 0 rfl rfl rfl hl.1 rfl (Nat.le_of_ble_eq_true rfl) dX7_measure_19 ⟨(Nat.le_of_ble_eq_true rfl), (Nat.le_of_ble_eq_true rfl)⟩ (Nat.le_of_ble_eq_true rfl) (Nat.le_of_ble_eq_true rfl) (fun r_19 u9 H locs hw hP hD hS => ?_)
      obtain u9 := u9
      try dsimp only at hw
      have hP : va_P D vwCl [(h0, .inr (6, [.ref wa, .int (iZ ((sgN DF i : Nat) : Int)), .int (iZ ((riN DF i : Nat) : Int)), .int (iZ ((faN DF i : Nat) : Int))])), (wa, .inl (cJ, 1501, .inr (.inl (LJ w)))), (h1, .inr (7, [.ref da, .ref sa, .int (iZ ((k : Nat) : Int))])), (da, .inl (cI, 30, .inl (ZI DF))), (sa, .inl (cI, 30, .inl (LI SF)))] H := hP
      have hD : va_D A [(h0, .inr (6, [.ref wa, .int (iZ ((sgN DF i : Nat) : Int)), .int (iZ ((riN DF i : Nat) : Int)), .int (iZ ((faN DF i : Nat) : Int))])), (wa, .inl (cJ, 1501, .inr (.inl (LJ w)))), (h1, .inr (7, [.ref da, .ref sa, .int (iZ ((k : Nat) : Int))])), (da, .inl (cI, 30, .inl (ZI DF))), (sa, .inl (cI, 30, .inl (LI SF)))] := hD
      refine tp_i (y := (iZ ((k : Nat) : Int))) (hw) ?_
      refine zb_icmp_ge (x := ((i : Nat) : Int)) (y := ((k : Nat) : Int)) (tgt := 80) hx hb dX7_measure_22 (by decide) ⟨by omega, by omega⟩ ⟨by omega, by omega⟩ (fun c_22 => ?_) (fun c_22 => ?_)
      · have e9 : i = k := by omega
        rw [e9] at hP hD
        exact hret (()) _ _ _ _ _ _ (Nat.le_of_ble_eq_true rfl) (Nat.le_of_ble_eq_true rfl) dX7_measure_80 (trivial) hP hD hS
      · have pt_45 : (H : Heap) → (locs : List Loc) → va_P D vwCl [(h0, .inr (6, [.ref wa, .int (iZ ((sgN DF (i + 1) : Nat) : Int)), .int (iZ ((riN DF i : Nat) : Int)), .int (iZ ((faN DF i : Nat) : Int))])), (wa, .inl (cJ, 1501, .inr (.inl (LJ w)))), (h1, .inr (7, [.ref da, .ref sa, .int (iZ ((k : Nat) : Int))])), (da, .inl (cI, 30, .inl (ZI DF))), (sa, .inl (cI, 30, .inl (LI SF)))] H → va_D A [(h0, .inr (6, [.ref wa, .int (iZ ((sgN DF (i + 1) : Nat) : Int)), .int (iZ ((riN DF i : Nat) : Int)), .int (iZ ((faN DF i : Nat) : Int))])), (wa, .inl (cJ, 1501, .inr (.inl (LJ w)))), (h1, .inr (7, [.ref da, .ref sa, .int (iZ ((k : Nat) : Int))])), (da, .inl (cI, 30, .inl (ZI DF))), (sa, .inl (cI, 30, .inl (LI SF)))] → va_S A s.heap H locs → (ls : Array Slot) → lv_has ls 4 [(3, .int (iZ (DF i))), (2, .int (iZ ((i : Nat) : Int))), (0, .ref h0), (1, .ref h1)] → W p l e rmX7_measure s m args below meth c H locs 0 0 Q (F0 m 45 ls []) := by
          intro   H locs hP hD hS ls hl
          have hb9 := hD0 i (by omega)
          refine lv_aload_n hx hb dX7_measure_45 rfl (lv_at hl 2 rfl) ?_
          refine lv_dup hx hb dX7_measure_46 rfl ?_
          refine va_get (D := D) (ci := 6) (v := .int (iZ ((riN DF i : Nat) : Int))) (C := RX7) (T := TX7) (N := 4) hx hb hts hh_1 hown hK hP 0 rfl rfl 2 (by decide) hh_2 (fun _ h9 => h9) rfl dX7_measure_47 ?_
          refine lv_iload_n hx hb dX7_measure_50 rfl (lv_at hl 0 rfl) ?_
          refine zc_iconst (z := ((0 : Nat) : Int)) hx hb dX7_measure_51 (by decide) ?_
          refine zm_max (z := (((DF i).toNat : Nat) : Int)) hx hb (hml.trans hl.1.symm) hown hh_4 hh_5 hh_6 hh_7 (Nat.le_of_ble_eq_true rfl) (Nat.le_of_ble_eq_true rfl) ⟨by omega, by omega⟩ ⟨by decide, by decide⟩ (by omega) dX7_measure_52 ?_
          refine zi_add (z := ((riN DF (i + 1) : Nat) : Int)) hx hb dX7_measure_55 (by show _ = ((riN DF i + (DF i).toNat : Nat) : Int); omega) ?_
          refine va_put (D := D) (ci := 6) (v := .int (iZ ((riN DF (i + 1) : Nat) : Int))) (ty := .int) (C := RX7) (T := TX7) (N := 4) hx hb hts hh_1 tyX7 tyX7_ok nmX7 hown hK hP hD hS 0 rfl rfl 2 (by decide) hh_2 (fun _ h9 => h9) rfl (by decide +kernel) rfl rfl (Nat.le_of_ble_eq_true rfl) dX7_measure_56 (fun H locs hP hD hS => ?_)
          have hP : va_P D vwCl [(h0, .inr (6, [.ref wa, .int (iZ ((sgN DF (i + 1) : Nat) : Int)), .int (iZ ((riN DF (i + 1) : Nat) : Int)), .int (iZ ((faN DF i : Nat) : Int))])), (wa, .inl (cJ, 1501, .inr (.inl (LJ w)))), (h1, .inr (7, [.ref da, .ref sa, .int (iZ ((k : Nat) : Int))])), (da, .inl (cI, 30, .inl (ZI DF))), (sa, .inl (cI, 30, .inl (LI SF)))] H := hP
          have hD : va_D A [(h0, .inr (6, [.ref wa, .int (iZ ((sgN DF (i + 1) : Nat) : Int)), .int (iZ ((riN DF (i + 1) : Nat) : Int)), .int (iZ ((faN DF i : Nat) : Int))])), (wa, .inl (cJ, 1501, .inr (.inl (LJ w)))), (h1, .inr (7, [.ref da, .ref sa, .int (iZ ((k : Nat) : Int))])), (da, .inl (cI, 30, .inl (ZI DF))), (sa, .inl (cI, 30, .inl (LI SF)))] := hD
          refine lv_aload_n hx hb dX7_measure_59 rfl (lv_at hl 2 rfl) ?_
          refine lv_dup hx hb dX7_measure_60 rfl ?_
          refine va_get (D := D) (ci := 6) (v := .int (iZ ((faN DF i : Nat) : Int))) (C := RX7) (T := TX7) (N := 4) hx hb hts hh_1 hown hK hP 0 rfl rfl 3 (by decide) hh_3 (fun _ h9 => h9) rfl dX7_measure_61 ?_
          refine lv_iload_n hx hb dX7_measure_64 rfl (lv_at hl 0 rfl) ?_
          refine zi_neg (z := (-DF i)) hx hb dX7_measure_65 rfl ?_
          refine zc_iconst (z := ((0 : Nat) : Int)) hx hb dX7_measure_66 (by decide) ?_
          refine zm_max (z := (((-DF i).toNat : Nat) : Int)) hx hb (hml.trans hl.1.symm) hown hh_4 hh_5 hh_6 hh_7 (Nat.le_of_ble_eq_true rfl) (Nat.le_of_ble_eq_true rfl) ⟨by omega, by omega⟩ ⟨by decide, by decide⟩ (by omega) dX7_measure_67 ?_
          refine zi_add (z := ((faN DF (i + 1) : Nat) : Int)) hx hb dX7_measure_70 (by show _ = ((faN DF i + (-DF i).toNat : Nat) : Int); omega) ?_
          refine va_put (D := D) (ci := 6) (v := .int (iZ ((faN DF (i + 1) : Nat) : Int))) (ty := .int) (C := RX7) (T := TX7) (N := 4) hx hb hts hh_1 tyX7 tyX7_ok nmX7 hown hK hP hD hS 0 rfl rfl 3 (by decide) hh_3 (fun _ h9 => h9) rfl (by decide +kernel) rfl rfl (Nat.le_of_ble_eq_true rfl) dX7_measure_71 (fun H locs hP hD hS => ?_)
          have hP : va_P D vwCl [(h0, .inr (6, [.ref wa, .int (iZ ((sgN DF (i + 1) : Nat) : Int)), .int (iZ ((riN DF (i + 1) : Nat) : Int)), .int (iZ ((faN DF (i + 1) : Nat) : Int))])), (wa, .inl (cJ, 1501, .inr (.inl (LJ w)))), (h1, .inr (7, [.ref da, .ref sa, .int (iZ ((k : Nat) : Int))])), (da, .inl (cI, 30, .inl (ZI DF))), (sa, .inl (cI, 30, .inl (LI SF)))] H := hP
          have hD : va_D A [(h0, .inr (6, [.ref wa, .int (iZ ((sgN DF (i + 1) : Nat) : Int)), .int (iZ ((riN DF (i + 1) : Nat) : Int)), .int (iZ ((faN DF (i + 1) : Nat) : Int))])), (wa, .inl (cJ, 1501, .inr (.inl (LJ w)))), (h1, .inr (7, [.ref da, .ref sa, .int (iZ ((k : Nat) : Int))])), (da, .inl (cI, 30, .inl (ZI DF))), (sa, .inl (cI, 30, .inl (LI SF)))] := hD
          refine lv_iinc (v := iZ ((i + 1 : Nat) : Int)) (lv' := [(2, .int (iZ ((i + 1 : Nat) : Int))), (3, .int (iZ (DF i))), (0, .ref h0), (1, .ref h1)]) hx hb dX7_measure_74 hl (k := 1) rfl (zi_inc (by omega)) (by decide) rfl (fun ls hl => ?_)
          refine lv_goto (tgt := 17) hx hb dX7_measure_77 (by decide) ?_
          exact ih (i + 1) (by omega) (by omega) _ _ hP hD hS ls (lv_sub hl [0, 2, 3] rfl)
        have hb9 := hD0 i (by omega)
        refine lv_aload_n hx hb dX7_measure_25 rfl (lv_at hl 2 rfl) ?_
        refine lv_iload_n hx hb dX7_measure_26 rfl (lv_at hl 0 rfl) ?_
        refine ca_iV [.int (iZ ((i : Nat) : Int))] [] [(h0, .inr (6, [.ref wa, .int (iZ ((sgN DF i : Nat) : Int)), .int (iZ ((riN DF i : Nat) : Int)), .int (iZ ((faN DF i : Nat) : Int))])), (wa, .inl (cJ, 1501, .inr (.inl (LJ w))))] 0 0 ⟨hx, hb, hml, hown, hts⟩ (c_X8_difference l D cI cJ h1 da sa k DF SF i (by omega) hk) (cwV 1 hts gX7_measure_X8_difference rfl rfl rfl (by decide +kernel) ⟨(Nat.le_of_ble_eq_true rfl), (Nat.le_of_ble_eq_true rfl)⟩) hK hP hD hS hA [2, 3, 4] [0, 1] rfl rfl rfl rfl (by decide) 0 rfl rfl rfl hl.1 rfl (Nat.le_of_ble_eq_true rfl) dX7_measure_27 ⟨(Nat.le_of_ble_eq_true rfl), (Nat.le_of_ble_eq_true rfl)⟩ (Nat.le_of_ble_eq_true rfl) (Nat.le_of_ble_eq_true rfl) (fun r_27 u9 H locs hw hP hD hS => ?_)
        obtain u9 := u9
        try dsimp only at hw
        have hP : va_P D vwCl [(h0, .inr (6, [.ref wa, .int (iZ ((sgN DF i : Nat) : Int)), .int (iZ ((riN DF i : Nat) : Int)), .int (iZ ((faN DF i : Nat) : Int))])), (wa, .inl (cJ, 1501, .inr (.inl (LJ w)))), (h1, .inr (7, [.ref da, .ref sa, .int (iZ ((k : Nat) : Int))])), (da, .inl (cI, 30, .inl (ZI DF))), (sa, .inl (cI, 30, .inl (LI SF)))] H := hP
        have hD : va_D A [(h0, .inr (6, [.ref wa, .int (iZ ((sgN DF i : Nat) : Int)), .int (iZ ((riN DF i : Nat) : Int)), .int (iZ ((faN DF i : Nat) : Int))])), (wa, .inl (cJ, 1501, .inr (.inl (LJ w)))), (h1, .inr (7, [.ref da, .ref sa, .int (iZ ((k : Nat) : Int))])), (da, .inl (cI, 30, .inl (ZI DF))), (sa, .inl (cI, 30, .inl (LI SF)))] := hD
        refine tp_i (y := (iZ (DF i))) (hw) ?_
        refine lv_istore_n (lv' := [(3, .int (iZ (DF i))), (2, .int (iZ ((i : Nat) : Int))), (0, .ref h0), (1, .ref h1)]) hx hb dX7_measure_30 rfl hl (by decide) rfl (fun ls hl => ?_)
        refine lv_iload_n hx hb dX7_measure_31 rfl (lv_at hl 0 rfl) ?_
        refine zb_if_eq (x := (DF i)) (tgt := 45) hx hb dX7_measure_32 (by decide) ⟨by omega, by omega⟩ (fun c_32 => ?_) (fun c_32 => ?_)
        · have e9 : sgN DF (i + 1) = sgN DF i := cnt_f (by simp; omega)
          rw [← e9] at hP hD
          exact pt_45   _ _ hP hD hS ls (lv_sub hl [0, 1, 2, 3] rfl)
        · refine lv_aload_n hx hb dX7_measure_35 rfl (lv_at hl 2 rfl) ?_
          refine lv_dup hx hb dX7_measure_36 rfl ?_
          refine va_get (D := D) (ci := 6) (v := .int (iZ ((sgN DF i : Nat) : Int))) (C := RX7) (T := TX7) (N := 4) hx hb hts hh_1 hown hK hP 0 rfl rfl 1 (by decide) hh_0 (fun _ h9 => h9) rfl dX7_measure_37 ?_
          refine zc_iconst (z := ((1 : Nat) : Int)) hx hb dX7_measure_40 (by decide) ?_
          refine zi_add (z := (((sgN DF i) + 1 : Nat) : Int)) hx hb dX7_measure_41 (by omega) ?_
          refine tp_i (y := (iZ ((sgN DF (i + 1) : Nat) : Int))) (congrArg iZ (by have e9 : sgN DF (i + 1) = sgN DF i + 1 := cnt_t (by simp; omega); omega)) ?_
          refine va_put (D := D) (ci := 6) (v := .int (iZ ((sgN DF (i + 1) : Nat) : Int))) (ty := .int) (C := RX7) (T := TX7) (N := 4) hx hb hts hh_1 tyX7 tyX7_ok nmX7 hown hK hP hD hS 0 rfl rfl 1 (by decide) hh_0 (fun _ h9 => h9) rfl (by decide +kernel) rfl rfl (Nat.le_of_ble_eq_true rfl) dX7_measure_42 (fun H locs hP hD hS => ?_)
          have hP : va_P D vwCl [(h0, .inr (6, [.ref wa, .int (iZ ((sgN DF (i + 1) : Nat) : Int)), .int (iZ ((riN DF i : Nat) : Int)), .int (iZ ((faN DF i : Nat) : Int))])), (wa, .inl (cJ, 1501, .inr (.inl (LJ w)))), (h1, .inr (7, [.ref da, .ref sa, .int (iZ ((k : Nat) : Int))])), (da, .inl (cI, 30, .inl (ZI DF))), (sa, .inl (cI, 30, .inl (LI SF)))] H := hP
          have hD : va_D A [(h0, .inr (6, [.ref wa, .int (iZ ((sgN DF (i + 1) : Nat) : Int)), .int (iZ ((riN DF i : Nat) : Int)), .int (iZ ((faN DF i : Nat) : Int))])), (wa, .inl (cJ, 1501, .inr (.inl (LJ w)))), (h1, .inr (7, [.ref da, .ref sa, .int (iZ ((k : Nat) : Int))])), (da, .inl (cI, 30, .inl (ZI DF))), (sa, .inl (cI, 30, .inl (LI SF)))] := hD
          exact pt_45   _ _ hP hD hS ls (lv_sub hl [0, 1, 2, 3] rfl)
  exact pt_17 (k + 1) 0 (by omega) (by omega) _ _ hP hD hS ls (lv_sub hl [0, 1, 2] rfl)
def rmX7_reach : Room := { frames := 1, cells := 0, slots := 0, locals := 13 }
set_option maxHeartbeats 4000000 in
set_option maxRecDepth 100000 in
theorem c_X7_reach (l : Launch) (D : va_G) (cI cJ : ClassId) (h0 wa : Nat) (w : Nat → Nat) (sg ri fa : Nat) (h1 : ri ≤ 3000) (h2 : fa ≤ 3000) : Ci l D vwCl (tyT cI cJ) yX7_reach wsX7_reach rmX7_reach [.ref h0] [(h0, .inr (6, [.ref wa, .int (iZ ((sg : Nat) : Int)), .int (iZ ((ri : Nat) : Int)), .int (iZ ((fa : Nat) : Int))])), (wa, .inl (cJ, 1501, .inr (.inl (LJ w))))] (Unit) (fun r _ => r = iZ ((min (min ri fa) 1500 : Nat) : Int)) (fun _ => [(h0, .inr (6, [.ref wa, .int (iZ ((sg : Nat) : Int)), .int (iZ ((ri : Nat) : Int)), .int (iZ ((fa : Nat) : Int))])), (wa, .inl (cJ, 1501, .inr (.inl (LJ w))))]) := by
  refine en_i (cc := cX7_reach) (maxL := 1) (by decide) rfl [(0, .ref h0)] (Nat.le_of_ble_eq_true rfl) rfl ?_
  intro p e s m args below meth c Q A hx hb hml hown hts hnm hK hP hD hA hS hret ls hl
  have hh_0 := hts (.fieldLink RX7 17 "BoundDraws$Turns" "rises" "I") (by decide +kernel)
  have hh_1 := (show ∀ w ∈ wsX70, w ∈ wsX7_reach by decide +kernel)
  have hh_2 := hts (.fieldLink RX7 20 "BoundDraws$Turns" "falls" "I") (by decide +kernel)
  have hh_3 := hts (.methodLink RX7 45 Lib.Math.min.name) (by decide +kernel)
  have hh_4 := hts (.static Lib.Math.min.name) (by decide +kernel)
  have hh_5 := hts (.initialized "java/lang/Math") (by decide +kernel)
  have hh_6 := hts (.code Lib.Math.min.name Lib.Math.min.code 2 (some .int)) (by decide +kernel)
  refine lv_aload_n hx hb dX7_reach_0 rfl (lv_at hl 0 rfl) ?_
  refine va_get (D := D) (ci := 6) (v := .int (iZ ((ri : Nat) : Int))) (C := RX7) (T := TX7) (N := 4) hx hb hts hh_1 hown hK hP 0 rfl rfl 2 (by decide) hh_0 (fun _ h9 => h9) rfl dX7_reach_1 ?_
  refine lv_aload_n hx hb dX7_reach_4 rfl (lv_at hl 0 rfl) ?_
  refine va_get (D := D) (ci := 6) (v := .int (iZ ((fa : Nat) : Int))) (C := RX7) (T := TX7) (N := 4) hx hb hts hh_1 hown hK hP 0 rfl rfl 3 (by decide) hh_2 (fun _ h9 => h9) rfl dX7_reach_5 ?_
  refine zm_min (z := ((min ri fa : Nat) : Int)) hx hb (hml.trans hl.1.symm) hown hh_3 hh_4 hh_5 hh_6 (Nat.le_of_ble_eq_true rfl) (Nat.le_of_ble_eq_true rfl) ⟨by omega, by omega⟩ ⟨by omega, by omega⟩ (by omega) dX7_reach_8 ?_
  refine zc_sipush (z := ((1500 : Nat) : Int)) hx hb dX7_reach_11 (by decide) ?_
  refine zm_min (z := ((min (min ri fa) 1500 : Nat) : Int)) hx hb (hml.trans hl.1.symm) hown hh_3 hh_4 hh_5 hh_6 (Nat.le_of_ble_eq_true rfl) (Nat.le_of_ble_eq_true rfl) ⟨by omega, by omega⟩ ⟨by decide, by decide⟩ (by omega) dX7_reach_14 ?_
  exact hret _ (()) _ _ _ _ _ _ (Nat.le_of_ble_eq_true rfl) (Nat.le_of_ble_eq_true rfl) rfl dX7_reach_17 (rfl) hP hD hS
def rmX7_takeSign : Room := { frames := 0, cells := 0, slots := 0, locals := 0 }
set_option maxHeartbeats 4000000 in
set_option maxRecDepth 100000 in
theorem c_X7_takeSign (l : Launch) (D : va_G) (cI cJ : ClassId) (h0 wa : Nat) (w : Nat → Nat) (sg ri fa : Nat) (z x : Nat) (hz : 0 < z) (hz2 : z ≤ 3000) (hx0 : x ≤ 1500) : Cv l D vwCl (tyT cI cJ) yX7_takeSign wsX7_takeSign rmX7_takeSign [.ref h0, .int (iZ ((z : Nat) : Int)), .int (iZ ((x : Nat) : Int))] [(h0, .inr (6, [.ref wa, .int (iZ ((sg : Nat) : Int)), .int (iZ ((ri : Nat) : Int)), .int (iZ ((fa : Nat) : Int))])), (wa, .inl (cJ, 1501, .inr (.inl (LJ w))))] (Nat → Nat) (fun r => (∀ j, j ≤ x → r j = tsN w z j) ∧ ∀ j, x < j → r j = w j) (fun r => [(h0, .inr (6, [.ref wa, .int (iZ ((sg : Nat) : Int)), .int (iZ ((ri : Nat) : Int)), .int (iZ ((fa : Nat) : Int))])), (wa, .inl (cJ, 1501, .inr (.inl (LJ r))))]) := by
  refine en_v (cc := cX7_takeSign) (maxL := 4) (by decide) rfl [(0, .ref h0), (1, .int (iZ ((z : Nat) : Int))), (2, .int (iZ ((x : Nat) : Int)))] (Nat.le_of_ble_eq_true rfl) rfl ?_
  intro p e s m args below meth c Q A hx hb hml hown hts hnm hK hP hD hA hS hret ls hl
  have hh_0 := hts (.fieldLink RX7 9 "BoundDraws$Turns" "waysByMinus" "[J") (by decide +kernel)
  have hh_1 := (show ∀ w ∈ wsX70, w ∈ wsX7_takeSign by decide +kernel)
  refine lv_iload_n hx hb dX7_takeSign_0 rfl (lv_at hl 2 rfl) ?_
  refine lv_istore_n (lv' := [(3, .int (iZ ((x : Nat) : Int))), (0, .ref h0), (1, .int (iZ ((z : Nat) : Int))), (2, .int (iZ ((x : Nat) : Int)))]) hx hb dX7_takeSign_1 rfl hl (by decide) rfl (fun ls hl => ?_)
  have pt_2 : ∀ f : Nat, ∀ (y : Nat) (v : Nat → Nat), (hy : y ≤ x) → (hv1 : ∀ j, y < j → j ≤ x → v j = tsN w z j) → (hv2 : ∀ j, j ≤ y → v j = w j) → (hv3 : ∀ j, x < j → v j = w j) → (hf : y < f) → (H : Heap) → (locs : List Loc) → va_P D vwCl [(h0, .inr (6, [.ref wa, .int (iZ ((sg : Nat) : Int)), .int (iZ ((ri : Nat) : Int)), .int (iZ ((fa : Nat) : Int))])), (wa, .inl (cJ, 1501, .inr (.inl (LJ v))))] H → va_D A [(h0, .inr (6, [.ref wa, .int (iZ ((sg : Nat) : Int)), .int (iZ ((ri : Nat) : Int)), .int (iZ ((fa : Nat) : Int))])), (wa, .inl (cJ, 1501, .inr (.inl (LJ v))))] → va_S A s.heap H locs → (ls : Array Slot) → lv_has ls 4 [(3, .int (iZ ((y : Nat) : Int))), (0, .ref h0), (1, .int (iZ ((z : Nat) : Int))), (2, .int (iZ ((x : Nat) : Int)))] → W p l e rmX7_takeSign s m args below meth c H locs 0 0 Q (F0 m 2 ls []) := by
    intro f
    induction f with
    | zero =>
      intro y v hy hv1 hv2 hv3 hf H locs hP hD hS ls hl
      exfalso; omega
    | succ f ih =>
      intro y v hy hv1 hv2 hv3 hf H locs hP hD hS ls hl
      refine lv_iload_n hx hb dX7_takeSign_2 rfl (lv_at hl 0 rfl) ?_
      refine lv_iload_n hx hb dX7_takeSign_3 rfl (lv_at hl 2 rfl) ?_
      refine zb_icmp_lt (x := ((y : Nat) : Int)) (y := ((z : Nat) : Int)) (tgt := 30) hx hb dX7_takeSign_4 (by decide) ⟨by omega, by omega⟩ ⟨by omega, by omega⟩ (fun c_4 => ?_) (fun c_4 => ?_)
      · exact hret (v) _ _ _ _ _ _ (Nat.le_of_ble_eq_true rfl) (Nat.le_of_ble_eq_true rfl) dX7_takeSign_30 (⟨fun j h9 => by rcases (show y < j ∨ j ≤ y by omega) with e | e; (· exact hv1 j e h9); (· rw [hv2 j e]; unfold tsN; rw [if_neg (by omega), Nat.add_zero]), hv3⟩) hP hD hS
      · refine lv_aload_n hx hb dX7_takeSign_7 rfl (lv_at hl 1 rfl) ?_
        refine va_get (D := D) (ci := 6) (v := .ref wa) (C := RX7) (T := TX7) (N := 4) hx hb hts hh_1 hown hK hP 0 rfl rfl 0 (by decide) hh_0 (fun _ h9 => h9) rfl dX7_takeSign_8 ?_
        refine lv_iload_n hx hb dX7_takeSign_11 rfl (lv_at hl 0 rfl) ?_
        refine lv_dup2_11 hx hb dX7_takeSign_12 rfl rfl ?_
        refine za_lald hx hb hK hP 1 1 rfl rfl (y) (v := ((v y : Nat) : Int)) (by decide) rfl (by omega) (rfl) dX7_takeSign_13 ?_
        refine lv_aload_n hx hb dX7_takeSign_14 rfl (lv_at hl 1 rfl) ?_
        refine va_get (D := D) (ci := 6) (v := .ref wa) (C := RX7) (T := TX7) (N := 4) hx hb hts hh_1 hown hK hP 0 rfl rfl 0 (by decide) hh_0 (fun _ h9 => h9) rfl dX7_takeSign_15 ?_
        refine lv_iload_n hx hb dX7_takeSign_18 rfl (lv_at hl 0 rfl) ?_
        refine lv_iload_n hx hb dX7_takeSign_19 rfl (lv_at hl 2 rfl) ?_
        refine zi_sub (z := ((y - z : Nat) : Int)) hx hb dX7_takeSign_20 (by omega) ?_
        refine za_lald hx hb hK hP 1 1 rfl rfl (y - z) (v := ((v (y - z) : Nat) : Int)) (by decide) rfl (by omega) (rfl) dX7_takeSign_21 ?_
        refine zl_add (z := (((v y) + (v (y - z)) : Nat) : Int)) hx hb dX7_takeSign_22 (by omega) ?_
        refine za_last hx hb hK hP hD hS 1 1 rfl rfl (y) (by decide) rfl (by omega) dX7_takeSign_23 (fun H locs hP hD hS => ?_)
        have hP : va_P D vwCl [(h0, .inr (6, [.ref wa, .int (iZ ((sg : Nat) : Int)), .int (iZ ((ri : Nat) : Int)), .int (iZ ((fa : Nat) : Int))])), (wa, .inl (cJ, 1501, .inr (.inl (vp_updL (LJ v) (y) ((lZ (((v y) + (v (y - z)) : Nat) : Int)))))))] H := hP
        have hD : va_D A [(h0, .inr (6, [.ref wa, .int (iZ ((sg : Nat) : Int)), .int (iZ ((ri : Nat) : Int)), .int (iZ ((fa : Nat) : Int))])), (wa, .inl (cJ, 1501, .inr (.inl (vp_updL (LJ v) (y) ((lZ (((v y) + (v (y - z)) : Nat) : Int)))))))] := hD
        rw [LJ_up] at hP hD
        obtain ⟨v1, ev1⟩ : ∃ g9, g9 = nup v (y) ((v y) + (v (y - z))) := ⟨_, rfl⟩
        rw [← ev1] at hP hD
        have hP : va_P D vwCl [(h0, .inr (6, [.ref wa, .int (iZ ((sg : Nat) : Int)), .int (iZ ((ri : Nat) : Int)), .int (iZ ((fa : Nat) : Int))])), (wa, .inl (cJ, 1501, .inr (.inl (LJ v1))))] H := hP
        have hD : va_D A [(h0, .inr (6, [.ref wa, .int (iZ ((sg : Nat) : Int)), .int (iZ ((ri : Nat) : Int)), .int (iZ ((fa : Nat) : Int))])), (wa, .inl (cJ, 1501, .inr (.inl (LJ v1))))] := hD
        refine lv_iinc (v := iZ ((y - 1 : Nat) : Int)) (lv' := [(3, .int (iZ ((y - 1 : Nat) : Int))), (0, .ref h0), (1, .int (iZ ((z : Nat) : Int))), (2, .int (iZ ((x : Nat) : Int)))]) hx hb dX7_takeSign_24 hl (k := 0) rfl (zi_inc (by omega)) (by decide) rfl (fun ls hl => ?_)
        refine lv_goto (tgt := 2) hx hb dX7_takeSign_27 (by decide) ?_
        exact ih (y - 1) v1 (by omega) (fun j h8 h9 => by rw [ev1]; by_cases e9 : j = y; (· rw [e9, nup_s, hv2 y (by omega), hv2 (y - z) (by omega)]; unfold tsN; rw [if_pos (by omega)]); (· rw [nup_n e9]; exact hv1 j (by omega) h9)) (fun j h9 => by rw [ev1, nup_n (by omega)]; exact hv2 j (by omega)) (fun j h9 => by rw [ev1, nup_n (by omega)]; exact hv3 j h9) (by omega) _ _ hP hD hS ls (lv_sub hl [0, 1, 2, 3] rfl)
  exact pt_2 (x + 1) x w (by omega) (fun j h8 h9 => by omega) (fun j h9 => rfl) (fun j h9 => rfl) (by omega) _ _ hP hD hS ls (lv_sub hl [0, 1, 2, 3] rfl)
theorem take_step {DF : Nat → Int} {i Rr y : Nat} {w v : Nat → Nat} (hne : DF i ≠ 0) (hw : ∀ j, j ≤ Rr → w j = subP DF i j) (hy : y = min (min (abN DF i) Rr + (DF i).natAbs) Rr) (h1 : ∀ j, j ≤ y → v j = tsN w (DF i).natAbs j) (h2 : ∀ j, y < j → v j = w j) : ∀ j, j ≤ Rr → v j = subP DF (i + 1) j := by
  intro j hj
  rw [subP, if_neg hne]
  rcases (show j ≤ y ∨ y < j by omega) with e | e
  · rw [h1 j e]
    unfold tsN
    rw [hw j hj]
    split
    · rw [hw _ (by omega)]
    · rfl
  · rw [h2 j e, hw j hj]
    have e2 : abN DF i + (DF i).natAbs < j := by omega
    rw [subP_big DF (show abN DF i < j by omega)]
    split
    · rw [subP_big DF (show abN DF i < j - (DF i).natAbs by omega)]
    · rfl
theorem take_0 {DF : Nat → Int} {i : Nat} (h : DF i = 0) (j : Nat) : subP DF (i + 1) j = subP DF i j := by rw [subP, if_pos h]
def rmX7_take : Room := { frames := 2, cells := 0, slots := 0, locals := 44 }
set_option maxHeartbeats 4000000 in
set_option maxRecDepth 100000 in
theorem c_X7_take (l : Launch) (D : va_G) (cI cJ : ClassId) (h0 wa : Nat) (w : Nat → Nat) (sg ri fa : Nat) (h1 da sa k : Nat) (DF : Nat → Int) (SF : Nat → Nat) (hk : k ≤ 30) (hD0 : ∀ i, i < k → -3000 ≤ DF i ∧ DF i ≤ 3000) (hab : abN DF k ≤ 3000) : Cv l D vwCl (tyT cI cJ) yX7_take wsX7_take rmX7_take [.ref h0, .ref h1] [(h0, .inr (6, [.ref wa, .int (iZ ((sg : Nat) : Int)), .int (iZ ((ri : Nat) : Int)), .int (iZ ((fa : Nat) : Int))])), (wa, .inl (cJ, 1501, .inr (.inl (LJ w)))), (h1, .inr (7, [.ref da, .ref sa, .int (iZ ((k : Nat) : Int))])), (da, .inl (cI, 30, .inl (ZI DF))), (sa, .inl (cI, 30, .inl (LI SF)))] (Nat → Nat) (fun r => ∀ j, j ≤ (min (min (riN DF k) (faN DF k)) 1500) → r j = subP DF k j) (fun r => [(h0, .inr (6, [.ref wa, .int (iZ ((sgN DF k : Nat) : Int)), .int (iZ ((riN DF k : Nat) : Int)), .int (iZ ((faN DF k : Nat) : Int))])), (wa, .inl (cJ, 1501, .inr (.inl (LJ r)))), (h1, .inr (7, [.ref da, .ref sa, .int (iZ ((k : Nat) : Int))])), (da, .inl (cI, 30, .inl (ZI DF))), (sa, .inl (cI, 30, .inl (LI SF)))]) := by
  have hri : riN DF k ≤ 3000 := by have := abN_eq DF k; omega
  have hfa : faN DF k ≤ 3000 := by have := abN_eq DF k; omega
  obtain ⟨Rr, eR⟩ : ∃ Rr : Nat, Rr = (min (min (riN DF k) (faN DF k)) 1500) := ⟨_, rfl⟩
  have hR5 : Rr ≤ 1500 := by omega
  refine en_v (cc := cX7_take) (maxL := 6) (by decide) rfl [(0, .ref h0), (1, .ref h1)] (Nat.le_of_ble_eq_true rfl) rfl ?_
  intro p e s m args below meth c Q A hx hb hml hown hts hnm hK hP hD hA hS hret ls hl
  have hh_0 := hts (.fieldLink RX7 9 "BoundDraws$Turns" "waysByMinus" "[J") (by decide +kernel)
  have hh_1 := (show ∀ w ∈ wsX70, w ∈ wsX7_take by decide +kernel)
  have hh_2 := hts (.methodLink RX7 40 Lib.Math.abs.name) (by decide +kernel)
  have hh_3 := hts (.static Lib.Math.abs.name) (by decide +kernel)
  have hh_4 := hts (.initialized "java/lang/Math") (by decide +kernel)
  have hh_5 := hts (.code Lib.Math.abs.name Lib.Math.abs.code 1 (some .int)) (by decide +kernel)
  have hh_6 := hts (.methodLink RX7 45 Lib.Math.min.name) (by decide +kernel)
  have hh_7 := hts (.static Lib.Math.min.name) (by decide +kernel)
  have hh_8 := hts (.code Lib.Math.min.name Lib.Math.min.code 2 (some .int)) (by decide +kernel)
  refine lv_aload_n hx hb dX7_take_0 rfl (lv_at hl 0 rfl) ?_
  refine lv_aload_n hx hb dX7_take_1 rfl (lv_at hl 1 rfl) ?_
  refine ca_vV [.ref h1] [] [] 0 0 ⟨hx, hb, hml, hown, hts⟩ (c_X7_measure l D cI cJ h0 wa w sg ri fa h1 da sa k DF SF hk hD0) (cwV 1 hts gX7_take_X7_measure rfl rfl rfl (by decide +kernel) ⟨(Nat.le_of_ble_eq_true rfl), (Nat.le_of_ble_eq_true rfl)⟩) hK hP hD hS hA [0, 1, 2, 3, 4] [] rfl rfl rfl rfl (by decide) 0 rfl rfl rfl hl.1 rfl (Nat.le_of_ble_eq_true rfl) dX7_take_2 ⟨(Nat.le_of_ble_eq_true rfl), (Nat.le_of_ble_eq_true rfl)⟩ (Nat.le_of_ble_eq_true rfl) (Nat.le_of_ble_eq_true rfl) (fun u9 H locs hw hP hD hS => ?_)
  obtain u9 := u9
  try dsimp only at hw
  have hP : va_P D vwCl [(h0, .inr (6, [.ref wa, .int (iZ ((sgN DF k : Nat) : Int)), .int (iZ ((riN DF k : Nat) : Int)), .int (iZ ((faN DF k : Nat) : Int))])), (wa, .inl (cJ, 1501, .inr (.inl (LJ w)))), (h1, .inr (7, [.ref da, .ref sa, .int (iZ ((k : Nat) : Int))])), (da, .inl (cI, 30, .inl (ZI DF))), (sa, .inl (cI, 30, .inl (LI SF)))] H := hP
  have hD : va_D A [(h0, .inr (6, [.ref wa, .int (iZ ((sgN DF k : Nat) : Int)), .int (iZ ((riN DF k : Nat) : Int)), .int (iZ ((faN DF k : Nat) : Int))])), (wa, .inl (cJ, 1501, .inr (.inl (LJ w)))), (h1, .inr (7, [.ref da, .ref sa, .int (iZ ((k : Nat) : Int))])), (da, .inl (cI, 30, .inl (ZI DF))), (sa, .inl (cI, 30, .inl (LI SF)))] := hD
  refine lv_aload_n hx hb dX7_take_5 rfl (lv_at hl 0 rfl) ?_
  refine ca_iV [] [] [(h1, .inr (7, [.ref da, .ref sa, .int (iZ ((k : Nat) : Int))])), (da, .inl (cI, 30, .inl (ZI DF))), (sa, .inl (cI, 30, .inl (LI SF)))] 0 0 ⟨hx, hb, hml, hown, hts⟩ (c_X7_reach l D cI cJ h0 wa w _ _ _ hri hfa) (cwV 0 hts gX7_take_X7_reach rfl rfl rfl (by decide +kernel) ⟨(Nat.le_of_ble_eq_true rfl), (Nat.le_of_ble_eq_true rfl)⟩) hK hP hD hS hA [0, 1] [2, 3, 4] rfl rfl rfl rfl (by decide) 0 rfl rfl rfl hl.1 rfl (Nat.le_of_ble_eq_true rfl) dX7_take_6 ⟨(Nat.le_of_ble_eq_true rfl), (Nat.le_of_ble_eq_true rfl)⟩ (Nat.le_of_ble_eq_true rfl) (Nat.le_of_ble_eq_true rfl) (fun r_6 u9 H locs hw hP hD hS => ?_)
  obtain u9 := u9
  try dsimp only at hw
  have hP : va_P D vwCl [(h1, .inr (7, [.ref da, .ref sa, .int (iZ ((k : Nat) : Int))])), (da, .inl (cI, 30, .inl (ZI DF))), (sa, .inl (cI, 30, .inl (LI SF))), (h0, .inr (6, [.ref wa, .int (iZ ((sgN DF k : Nat) : Int)), .int (iZ ((riN DF k : Nat) : Int)), .int (iZ ((faN DF k : Nat) : Int))])), (wa, .inl (cJ, 1501, .inr (.inl (LJ w))))] H := hP
  have hD : va_D A [(h1, .inr (7, [.ref da, .ref sa, .int (iZ ((k : Nat) : Int))])), (da, .inl (cI, 30, .inl (ZI DF))), (sa, .inl (cI, 30, .inl (LI SF))), (h0, .inr (6, [.ref wa, .int (iZ ((sgN DF k : Nat) : Int)), .int (iZ ((riN DF k : Nat) : Int)), .int (iZ ((faN DF k : Nat) : Int))])), (wa, .inl (cJ, 1501, .inr (.inl (LJ w))))] := hD
  refine tp_i (y := (iZ ((Rr : Nat) : Int))) (by rw [hw, eR]) ?_
  refine lv_istore_n (lv' := [(2, .int (iZ ((Rr : Nat) : Int))), (0, .ref h0), (1, .ref h1)]) hx hb dX7_take_9 rfl hl (by decide) rfl (fun ls hl => ?_)
  refine zc_iconst (z := ((0 : Nat) : Int)) hx hb dX7_take_10 (by decide) ?_
  refine lv_istore_n (lv' := [(3, .int (iZ ((0 : Nat) : Int))), (2, .int (iZ ((Rr : Nat) : Int))), (0, .ref h0), (1, .ref h1)]) hx hb dX7_take_11 rfl hl (by decide) rfl (fun ls hl => ?_)
  have pt_12 : ∀ f : Nat, ∀ (i : Nat) (w : Nat → Nat), (hi : i ≤ Rr + 1) → (hw0 : ∀ j, j < i → w j = 0) → (hf : Rr + 1 < i + f) → (H : Heap) → (locs : List Loc) → va_P D vwCl [(h0, .inr (6, [.ref wa, .int (iZ ((sgN DF k : Nat) : Int)), .int (iZ ((riN DF k : Nat) : Int)), .int (iZ ((faN DF k : Nat) : Int))])), (wa, .inl (cJ, 1501, .inr (.inl (LJ w)))), (h1, .inr (7, [.ref da, .ref sa, .int (iZ ((k : Nat) : Int))])), (da, .inl (cI, 30, .inl (ZI DF))), (sa, .inl (cI, 30, .inl (LI SF)))] H → va_D A [(h0, .inr (6, [.ref wa, .int (iZ ((sgN DF k : Nat) : Int)), .int (iZ ((riN DF k : Nat) : Int)), .int (iZ ((faN DF k : Nat) : Int))])), (wa, .inl (cJ, 1501, .inr (.inl (LJ w)))), (h1, .inr (7, [.ref da, .ref sa, .int (iZ ((k : Nat) : Int))])), (da, .inl (cI, 30, .inl (ZI DF))), (sa, .inl (cI, 30, .inl (LI SF)))] → va_S A s.heap H locs → (ls : Array Slot) → lv_has ls 6 [(3, .int (iZ ((i : Nat) : Int))), (2, .int (iZ ((Rr : Nat) : Int))), (0, .ref h0), (1, .ref h1)] → W p l e rmX7_take s m args below meth c H locs 0 0 Q (F0 m 12 ls []) := by
    intro f
    induction f with
    | zero =>
      intro i w hi hw0 hf H locs hP hD hS ls hl
      exfalso; omega
    | succ f ih =>
      intro i w hi hw0 hf H locs hP hD hS ls hl
      refine lv_iload_n hx hb dX7_take_12 rfl (lv_at hl 0 rfl) ?_
      refine lv_iload_n hx hb dX7_take_13 rfl (lv_at hl 1 rfl) ?_
      refine zb_icmp_gt (x := ((i : Nat) : Int)) (y := ((Rr : Nat) : Int)) (tgt := 30) hx hb dX7_take_14 (by decide) ⟨by omega, by omega⟩ ⟨by omega, by omega⟩ (fun c_14 => ?_) (fun c_14 => ?_)
      · refine lv_aload_n hx hb dX7_take_30 rfl (lv_at hl 2 rfl) ?_
        refine va_get (D := D) (ci := 6) (v := .ref wa) (C := RX7) (T := TX7) (N := 4) hx hb hts hh_1 hown hK hP 0 rfl rfl 0 (by decide) hh_0 (fun _ h9 => h9) rfl dX7_take_31 ?_
        refine zc_iconst (z := ((0 : Nat) : Int)) hx hb dX7_take_34 (by decide) ?_
        refine zc_lconst (z := ((1 : Nat) : Int)) hx hb dX7_take_35 (by decide) ?_
        refine za_last hx hb hK hP hD hS 1 1 rfl rfl (0) (by decide) rfl (by omega) dX7_take_36 (fun H locs hP hD hS => ?_)
        have hP : va_P D vwCl [(h0, .inr (6, [.ref wa, .int (iZ ((sgN DF k : Nat) : Int)), .int (iZ ((riN DF k : Nat) : Int)), .int (iZ ((faN DF k : Nat) : Int))])), (wa, .inl (cJ, 1501, .inr (.inl (vp_updL (LJ w) (0) ((lZ ((1 : Nat) : Int))))))), (h1, .inr (7, [.ref da, .ref sa, .int (iZ ((k : Nat) : Int))])), (da, .inl (cI, 30, .inl (ZI DF))), (sa, .inl (cI, 30, .inl (LI SF)))] H := hP
        have hD : va_D A [(h0, .inr (6, [.ref wa, .int (iZ ((sgN DF k : Nat) : Int)), .int (iZ ((riN DF k : Nat) : Int)), .int (iZ ((faN DF k : Nat) : Int))])), (wa, .inl (cJ, 1501, .inr (.inl (vp_updL (LJ w) (0) ((lZ ((1 : Nat) : Int))))))), (h1, .inr (7, [.ref da, .ref sa, .int (iZ ((k : Nat) : Int))])), (da, .inl (cI, 30, .inl (ZI DF))), (sa, .inl (cI, 30, .inl (LI SF)))] := hD
        rw [LJ_up] at hP hD
        obtain ⟨w2, ew2⟩ : ∃ g9, g9 = nup w (0) (1) := ⟨_, rfl⟩
        rw [← ew2] at hP hD
        have hP : va_P D vwCl [(h0, .inr (6, [.ref wa, .int (iZ ((sgN DF k : Nat) : Int)), .int (iZ ((riN DF k : Nat) : Int)), .int (iZ ((faN DF k : Nat) : Int))])), (wa, .inl (cJ, 1501, .inr (.inl (LJ w2)))), (h1, .inr (7, [.ref da, .ref sa, .int (iZ ((k : Nat) : Int))])), (da, .inl (cI, 30, .inl (ZI DF))), (sa, .inl (cI, 30, .inl (LI SF)))] H := hP
        have hD : va_D A [(h0, .inr (6, [.ref wa, .int (iZ ((sgN DF k : Nat) : Int)), .int (iZ ((riN DF k : Nat) : Int)), .int (iZ ((faN DF k : Nat) : Int))])), (wa, .inl (cJ, 1501, .inr (.inl (LJ w2)))), (h1, .inr (7, [.ref da, .ref sa, .int (iZ ((k : Nat) : Int))])), (da, .inl (cI, 30, .inl (ZI DF))), (sa, .inl (cI, 30, .inl (LI SF)))] := hD
        refine zc_iconst (z := ((0 : Nat) : Int)) hx hb dX7_take_37 (by decide) ?_
        refine tp_i (y := (iZ ((min (abN DF 0) Rr : Nat) : Int))) (congrArg iZ (by show ((0 : Nat) : Int) = ((min 0 Rr : Nat) : Int); omega)) ?_
        refine lv_istore_n (lv' := [(3, .int (iZ ((min (abN DF 0) Rr : Nat) : Int))), (2, .int (iZ ((Rr : Nat) : Int))), (0, .ref h0), (1, .ref h1)]) hx hb dX7_take_38 rfl hl (by decide) rfl (fun ls hl => ?_)
        refine zc_iconst (z := ((0 : Nat) : Int)) hx hb dX7_take_39 (by decide) ?_
        refine lv_istore (lv' := [(4, .int (iZ ((0 : Nat) : Int))), (3, .int (iZ ((min (abN DF 0) Rr : Nat) : Int))), (2, .int (iZ ((Rr : Nat) : Int))), (0, .ref h0), (1, .ref h1)]) hx hb dX7_take_40 hl (by decide) rfl (fun ls hl => ?_)
        have pt_42 : ∀ f : Nat, ∀ (i : Nat) (w : Nat → Nat), (hi : i ≤ k) → (hw0 : ∀ j, j ≤ Rr → w j = subP DF i j) → (hf : k < i + f) → (H : Heap) → (locs : List Loc) → va_P D vwCl [(h0, .inr (6, [.ref wa, .int (iZ ((sgN DF k : Nat) : Int)), .int (iZ ((riN DF k : Nat) : Int)), .int (iZ ((faN DF k : Nat) : Int))])), (wa, .inl (cJ, 1501, .inr (.inl (LJ w)))), (h1, .inr (7, [.ref da, .ref sa, .int (iZ ((k : Nat) : Int))])), (da, .inl (cI, 30, .inl (ZI DF))), (sa, .inl (cI, 30, .inl (LI SF)))] H → va_D A [(h0, .inr (6, [.ref wa, .int (iZ ((sgN DF k : Nat) : Int)), .int (iZ ((riN DF k : Nat) : Int)), .int (iZ ((faN DF k : Nat) : Int))])), (wa, .inl (cJ, 1501, .inr (.inl (LJ w)))), (h1, .inr (7, [.ref da, .ref sa, .int (iZ ((k : Nat) : Int))])), (da, .inl (cI, 30, .inl (ZI DF))), (sa, .inl (cI, 30, .inl (LI SF)))] → va_S A s.heap H locs → (ls : Array Slot) → lv_has ls 6 [(4, .int (iZ ((i : Nat) : Int))), (3, .int (iZ ((min (abN DF i) Rr : Nat) : Int))), (2, .int (iZ ((Rr : Nat) : Int))), (0, .ref h0), (1, .ref h1)] → W p l e rmX7_take s m args below meth c H locs 0 0 Q (F0 m 42 ls []) := by
          intro f
          induction f with
          | zero =>
            intro i w hi hw0 hf H locs hP hD hS ls hl
            exfalso; omega
          | succ f ih =>
            intro i w hi hw0 hf H locs hP hD hS ls hl
            refine lv_iload hx hb dX7_take_42 (lv_at hl 0 rfl) ?_
            refine lv_aload_n hx hb dX7_take_44 rfl (lv_at hl 4 rfl) ?_
            refine ca_iV [] [.int (iZ ((i : Nat) : Int))] [(h0, .inr (6, [.ref wa, .int (iZ ((sgN DF k : Nat) : Int)), .int (iZ ((riN DF k : Nat) : Int)), .int (iZ ((faN DF k : Nat) : Int))])), (wa, .inl (cJ, 1501, .inr (.inl (LJ w))))] 0 0 ⟨hx, hb, hml, hown, hts⟩ (c_X8_size l D cI cJ h1 da sa k DF SF) (cwV 0 hts gX7_take_X8_size rfl rfl rfl (by decide +kernel) ⟨(Nat.le_of_ble_eq_true rfl), (Nat.le_of_ble_eq_true rfl)⟩) hK hP hD hS hA [2, 3, 4] [0, 1] rfl rfl rfl rfl (by decide) 0 rfl rfl rfl hl.1 rfl (Nat.le_of_ble_eq_true rfl) dX7_take_45 ⟨(Nat.le_of_ble_eq_true rfl), (Nat.le_of_ble_eq_true rfl)⟩ (Nat.le_of_ble_eq_true rfl) (Nat.le_of_ble_eq_true rfl) (fun r_45 u9 H locs hw hP hD hS => ?_)
            obtain u9 := u9
            try dsimp only at hw
            have hP : va_P D vwCl [(h0, .inr (6, [.ref wa, .int (iZ ((sgN DF k : Nat) : Int)), .int (iZ ((riN DF k : Nat) : Int)), .int (iZ ((faN DF k : Nat) : Int))])), (wa, .inl (cJ, 1501, .inr (.inl (LJ w)))), (h1, .inr (7, [.ref da, .ref sa, .int (iZ ((k : Nat) : Int))])), (da, .inl (cI, 30, .inl (ZI DF))), (sa, .inl (cI, 30, .inl (LI SF)))] H := hP
            have hD : va_D A [(h0, .inr (6, [.ref wa, .int (iZ ((sgN DF k : Nat) : Int)), .int (iZ ((riN DF k : Nat) : Int)), .int (iZ ((faN DF k : Nat) : Int))])), (wa, .inl (cJ, 1501, .inr (.inl (LJ w)))), (h1, .inr (7, [.ref da, .ref sa, .int (iZ ((k : Nat) : Int))])), (da, .inl (cI, 30, .inl (ZI DF))), (sa, .inl (cI, 30, .inl (LI SF)))] := hD
            refine tp_i (y := (iZ ((k : Nat) : Int))) (hw) ?_
            refine zb_icmp_ge (x := ((i : Nat) : Int)) (y := ((k : Nat) : Int)) (tgt := 89) hx hb dX7_take_48 (by decide) ⟨by omega, by omega⟩ ⟨by omega, by omega⟩ (fun c_48 => ?_) (fun c_48 => ?_)
            · exact hret (w) _ _ _ _ _ _ (Nat.le_of_ble_eq_true rfl) (Nat.le_of_ble_eq_true rfl) dX7_take_89 (by have e9 : i = k := (by omega); rw [e9, eR] at hw0; exact hw0) hP hD hS
            · have pt_83 : ∀ (w : Nat → Nat), (hw0 : ∀ j, j ≤ Rr → w j = subP DF (i + 1) j) → (H : Heap) → (locs : List Loc) → va_P D vwCl [(h0, .inr (6, [.ref wa, .int (iZ ((sgN DF k : Nat) : Int)), .int (iZ ((riN DF k : Nat) : Int)), .int (iZ ((faN DF k : Nat) : Int))])), (wa, .inl (cJ, 1501, .inr (.inl (LJ w)))), (h1, .inr (7, [.ref da, .ref sa, .int (iZ ((k : Nat) : Int))])), (da, .inl (cI, 30, .inl (ZI DF))), (sa, .inl (cI, 30, .inl (LI SF)))] H → va_D A [(h0, .inr (6, [.ref wa, .int (iZ ((sgN DF k : Nat) : Int)), .int (iZ ((riN DF k : Nat) : Int)), .int (iZ ((faN DF k : Nat) : Int))])), (wa, .inl (cJ, 1501, .inr (.inl (LJ w)))), (h1, .inr (7, [.ref da, .ref sa, .int (iZ ((k : Nat) : Int))])), (da, .inl (cI, 30, .inl (ZI DF))), (sa, .inl (cI, 30, .inl (LI SF)))] → va_S A s.heap H locs → (ls : Array Slot) → lv_has ls 6 [(4, .int (iZ ((i : Nat) : Int))), (3, .int (iZ ((min (abN DF (i + 1)) Rr : Nat) : Int))), (2, .int (iZ ((Rr : Nat) : Int))), (0, .ref h0), (1, .ref h1)] → W p l e rmX7_take s m args below meth c H locs 0 0 Q (F0 m 83 ls []) := by
                intro w hw0 H locs hP hD hS ls hl
                refine lv_iinc (v := iZ ((i + 1 : Nat) : Int)) (lv' := [(4, .int (iZ ((i + 1 : Nat) : Int))), (3, .int (iZ ((min (abN DF (i + 1)) Rr : Nat) : Int))), (2, .int (iZ ((Rr : Nat) : Int))), (0, .ref h0), (1, .ref h1)]) hx hb dX7_take_83 hl (k := 0) rfl (zi_inc (by omega)) (by decide) rfl (fun ls hl => ?_)
                refine lv_goto (tgt := 42) hx hb dX7_take_86 (by decide) ?_
                exact ih (i + 1) w (by omega) hw0 (by omega) _ _ hP hD hS ls (lv_sub hl [0, 1, 2, 3, 4] rfl)
              refine lv_aload_n hx hb dX7_take_51 rfl (lv_at hl 4 rfl) ?_
              refine lv_iload hx hb dX7_take_52 (lv_at hl 0 rfl) ?_
              refine ca_iV [.int (iZ ((i : Nat) : Int))] [] [(h0, .inr (6, [.ref wa, .int (iZ ((sgN DF k : Nat) : Int)), .int (iZ ((riN DF k : Nat) : Int)), .int (iZ ((faN DF k : Nat) : Int))])), (wa, .inl (cJ, 1501, .inr (.inl (LJ w))))] 0 0 ⟨hx, hb, hml, hown, hts⟩ (c_X8_difference l D cI cJ h1 da sa k DF SF i (by omega) hk) (cwV 1 hts gX7_take_X8_difference rfl rfl rfl (by decide +kernel) ⟨(Nat.le_of_ble_eq_true rfl), (Nat.le_of_ble_eq_true rfl)⟩) hK hP hD hS hA [2, 3, 4] [0, 1] rfl rfl rfl rfl (by decide) 0 rfl rfl rfl hl.1 rfl (Nat.le_of_ble_eq_true rfl) dX7_take_54 ⟨(Nat.le_of_ble_eq_true rfl), (Nat.le_of_ble_eq_true rfl)⟩ (Nat.le_of_ble_eq_true rfl) (Nat.le_of_ble_eq_true rfl) (fun r_54 u9 H locs hw hP hD hS => ?_)
              obtain u9 := u9
              try dsimp only at hw
              have hP : va_P D vwCl [(h0, .inr (6, [.ref wa, .int (iZ ((sgN DF k : Nat) : Int)), .int (iZ ((riN DF k : Nat) : Int)), .int (iZ ((faN DF k : Nat) : Int))])), (wa, .inl (cJ, 1501, .inr (.inl (LJ w)))), (h1, .inr (7, [.ref da, .ref sa, .int (iZ ((k : Nat) : Int))])), (da, .inl (cI, 30, .inl (ZI DF))), (sa, .inl (cI, 30, .inl (LI SF)))] H := hP
              have hD : va_D A [(h0, .inr (6, [.ref wa, .int (iZ ((sgN DF k : Nat) : Int)), .int (iZ ((riN DF k : Nat) : Int)), .int (iZ ((faN DF k : Nat) : Int))])), (wa, .inl (cJ, 1501, .inr (.inl (LJ w)))), (h1, .inr (7, [.ref da, .ref sa, .int (iZ ((k : Nat) : Int))])), (da, .inl (cI, 30, .inl (ZI DF))), (sa, .inl (cI, 30, .inl (LI SF)))] := hD
              have hb9 := hD0 i (by omega)
              refine tp_i (y := (iZ (DF i))) (hw) ?_
              refine zm_abs (z := (((DF i).natAbs : Nat) : Int)) hx hb (hml.trans hl.1.symm) hown hh_2 hh_3 hh_4 hh_5 (Nat.le_of_ble_eq_true rfl) (Nat.le_of_ble_eq_true rfl) ⟨by omega, by omega⟩ (by omega) dX7_take_57 ?_
              refine lv_istore (lv' := [(5, .int (iZ (((DF i).natAbs : Nat) : Int))), (4, .int (iZ ((i : Nat) : Int))), (3, .int (iZ ((min (abN DF i) Rr : Nat) : Int))), (2, .int (iZ ((Rr : Nat) : Int))), (0, .ref h0), (1, .ref h1)]) hx hb dX7_take_60 hl (by decide) rfl (fun ls hl => ?_)
              refine lv_iload hx hb dX7_take_62 (lv_at hl 0 rfl) ?_
              refine zb_if_le (x := (((DF i).natAbs : Nat) : Int)) (tgt := 83) hx hb dX7_take_64 (by decide) ⟨by omega, by omega⟩ (fun c_64 => ?_) (fun c_64 => ?_)
              · have e9 : abN DF (i + 1) = abN DF i := by show abN DF i + (DF i).natAbs = abN DF i; omega
                rw [← e9] at hl
                exact pt_83 w (fun j h9 => by rw [take_0 (by omega)]; exact hw0 j h9) _ _ hP hD hS ls (lv_sub hl [1, 2, 3, 4, 5] rfl)
              · refine lv_iload_n hx hb dX7_take_67 rfl (lv_at hl 2 rfl) ?_
                refine lv_iload hx hb dX7_take_68 (lv_at hl 0 rfl) ?_
                refine zi_add (z := (((min (abN DF i) Rr) + ((DF i).natAbs) : Nat) : Int)) hx hb dX7_take_70 (by omega) ?_
                refine lv_iload_n hx hb dX7_take_71 rfl (lv_at hl 3 rfl) ?_
                refine zm_min (z := ((min (min (abN DF i) Rr + (DF i).natAbs) Rr : Nat) : Int)) hx hb (hml.trans hl.1.symm) hown hh_6 hh_7 hh_4 hh_8 (Nat.le_of_ble_eq_true rfl) (Nat.le_of_ble_eq_true rfl) ⟨by omega, by omega⟩ ⟨by omega, by omega⟩ (by omega) dX7_take_72 ?_
                refine lv_istore_n (lv' := [(3, .int (iZ ((min (min (abN DF i) Rr + (DF i).natAbs) Rr : Nat) : Int))), (5, .int (iZ (((DF i).natAbs : Nat) : Int))), (4, .int (iZ ((i : Nat) : Int))), (2, .int (iZ ((Rr : Nat) : Int))), (0, .ref h0), (1, .ref h1)]) hx hb dX7_take_75 rfl hl (by decide) rfl (fun ls hl => ?_)
                refine lv_aload_n hx hb dX7_take_76 rfl (lv_at hl 4 rfl) ?_
                refine lv_iload hx hb dX7_take_77 (lv_at hl 1 rfl) ?_
                refine lv_iload_n hx hb dX7_take_79 rfl (lv_at hl 0 rfl) ?_
                refine ca_vV [.int (iZ (((DF i).natAbs : Nat) : Int)), .int (iZ ((min (min (abN DF i) Rr + (DF i).natAbs) Rr : Nat) : Int))] [] [(h1, .inr (7, [.ref da, .ref sa, .int (iZ ((k : Nat) : Int))])), (da, .inl (cI, 30, .inl (ZI DF))), (sa, .inl (cI, 30, .inl (LI SF)))] 0 0 ⟨hx, hb, hml, hown, hts⟩ (c_X7_takeSign l D cI cJ h0 wa w _ _ _ (DF i).natAbs (min (min (abN DF i) Rr + (DF i).natAbs) Rr) (by omega) (by omega) (by omega)) (cwV 2 hts gX7_take_X7_takeSign rfl rfl rfl (by decide +kernel) ⟨(Nat.le_of_ble_eq_true rfl), (Nat.le_of_ble_eq_true rfl)⟩) hK hP hD hS hA [0, 1] [2, 3, 4] rfl rfl rfl rfl (by decide) 0 rfl rfl rfl hl.1 rfl (Nat.le_of_ble_eq_true rfl) dX7_take_80 ⟨(Nat.le_of_ble_eq_true rfl), (Nat.le_of_ble_eq_true rfl)⟩ (Nat.le_of_ble_eq_true rfl) (Nat.le_of_ble_eq_true rfl) (fun w3 H locs hw hP hD hS => ?_)
                try dsimp only at hw
                obtain ⟨hwa, hwb⟩ := hw
                have hP : va_P D vwCl [(h1, .inr (7, [.ref da, .ref sa, .int (iZ ((k : Nat) : Int))])), (da, .inl (cI, 30, .inl (ZI DF))), (sa, .inl (cI, 30, .inl (LI SF))), (h0, .inr (6, [.ref wa, .int (iZ ((sgN DF k : Nat) : Int)), .int (iZ ((riN DF k : Nat) : Int)), .int (iZ ((faN DF k : Nat) : Int))])), (wa, .inl (cJ, 1501, .inr (.inl (LJ w3))))] H := hP
                have hD : va_D A [(h1, .inr (7, [.ref da, .ref sa, .int (iZ ((k : Nat) : Int))])), (da, .inl (cI, 30, .inl (ZI DF))), (sa, .inl (cI, 30, .inl (LI SF))), (h0, .inr (6, [.ref wa, .int (iZ ((sgN DF k : Nat) : Int)), .int (iZ ((riN DF k : Nat) : Int)), .int (iZ ((faN DF k : Nat) : Int))])), (wa, .inl (cJ, 1501, .inr (.inl (LJ w3))))] := hD
                have e9 : min (min (abN DF i) Rr + (DF i).natAbs) Rr = min (abN DF (i + 1)) Rr := by show _ = min (abN DF i + (DF i).natAbs) Rr; omega
                rw [e9] at hl
                exact pt_83 w3 (take_step (by omega) hw0 rfl hwa hwb) _ _ (hP.sub [3, 4, 0, 1, 2] rfl) (hD.sub [3, 4, 0, 1, 2] rfl rfl) hS ls (lv_sub hl [2, 0, 3, 4, 5] rfl)
        exact pt_42 (k + 1) 0 w2 (by omega) (fun j h9 => by rw [ew2, subP]; by_cases e9 : j = 0; (· rw [e9, nup_s, if_pos rfl]); (· rw [nup_n e9, if_neg e9]; exact hw0 j (by omega))) (by omega) _ _ hP hD hS ls (lv_sub hl [0, 1, 2, 3, 4] rfl)
      · refine lv_aload_n hx hb dX7_take_17 rfl (lv_at hl 2 rfl) ?_
        refine va_get (D := D) (ci := 6) (v := .ref wa) (C := RX7) (T := TX7) (N := 4) hx hb hts hh_1 hown hK hP 0 rfl rfl 0 (by decide) hh_0 (fun _ h9 => h9) rfl dX7_take_18 ?_
        refine lv_iload_n hx hb dX7_take_21 rfl (lv_at hl 0 rfl) ?_
        refine zc_lconst (z := ((0 : Nat) : Int)) hx hb dX7_take_22 (by decide) ?_
        refine za_last hx hb hK hP hD hS 1 1 rfl rfl (i) (by decide) rfl (by omega) dX7_take_23 (fun H locs hP hD hS => ?_)
        have hP : va_P D vwCl [(h0, .inr (6, [.ref wa, .int (iZ ((sgN DF k : Nat) : Int)), .int (iZ ((riN DF k : Nat) : Int)), .int (iZ ((faN DF k : Nat) : Int))])), (wa, .inl (cJ, 1501, .inr (.inl (vp_updL (LJ w) (i) ((lZ ((0 : Nat) : Int))))))), (h1, .inr (7, [.ref da, .ref sa, .int (iZ ((k : Nat) : Int))])), (da, .inl (cI, 30, .inl (ZI DF))), (sa, .inl (cI, 30, .inl (LI SF)))] H := hP
        have hD : va_D A [(h0, .inr (6, [.ref wa, .int (iZ ((sgN DF k : Nat) : Int)), .int (iZ ((riN DF k : Nat) : Int)), .int (iZ ((faN DF k : Nat) : Int))])), (wa, .inl (cJ, 1501, .inr (.inl (vp_updL (LJ w) (i) ((lZ ((0 : Nat) : Int))))))), (h1, .inr (7, [.ref da, .ref sa, .int (iZ ((k : Nat) : Int))])), (da, .inl (cI, 30, .inl (ZI DF))), (sa, .inl (cI, 30, .inl (LI SF)))] := hD
        rw [LJ_up] at hP hD
        obtain ⟨w1, ew1⟩ : ∃ g9, g9 = nup w (i) (0) := ⟨_, rfl⟩
        rw [← ew1] at hP hD
        have hP : va_P D vwCl [(h0, .inr (6, [.ref wa, .int (iZ ((sgN DF k : Nat) : Int)), .int (iZ ((riN DF k : Nat) : Int)), .int (iZ ((faN DF k : Nat) : Int))])), (wa, .inl (cJ, 1501, .inr (.inl (LJ w1)))), (h1, .inr (7, [.ref da, .ref sa, .int (iZ ((k : Nat) : Int))])), (da, .inl (cI, 30, .inl (ZI DF))), (sa, .inl (cI, 30, .inl (LI SF)))] H := hP
        have hD : va_D A [(h0, .inr (6, [.ref wa, .int (iZ ((sgN DF k : Nat) : Int)), .int (iZ ((riN DF k : Nat) : Int)), .int (iZ ((faN DF k : Nat) : Int))])), (wa, .inl (cJ, 1501, .inr (.inl (LJ w1)))), (h1, .inr (7, [.ref da, .ref sa, .int (iZ ((k : Nat) : Int))])), (da, .inl (cI, 30, .inl (ZI DF))), (sa, .inl (cI, 30, .inl (LI SF)))] := hD
        refine lv_iinc (v := iZ ((i + 1 : Nat) : Int)) (lv' := [(3, .int (iZ ((i + 1 : Nat) : Int))), (2, .int (iZ ((Rr : Nat) : Int))), (0, .ref h0), (1, .ref h1)]) hx hb dX7_take_24 hl (k := 0) rfl (zi_inc (by omega)) (by decide) rfl (fun ls hl => ?_)
        refine lv_goto (tgt := 12) hx hb dX7_take_27 (by decide) ?_
        exact ih (i + 1) w1 (by omega) (fun j h9 => by rw [ew1]; by_cases e9 : j = i; (· rw [e9, nup_s]); (· rw [nup_n e9]; exact hw0 j (by omega))) (by omega) _ _ hP hD hS ls (lv_sub hl [0, 1, 2, 3] rfl)
  exact pt_12 (Rr + 2) 0 w (by omega) (fun j h9 => by omega) (by omega) _ _ (hP.sub [3, 4, 0, 1, 2] rfl) (hD.sub [3, 4, 0, 1, 2] rfl rfl) hS ls (lv_sub hl [0, 1, 2, 3] rfl)
def rmX7_signs : Room := { frames := 0, cells := 0, slots := 0, locals := 0 }
set_option maxHeartbeats 4000000 in
set_option maxRecDepth 100000 in
theorem c_X7_signs (l : Launch) (D : va_G) (cI cJ : ClassId) (h0 wa : Nat) (w : Nat → Nat) (sg ri fa : Nat) : Ci l D vwCl (tyT cI cJ) yX7_signs wsX7_signs rmX7_signs [.ref h0] [(h0, .inr (6, [.ref wa, .int (iZ ((sg : Nat) : Int)), .int (iZ ((ri : Nat) : Int)), .int (iZ ((fa : Nat) : Int))])), (wa, .inl (cJ, 1501, .inr (.inl (LJ w))))] (Unit) (fun r _ => r = iZ ((sg : Nat) : Int)) (fun _ => [(h0, .inr (6, [.ref wa, .int (iZ ((sg : Nat) : Int)), .int (iZ ((ri : Nat) : Int)), .int (iZ ((fa : Nat) : Int))])), (wa, .inl (cJ, 1501, .inr (.inl (LJ w))))]) := by
  refine en_i (cc := cX7_signs) (maxL := 1) (by decide) rfl [(0, .ref h0)] (Nat.le_of_ble_eq_true rfl) rfl ?_
  intro p e s m args below meth c Q A hx hb hml hown hts hnm hK hP hD hA hS hret ls hl
  have hh_0 := hts (.fieldLink RX7 13 "BoundDraws$Turns" "signs" "I") (by decide +kernel)
  have hh_1 := (show ∀ w ∈ wsX70, w ∈ wsX7_signs by decide +kernel)
  refine lv_aload_n hx hb dX7_signs_0 rfl (lv_at hl 0 rfl) ?_
  refine va_get (D := D) (ci := 6) (v := .int (iZ ((sg : Nat) : Int))) (C := RX7) (T := TX7) (N := 4) hx hb hts hh_1 hown hK hP 0 rfl rfl 1 (by decide) hh_0 (fun _ h9 => h9) rfl dX7_signs_1 ?_
  exact hret _ (()) _ _ _ _ _ _ (Nat.le_of_ble_eq_true rfl) (Nat.le_of_ble_eq_true rfl) rfl dX7_signs_4 (rfl) hP hD hS
def rmX7_allWays : Room := { frames := 0, cells := 0, slots := 0, locals := 0 }
set_option maxHeartbeats 4000000 in
set_option maxRecDepth 100000 in
theorem c_X7_allWays (l : Launch) (D : va_G) (cI cJ : ClassId) (h0 wa : Nat) (w : Nat → Nat) (sg ri fa : Nat) (hsg : sg ≤ 30) : Cl l D vwCl (tyT cI cJ) yX7_allWays wsX7_allWays rmX7_allWays [.ref h0] [(h0, .inr (6, [.ref wa, .int (iZ ((sg : Nat) : Int)), .int (iZ ((ri : Nat) : Int)), .int (iZ ((fa : Nat) : Int))])), (wa, .inl (cJ, 1501, .inr (.inl (LJ w))))] (Unit) (fun r _ => r = lZ ((2 ^ sg : Nat) : Int)) (fun _ => [(h0, .inr (6, [.ref wa, .int (iZ ((sg : Nat) : Int)), .int (iZ ((ri : Nat) : Int)), .int (iZ ((fa : Nat) : Int))])), (wa, .inl (cJ, 1501, .inr (.inl (LJ w))))]) := by
  refine en_l (cc := cX7_allWays) (maxL := 1) (by decide) rfl [(0, .ref h0)] (Nat.le_of_ble_eq_true rfl) rfl ?_
  intro p e s m args below meth c Q A hx hb hml hown hts hnm hK hP hD hA hS hret ls hl
  have hh_0 := hts (.fieldLink RX7 13 "BoundDraws$Turns" "signs" "I") (by decide +kernel)
  have hh_1 := (show ∀ w ∈ wsX70, w ∈ wsX7_allWays by decide +kernel)
  refine zc_lconst (z := ((1 : Nat) : Int)) hx hb dX7_allWays_0 (by decide) ?_
  refine lv_aload_n hx hb dX7_allWays_1 rfl (lv_at hl 0 rfl) ?_
  refine va_get (D := D) (ci := 6) (v := .int (iZ ((sg : Nat) : Int))) (C := RX7) (T := TX7) (N := 4) hx hb hts hh_1 hown hK hP 0 rfl rfl 1 (by decide) hh_0 (fun _ h9 => h9) rfl dX7_allWays_2 ?_
  refine lv_lshl (v := (lZ ((2 ^ sg : Nat) : Int))) hx hb dX7_allWays_5 (by rw [z_lshl 1 (by omega), Nat.one_mul]) ?_
  exact hret _ (()) _ _ _ _ _ _ (Nat.le_of_ble_eq_true rfl) (Nat.le_of_ble_eq_true rfl) dX7_allWays_6 (rfl) hP hD hS
def rmX7_waysUpTo : Room := { frames := 1, cells := 0, slots := 0, locals := 13 }
set_option maxHeartbeats 4000000 in
set_option maxRecDepth 100000 in
theorem c_X7_waysUpTo (l : Launch) (D : va_G) (cI cJ : ClassId) (h0 wa : Nat) (w : Nat → Nat) (sg ri fa : Nat) (x : Nat) (hx0 : x ≤ 1501) : Cl l D vwCl (tyT cI cJ) yX7_waysUpTo wsX7_waysUpTo rmX7_waysUpTo [.ref h0, .int (iZ (((x : Nat) : Int) - 1))] [(h0, .inr (6, [.ref wa, .int (iZ ((sg : Nat) : Int)), .int (iZ ((ri : Nat) : Int)), .int (iZ ((fa : Nat) : Int))])), (wa, .inl (cJ, 1501, .inr (.inl (LJ w))))] (Unit) (fun r _ => r = lZ ((sumN w x : Nat) : Int)) (fun _ => [(h0, .inr (6, [.ref wa, .int (iZ ((sg : Nat) : Int)), .int (iZ ((ri : Nat) : Int)), .int (iZ ((fa : Nat) : Int))])), (wa, .inl (cJ, 1501, .inr (.inl (LJ w))))]) := by
  refine en_l (cc := cX7_waysUpTo) (maxL := 6) (by decide) rfl [(0, .ref h0), (1, .int (iZ (((x : Nat) : Int) - 1)))] (Nat.le_of_ble_eq_true rfl) rfl ?_
  intro p e s m args below meth c Q A hx hb hml hown hts hnm hK hP hD hA hS hret ls hl
  have hh_0 := hts (.methodLink RX7 45 Lib.Math.min.name) (by decide +kernel)
  have hh_1 := hts (.static Lib.Math.min.name) (by decide +kernel)
  have hh_2 := hts (.initialized "java/lang/Math") (by decide +kernel)
  have hh_3 := hts (.code Lib.Math.min.name Lib.Math.min.code 2 (some .int)) (by decide +kernel)
  have hh_4 := hts (.fieldLink RX7 9 "BoundDraws$Turns" "waysByMinus" "[J") (by decide +kernel)
  have hh_5 := (show ∀ w ∈ wsX70, w ∈ wsX7_waysUpTo by decide +kernel)
  refine lv_iload_n hx hb dX7_waysUpTo_0 rfl (lv_at hl 1 rfl) ?_
  refine zc_sipush (z := ((1500 : Nat) : Int)) hx hb dX7_waysUpTo_1 (by decide) ?_
  refine zm_min (z := (((x : Nat) : Int) - 1)) hx hb (hml.trans hl.1.symm) hown hh_0 hh_1 hh_2 hh_3 (Nat.le_of_ble_eq_true rfl) (Nat.le_of_ble_eq_true rfl) ⟨by omega, by omega⟩ ⟨by decide, by decide⟩ (by omega) dX7_waysUpTo_4 ?_
  refine lv_istore_n (lv' := [(2, .int (iZ (((x : Nat) : Int) - 1))), (0, .ref h0), (1, .int (iZ (((x : Nat) : Int) - 1)))]) hx hb dX7_waysUpTo_7 rfl hl (by decide) rfl (fun ls hl => ?_)
  refine zc_lconst (z := ((0 : Nat) : Int)) hx hb dX7_waysUpTo_8 (by decide) ?_
  refine tp_l (y := (lZ ((sumN w 0 : Nat) : Int))) (rfl) ?_
  refine lv_lstore_n (lv' := [(3, .long (lZ ((sumN w 0 : Nat) : Int))), (2, .int (iZ (((x : Nat) : Int) - 1))), (0, .ref h0), (1, .int (iZ (((x : Nat) : Int) - 1)))]) hx hb dX7_waysUpTo_9 rfl hl (by decide) rfl (fun ls hl => ?_)
  refine zc_iconst (z := ((0 : Nat) : Int)) hx hb dX7_waysUpTo_10 (by decide) ?_
  refine lv_istore (lv' := [(5, .int (iZ ((0 : Nat) : Int))), (3, .long (lZ ((sumN w 0 : Nat) : Int))), (2, .int (iZ (((x : Nat) : Int) - 1))), (0, .ref h0), (1, .int (iZ (((x : Nat) : Int) - 1)))]) hx hb dX7_waysUpTo_11 hl (by decide) rfl (fun ls hl => ?_)
  have pt_13 : ∀ f : Nat, ∀ (i : Nat), (hi : i ≤ x) → (hf : x < i + f) → (H : Heap) → (locs : List Loc) → va_P D vwCl [(h0, .inr (6, [.ref wa, .int (iZ ((sg : Nat) : Int)), .int (iZ ((ri : Nat) : Int)), .int (iZ ((fa : Nat) : Int))])), (wa, .inl (cJ, 1501, .inr (.inl (LJ w))))] H → va_D A [(h0, .inr (6, [.ref wa, .int (iZ ((sg : Nat) : Int)), .int (iZ ((ri : Nat) : Int)), .int (iZ ((fa : Nat) : Int))])), (wa, .inl (cJ, 1501, .inr (.inl (LJ w))))] → va_S A s.heap H locs → (ls : Array Slot) → lv_has ls 6 [(5, .int (iZ ((i : Nat) : Int))), (3, .long (lZ ((sumN w i : Nat) : Int))), (2, .int (iZ (((x : Nat) : Int) - 1))), (0, .ref h0)] → W p l e rmX7_waysUpTo s m args below meth c H locs 0 0 Q (F0 m 13 ls []) := by
    intro f
    induction f with
    | zero =>
      intro i hi hf H locs hP hD hS ls hl
      exfalso; omega
    | succ f ih =>
      intro i hi hf H locs hP hD hS ls hl
      refine lv_iload hx hb dX7_waysUpTo_13 (lv_at hl 0 rfl) ?_
      refine lv_iload_n hx hb dX7_waysUpTo_15 rfl (lv_at hl 2 rfl) ?_
      refine zb_icmp_gt (x := ((i : Nat) : Int)) (y := (((x : Nat) : Int) - 1)) (tgt := 35) hx hb dX7_waysUpTo_16 (by decide) ⟨by omega, by omega⟩ ⟨by omega, by omega⟩ (fun c_16 => ?_) (fun c_16 => ?_)
      · refine lv_lload_n hx hb dX7_waysUpTo_35 rfl (lv_at hl 1 rfl) ?_
        exact hret _ (()) _ _ _ _ _ _ (Nat.le_of_ble_eq_true rfl) (Nat.le_of_ble_eq_true rfl) dX7_waysUpTo_36 (by have e9 : i = x := (by omega); rw [e9]) hP hD hS
      · refine lv_lload_n hx hb dX7_waysUpTo_19 rfl (lv_at hl 1 rfl) ?_
        refine lv_aload_n hx hb dX7_waysUpTo_20 rfl (lv_at hl 3 rfl) ?_
        refine va_get (D := D) (ci := 6) (v := .ref wa) (C := RX7) (T := TX7) (N := 4) hx hb hts hh_5 hown hK hP 0 rfl rfl 0 (by decide) hh_4 (fun _ h9 => h9) rfl dX7_waysUpTo_21 ?_
        refine lv_iload hx hb dX7_waysUpTo_24 (lv_at hl 0 rfl) ?_
        refine za_lald hx hb hK hP 1 1 rfl rfl (i) (v := ((w i : Nat) : Int)) (by decide) rfl (by omega) (rfl) dX7_waysUpTo_26 ?_
        refine zl_add (z := ((sumN w (i + 1) : Nat) : Int)) hx hb dX7_waysUpTo_27 (by show _ = ((sumN w i + w i : Nat) : Int); omega) ?_
        refine lv_lstore_n (lv' := [(3, .long (lZ ((sumN w (i + 1) : Nat) : Int))), (5, .int (iZ ((i : Nat) : Int))), (2, .int (iZ (((x : Nat) : Int) - 1))), (0, .ref h0)]) hx hb dX7_waysUpTo_28 rfl hl (by decide) rfl (fun ls hl => ?_)
        refine lv_iinc (v := iZ ((i + 1 : Nat) : Int)) (lv' := [(5, .int (iZ ((i + 1 : Nat) : Int))), (3, .long (lZ ((sumN w (i + 1) : Nat) : Int))), (2, .int (iZ (((x : Nat) : Int) - 1))), (0, .ref h0)]) hx hb dX7_waysUpTo_29 hl (k := 1) rfl (zi_inc (by omega)) (by decide) rfl (fun ls hl => ?_)
        refine lv_goto (tgt := 13) hx hb dX7_waysUpTo_32 (by decide) ?_
        exact ih (i + 1) (by omega) (by omega) _ _ hP hD hS ls (lv_sub hl [0, 1, 2, 3] rfl)
  exact pt_13 (x + 1) 0 (by omega) (by omega) _ _ hP hD hS ls (lv_sub hl [0, 1, 2, 3] rfl)
def rmX7_waysAtLeast : Room := { frames := 2, cells := 0, slots := 0, locals := 38 }
set_option maxHeartbeats 4000000 in
set_option maxRecDepth 100000 in
theorem c_X7_waysAtLeast (l : Launch) (D : va_G) (cI cJ : ClassId) (h0 wa : Nat) (w : Nat → Nat) (sg ri fa : Nat) (hsg : sg ≤ 30) (hrf : ri + fa ≤ 3000) : Cl l D vwCl (tyT cI cJ) yX7_waysAtLeast wsX7_waysAtLeast rmX7_waysAtLeast [.ref h0] [(h0, .inr (6, [.ref wa, .int (iZ ((sg : Nat) : Int)), .int (iZ ((ri : Nat) : Int)), .int (iZ ((fa : Nat) : Int))])), (wa, .inl (cJ, 1501, .inr (.inl (LJ w))))] (Unit) (fun r _ => r = lZ (if fa ≤ ri then ((sumN w (fa + 1) : Nat) : Int) else ((2 ^ sg : Nat) : Int) - ((sumN w ri : Nat) : Int))) (fun _ => [(h0, .inr (6, [.ref wa, .int (iZ ((sg : Nat) : Int)), .int (iZ ((ri : Nat) : Int)), .int (iZ ((fa : Nat) : Int))])), (wa, .inl (cJ, 1501, .inr (.inl (LJ w))))]) := by
  refine en_l (cc := cX7_waysAtLeast) (maxL := 1) (by decide) rfl [(0, .ref h0)] (Nat.le_of_ble_eq_true rfl) rfl ?_
  intro p e s m args below meth c Q A hx hb hml hown hts hnm hK hP hD hA hS hret ls hl
  have hh_0 := hts (.fieldLink RX7 17 "BoundDraws$Turns" "rises" "I") (by decide +kernel)
  have hh_1 := (show ∀ w ∈ wsX70, w ∈ wsX7_waysAtLeast by decide +kernel)
  have hh_2 := hts (.fieldLink RX7 20 "BoundDraws$Turns" "falls" "I") (by decide +kernel)
  refine lv_aload_n hx hb dX7_waysAtLeast_0 rfl (lv_at hl 0 rfl) ?_
  refine va_get (D := D) (ci := 6) (v := .int (iZ ((ri : Nat) : Int))) (C := RX7) (T := TX7) (N := 4) hx hb hts hh_1 hown hK hP 0 rfl rfl 2 (by decide) hh_0 (fun _ h9 => h9) rfl dX7_waysAtLeast_1 ?_
  refine lv_aload_n hx hb dX7_waysAtLeast_4 rfl (lv_at hl 0 rfl) ?_
  refine va_get (D := D) (ci := 6) (v := .int (iZ ((fa : Nat) : Int))) (C := RX7) (T := TX7) (N := 4) hx hb hts hh_1 hown hK hP 0 rfl rfl 3 (by decide) hh_2 (fun _ h9 => h9) rfl dX7_waysAtLeast_5 ?_
  refine zb_icmp_lt (x := ((ri : Nat) : Int)) (y := ((fa : Nat) : Int)) (tgt := 22) hx hb dX7_waysAtLeast_8 (by decide) ⟨by omega, by omega⟩ ⟨by omega, by omega⟩ (fun c_8 => ?_) (fun c_8 => ?_)
  · refine lv_aload_n hx hb dX7_waysAtLeast_22 rfl (lv_at hl 0 rfl) ?_
    refine ca_lV [] [] [] 0 0 ⟨hx, hb, hml, hown, hts⟩ (c_X7_allWays l D cI cJ h0 wa w sg ri fa hsg) (cwV 0 hts gX7_waysAtLeast_X7_allWays rfl rfl rfl (by decide +kernel) ⟨(Nat.le_of_ble_eq_true rfl), (Nat.le_of_ble_eq_true rfl)⟩) hK hP hD hS hA [0, 1] [] rfl rfl rfl rfl (by decide) 0 rfl rfl rfl hl.1 rfl (Nat.le_of_ble_eq_true rfl) dX7_waysAtLeast_23 ⟨(Nat.le_of_ble_eq_true rfl), (Nat.le_of_ble_eq_true rfl)⟩ (Nat.le_of_ble_eq_true rfl) (Nat.le_of_ble_eq_true rfl) (fun r_23 u9 H locs hw hP hD hS => ?_)
    obtain u9 := u9
    try dsimp only at hw
    have hP : va_P D vwCl [(h0, .inr (6, [.ref wa, .int (iZ ((sg : Nat) : Int)), .int (iZ ((ri : Nat) : Int)), .int (iZ ((fa : Nat) : Int))])), (wa, .inl (cJ, 1501, .inr (.inl (LJ w))))] H := hP
    have hD : va_D A [(h0, .inr (6, [.ref wa, .int (iZ ((sg : Nat) : Int)), .int (iZ ((ri : Nat) : Int)), .int (iZ ((fa : Nat) : Int))])), (wa, .inl (cJ, 1501, .inr (.inl (LJ w))))] := hD
    refine tp_l (y := (lZ ((2 ^ sg : Nat) : Int))) (hw) ?_
    refine lv_aload_n hx hb dX7_waysAtLeast_26 rfl (lv_at hl 0 rfl) ?_
    refine lv_aload_n hx hb dX7_waysAtLeast_27 rfl (lv_at hl 0 rfl) ?_
    refine va_get (D := D) (ci := 6) (v := .int (iZ ((ri : Nat) : Int))) (C := RX7) (T := TX7) (N := 4) hx hb hts hh_1 hown hK hP 0 rfl rfl 2 (by decide) hh_0 (fun _ h9 => h9) rfl dX7_waysAtLeast_28 ?_
    refine zc_iconst (z := ((1 : Nat) : Int)) hx hb dX7_waysAtLeast_31 (by decide) ?_
    refine zi_sub (z := (((ri : Nat) : Int) - 1)) hx hb dX7_waysAtLeast_32 rfl ?_
    refine ca_lV [.int (iZ (((ri : Nat) : Int) - 1))] [.long (lZ ((2 ^ sg : Nat) : Int))] [] 0 0 ⟨hx, hb, hml, hown, hts⟩ (c_X7_waysUpTo l D cI cJ h0 wa w sg ri fa ri (by omega)) (cwV 1 hts gX7_waysAtLeast_X7_waysUpTo rfl rfl rfl (by decide +kernel) ⟨(Nat.le_of_ble_eq_true rfl), (Nat.le_of_ble_eq_true rfl)⟩) hK hP hD hS hA [0, 1] [] rfl rfl rfl rfl (by decide) 0 rfl rfl rfl hl.1 rfl (Nat.le_of_ble_eq_true rfl) dX7_waysAtLeast_33 ⟨(Nat.le_of_ble_eq_true rfl), (Nat.le_of_ble_eq_true rfl)⟩ (Nat.le_of_ble_eq_true rfl) (Nat.le_of_ble_eq_true rfl) (fun r_33 u9 H locs hw hP hD hS => ?_)
    obtain u9 := u9
    try dsimp only at hw
    have hP : va_P D vwCl [(h0, .inr (6, [.ref wa, .int (iZ ((sg : Nat) : Int)), .int (iZ ((ri : Nat) : Int)), .int (iZ ((fa : Nat) : Int))])), (wa, .inl (cJ, 1501, .inr (.inl (LJ w))))] H := hP
    have hD : va_D A [(h0, .inr (6, [.ref wa, .int (iZ ((sg : Nat) : Int)), .int (iZ ((ri : Nat) : Int)), .int (iZ ((fa : Nat) : Int))])), (wa, .inl (cJ, 1501, .inr (.inl (LJ w))))] := hD
    refine tp_l (y := (lZ ((sumN w ri : Nat) : Int))) (hw) ?_
    refine zl_sub (z := (((2 ^ sg : Nat) : Int) - ((sumN w ri : Nat) : Int))) hx hb dX7_waysAtLeast_36 rfl ?_
    exact hret _ (()) _ _ _ _ _ _ (Nat.le_of_ble_eq_true rfl) (Nat.le_of_ble_eq_true rfl) dX7_waysAtLeast_37 (by rw [if_neg (by omega)]) hP hD hS
  · refine lv_aload_n hx hb dX7_waysAtLeast_11 rfl (lv_at hl 0 rfl) ?_
    refine lv_aload_n hx hb dX7_waysAtLeast_12 rfl (lv_at hl 0 rfl) ?_
    refine va_get (D := D) (ci := 6) (v := .int (iZ ((fa : Nat) : Int))) (C := RX7) (T := TX7) (N := 4) hx hb hts hh_1 hown hK hP 0 rfl rfl 3 (by decide) hh_2 (fun _ h9 => h9) rfl dX7_waysAtLeast_13 ?_
    refine tp_i (y := (iZ (((fa + 1 : Nat) : Int) - 1))) (congrArg iZ (by omega)) ?_
    refine ca_lV [.int (iZ (((fa + 1 : Nat) : Int) - 1))] [] [] 0 0 ⟨hx, hb, hml, hown, hts⟩ (c_X7_waysUpTo l D cI cJ h0 wa w sg ri fa (fa + 1) (by omega)) (cwV 1 hts gX7_waysAtLeast_X7_waysUpTo rfl rfl rfl (by decide +kernel) ⟨(Nat.le_of_ble_eq_true rfl), (Nat.le_of_ble_eq_true rfl)⟩) hK hP hD hS hA [0, 1] [] rfl rfl rfl rfl (by decide) 0 rfl rfl rfl hl.1 rfl (Nat.le_of_ble_eq_true rfl) dX7_waysAtLeast_16 ⟨(Nat.le_of_ble_eq_true rfl), (Nat.le_of_ble_eq_true rfl)⟩ (Nat.le_of_ble_eq_true rfl) (Nat.le_of_ble_eq_true rfl) (fun r_16 u9 H locs hw hP hD hS => ?_)
    obtain u9 := u9
    try dsimp only at hw
    have hP : va_P D vwCl [(h0, .inr (6, [.ref wa, .int (iZ ((sg : Nat) : Int)), .int (iZ ((ri : Nat) : Int)), .int (iZ ((fa : Nat) : Int))])), (wa, .inl (cJ, 1501, .inr (.inl (LJ w))))] H := hP
    have hD : va_D A [(h0, .inr (6, [.ref wa, .int (iZ ((sg : Nat) : Int)), .int (iZ ((ri : Nat) : Int)), .int (iZ ((fa : Nat) : Int))])), (wa, .inl (cJ, 1501, .inr (.inl (LJ w))))] := hD
    refine tp_l (y := (lZ ((sumN w (fa + 1) : Nat) : Int))) (hw) ?_
    refine lv_goto (tgt := 37) hx hb dX7_waysAtLeast_19 (by decide) ?_
    exact hret _ (()) _ _ _ _ _ _ (Nat.le_of_ble_eq_true rfl) (Nat.le_of_ble_eq_true rfl) dX7_waysAtLeast_37 (by rw [if_pos (by omega)]) hP hD hS
def rmX7_waysAsFar : Room := { frames := 2, cells := 0, slots := 0, locals := 38 }
set_option maxHeartbeats 4000000 in
set_option maxRecDepth 100000 in
theorem c_X7_waysAsFar (l : Launch) (D : va_G) (cI cJ : ClassId) (h0 wa : Nat) (w : Nat → Nat) (sg ri fa : Nat) (hsg : sg ≤ 30) (hrf : ri + fa ≤ 3000) : Cl l D vwCl (tyT cI cJ) yX7_waysAsFar wsX7_waysAsFar rmX7_waysAsFar [.ref h0] [(h0, .inr (6, [.ref wa, .int (iZ ((sg : Nat) : Int)), .int (iZ ((ri : Nat) : Int)), .int (iZ ((fa : Nat) : Int))])), (wa, .inl (cJ, 1501, .inr (.inl (LJ w))))] (Unit) (fun r _ => r = lZ ((if ri = fa then 2 ^ sg else 2 * sumN w (min (min ri fa) 1500 + 1) : Nat) : Int)) (fun _ => [(h0, .inr (6, [.ref wa, .int (iZ ((sg : Nat) : Int)), .int (iZ ((ri : Nat) : Int)), .int (iZ ((fa : Nat) : Int))])), (wa, .inl (cJ, 1501, .inr (.inl (LJ w))))]) := by
  refine en_l (cc := cX7_waysAsFar) (maxL := 1) (by decide) rfl [(0, .ref h0)] (Nat.le_of_ble_eq_true rfl) rfl ?_
  intro p e s m args below meth c Q A hx hb hml hown hts hnm hK hP hD hA hS hret ls hl
  have hh_0 := hts (.fieldLink RX7 17 "BoundDraws$Turns" "rises" "I") (by decide +kernel)
  have hh_1 := (show ∀ w ∈ wsX70, w ∈ wsX7_waysAsFar by decide +kernel)
  have hh_2 := hts (.fieldLink RX7 20 "BoundDraws$Turns" "falls" "I") (by decide +kernel)
  have hh_3 := hts (.constantLong RX7 64 (2)) (by decide +kernel)
  refine lv_aload_n hx hb dX7_waysAsFar_0 rfl (lv_at hl 0 rfl) ?_
  refine va_get (D := D) (ci := 6) (v := .int (iZ ((ri : Nat) : Int))) (C := RX7) (T := TX7) (N := 4) hx hb hts hh_1 hown hK hP 0 rfl rfl 2 (by decide) hh_0 (fun _ h9 => h9) rfl dX7_waysAsFar_1 ?_
  refine lv_aload_n hx hb dX7_waysAsFar_4 rfl (lv_at hl 0 rfl) ?_
  refine va_get (D := D) (ci := 6) (v := .int (iZ ((fa : Nat) : Int))) (C := RX7) (T := TX7) (N := 4) hx hb hts hh_1 hown hK hP 0 rfl rfl 3 (by decide) hh_2 (fun _ h9 => h9) rfl dX7_waysAsFar_5 ?_
  refine zb_icmp_ne (x := ((ri : Nat) : Int)) (y := ((fa : Nat) : Int)) (tgt := 18) hx hb dX7_waysAsFar_8 (by decide) ⟨by omega, by omega⟩ ⟨by omega, by omega⟩ (fun c_8 => ?_) (fun c_8 => ?_)
  · refine lv_ldc2 hx hb hown hh_3 dX7_waysAsFar_18 (tp_l (y := lZ ((2 : Nat) : Int)) (by decide) ?_)
    refine lv_aload_n hx hb dX7_waysAsFar_21 rfl (lv_at hl 0 rfl) ?_
    refine lv_aload_n hx hb dX7_waysAsFar_22 rfl (lv_at hl 0 rfl) ?_
    refine ca_iV [] [.ref h0, .long (lZ ((2 : Nat) : Int))] [] 0 0 ⟨hx, hb, hml, hown, hts⟩ (c_X7_reach l D cI cJ h0 wa w sg ri fa (by omega) (by omega)) (cwV 0 hts gX7_waysAsFar_X7_reach rfl rfl rfl (by decide +kernel) ⟨(Nat.le_of_ble_eq_true rfl), (Nat.le_of_ble_eq_true rfl)⟩) hK hP hD hS hA [0, 1] [] rfl rfl rfl rfl (by decide) 0 rfl rfl rfl hl.1 rfl (Nat.le_of_ble_eq_true rfl) dX7_waysAsFar_23 ⟨(Nat.le_of_ble_eq_true rfl), (Nat.le_of_ble_eq_true rfl)⟩ (Nat.le_of_ble_eq_true rfl) (Nat.le_of_ble_eq_true rfl) (fun r_23 u9 H locs hw hP hD hS => ?_)
    obtain u9 := u9
    try dsimp only at hw
    have hP : va_P D vwCl [(h0, .inr (6, [.ref wa, .int (iZ ((sg : Nat) : Int)), .int (iZ ((ri : Nat) : Int)), .int (iZ ((fa : Nat) : Int))])), (wa, .inl (cJ, 1501, .inr (.inl (LJ w))))] H := hP
    have hD : va_D A [(h0, .inr (6, [.ref wa, .int (iZ ((sg : Nat) : Int)), .int (iZ ((ri : Nat) : Int)), .int (iZ ((fa : Nat) : Int))])), (wa, .inl (cJ, 1501, .inr (.inl (LJ w))))] := hD
    refine tp_i (y := (iZ (((min (min ri fa) 1500 + 1 : Nat) : Int) - 1))) (hw.trans (congrArg iZ (by omega))) ?_
    refine ca_lV [.int (iZ (((min (min ri fa) 1500 + 1 : Nat) : Int) - 1))] [.long (lZ ((2 : Nat) : Int))] [] 0 0 ⟨hx, hb, hml, hown, hts⟩ (c_X7_waysUpTo l D cI cJ h0 wa w sg ri fa (min (min ri fa) 1500 + 1) (by omega)) (cwV 1 hts gX7_waysAsFar_X7_waysUpTo rfl rfl rfl (by decide +kernel) ⟨(Nat.le_of_ble_eq_true rfl), (Nat.le_of_ble_eq_true rfl)⟩) hK hP hD hS hA [0, 1] [] rfl rfl rfl rfl (by decide) 0 rfl rfl rfl hl.1 rfl (Nat.le_of_ble_eq_true rfl) dX7_waysAsFar_26 ⟨(Nat.le_of_ble_eq_true rfl), (Nat.le_of_ble_eq_true rfl)⟩ (Nat.le_of_ble_eq_true rfl) (Nat.le_of_ble_eq_true rfl) (fun r_26 u9 H locs hw hP hD hS => ?_)
    obtain u9 := u9
    try dsimp only at hw
    have hP : va_P D vwCl [(h0, .inr (6, [.ref wa, .int (iZ ((sg : Nat) : Int)), .int (iZ ((ri : Nat) : Int)), .int (iZ ((fa : Nat) : Int))])), (wa, .inl (cJ, 1501, .inr (.inl (LJ w))))] H := hP
    have hD : va_D A [(h0, .inr (6, [.ref wa, .int (iZ ((sg : Nat) : Int)), .int (iZ ((ri : Nat) : Int)), .int (iZ ((fa : Nat) : Int))])), (wa, .inl (cJ, 1501, .inr (.inl (LJ w))))] := hD
    refine tp_l (y := (lZ ((sumN w (min (min ri fa) 1500 + 1) : Nat) : Int))) (hw) ?_
    refine zl_mul (z := ((2 * (sumN w (min (min ri fa) 1500 + 1)) : Nat) : Int)) hx hb dX7_waysAsFar_29 (Int.natCast_mul _ _).symm ?_
    exact hret _ (()) _ _ _ _ _ _ (Nat.le_of_ble_eq_true rfl) (Nat.le_of_ble_eq_true rfl) dX7_waysAsFar_30 (by rw [if_neg (by omega)]) hP hD hS
  · refine lv_aload_n hx hb dX7_waysAsFar_11 rfl (lv_at hl 0 rfl) ?_
    refine ca_lV [] [] [] 0 0 ⟨hx, hb, hml, hown, hts⟩ (c_X7_allWays l D cI cJ h0 wa w sg ri fa hsg) (cwV 0 hts gX7_waysAsFar_X7_allWays rfl rfl rfl (by decide +kernel) ⟨(Nat.le_of_ble_eq_true rfl), (Nat.le_of_ble_eq_true rfl)⟩) hK hP hD hS hA [0, 1] [] rfl rfl rfl rfl (by decide) 0 rfl rfl rfl hl.1 rfl (Nat.le_of_ble_eq_true rfl) dX7_waysAsFar_12 ⟨(Nat.le_of_ble_eq_true rfl), (Nat.le_of_ble_eq_true rfl)⟩ (Nat.le_of_ble_eq_true rfl) (Nat.le_of_ble_eq_true rfl) (fun r_12 u9 H locs hw hP hD hS => ?_)
    obtain u9 := u9
    try dsimp only at hw
    have hP : va_P D vwCl [(h0, .inr (6, [.ref wa, .int (iZ ((sg : Nat) : Int)), .int (iZ ((ri : Nat) : Int)), .int (iZ ((fa : Nat) : Int))])), (wa, .inl (cJ, 1501, .inr (.inl (LJ w))))] H := hP
    have hD : va_D A [(h0, .inr (6, [.ref wa, .int (iZ ((sg : Nat) : Int)), .int (iZ ((ri : Nat) : Int)), .int (iZ ((fa : Nat) : Int))])), (wa, .inl (cJ, 1501, .inr (.inl (LJ w))))] := hD
    refine tp_l (y := (lZ ((2 ^ sg : Nat) : Int))) (hw) ?_
    refine lv_goto (tgt := 30) hx hb dX7_waysAsFar_15 (by decide) ?_
    exact hret _ (()) _ _ _ _ _ _ (Nat.le_of_ble_eq_true rfl) (Nat.le_of_ble_eq_true rfl) dX7_waysAsFar_30 (by rw [if_pos (by omega)]) hP hD hS

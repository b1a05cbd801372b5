/-- the units as they stand in the arrays -/
def uok (k : Nat) (DF : Nat → Int) (SF : Nat → Nat) (L : List (Int × Nat)) : Prop := k = L.length ∧ k ≤ 30 ∧ ∀ i, i < k → L[i]? = some (DF i, SF i)
theorem uok_0 (DF : Nat → Int) (SF : Nat → Nat) : uok 0 DF SF [] := ⟨rfl, by decide, fun i hi => by omega⟩
theorem uok_add {k : Nat} {DF : Nat → Int} {SF : Nat → Nat} {L : List (Int × Nat)} (h : uok k DF SF L) (hk : k < 30) (d : Int) (s : Nat) : uok (k + 1) (zup DF k d) (nup SF k s) (L ++ [(d, s)]) := by
  obtain ⟨h1, h2, h3⟩ := h
  refine ⟨by simp; omega, by omega, fun i hi => ?_⟩
  by_cases e : i = k
  · subst e; rw [zup_s, nup_s, h1]; simp
  · rw [zup_n e, nup_n e, List.getElem?_append_left (by omega)]; exact h3 i (by omega)
def unitsR (X Y : Nat → Nat) : Nat → List (Int × Nat)
  | 0 => []
  | k + 1 => unitsR X Y k ++ [(rwD X Y k, 1)]
def unitsG (n : Nat) (G X Y : Nat → Nat) : Nat → List (Int × Nat)
  | 0 => []
  | k + 1 => if 0 < grS G n k then unitsG n G X Y k ++ [(grD G X Y n k, grS G n k)] else unitsG n G X Y k
def unitsOf (n : Nat) (G X Y : Nat → Nat) (b : Nat) : List (Int × Nat) := if b = 0 then unitsR X Y n else unitsG n G X Y 8
theorem unitsR_len (X Y : Nat → Nat) : ∀ k, (unitsR X Y k).length = k
  | 0 => rfl
  | k + 1 => by rw [unitsR, List.length_append, unitsR_len]; rfl
theorem unitsG_len (n : Nat) (G X Y : Nat → Nat) : ∀ k, (unitsG n G X Y k).length = grC G n k
  | 0 => rfl
  | k + 1 => by
    rw [unitsG]
    unfold grC
    rw [cnt_s]
    have := unitsG_len n G X Y k
    unfold grC at this
    split <;> rename_i h
    · rw [List.length_append, this, if_pos (by simp; exact h)]; rfl
    · rw [this, if_neg (by simp; omega)]; rfl
theorem unitsG_le (n : Nat) (G X Y : Nat → Nat) (k : Nat) : (unitsG n G X Y k).length ≤ k := by rw [unitsG_len]; exact cnt_le _ _
def rmX8_init : Room := { frames := 1, cells := 2, slots := 60, locals := 12 }
set_option maxHeartbeats 4000000 in
set_option maxRecDepth 100000 in
theorem c_X8_init (l : Launch) (D : va_G) (cI cJ : ClassId) (h0 : Nat) : Cv l D vwCl (tyT cI cJ) yX8_init wsX8_init rmX8_init [.ref h0] [(h0, .inr (7, [.null, .null, .int (iZ ((0 : Nat) : Int))]))] (Nat × Nat) (fun _ => True) (fun q => [(h0, .inr (7, [.ref q.1, .ref q.2, .int (iZ ((0 : Nat) : Int))])), (q.1, .inl (cI, 30, .inl (ZI (fun _ => 0)))), (q.2, .inl (cI, 30, .inl (LI (fun _ => 0))))]) := by
  refine en_v (cc := cX8_init) (maxL := 1) (by decide) rfl [(0, .ref h0)] (Nat.le_of_ble_eq_true rfl) rfl ?_
  intro p e s m args below meth c Q A hx hb hml hown hts hnm hK hP hD hA hS hret ls hl
  have hh_0 := hts (.methodLink RX8 1 objectInit) (by decide +kernel)
  have hh_1 := hts (.instanceMethod objectInit) (by decide +kernel)
  have hh_2 := hts (.code objectInit ⟨#[0xb1]⟩ 1 none) (by decide +kernel)
  have hh_3 := hts (.arrayClass .int) (by decide +kernel)
  have hh_4 := hts (.fieldLink RX8 9 "BoundDraws$Units" "differences" "[I") (by decide +kernel)
  have hh_5 := (show ∀ w ∈ wsX80, w ∈ wsX8_init by decide +kernel)
  have hh_6 := hts (.fieldLink RX8 15 "BoundDraws$Units" "sizes" "[I") (by decide +kernel)
  have hh_7 := hts (.fieldLink RX8 18 "BoundDraws$Units" "used" "I") (by decide +kernel)
  refine lv_aload_n hx hb dX8_init_0 rfl (lv_at hl 0 rfl) ?_
  refine W.objInit hx hb hown hh_0 hh_1 hh_2 rfl (by rw [hml]; exact hl.1) rfl dX8_init_1 (Nat.le_of_ble_eq_true rfl) (Nat.le_of_ble_eq_true rfl) ?_
  refine W.eq (g2 := F0 m 4 ls []) rfl ?_
  refine lv_aload_n hx hb dX8_init_4 rfl (lv_at hl 0 rfl) ?_
  refine zc_bipush (z := ((30 : Nat) : Int)) hx hb dX8_init_5 (by decide) ?_
  refine zn_newI (N := 30) hx hb hh_3 hK hP hD hS hA (Nat.le_of_ble_eq_true rfl) (Nat.le_of_ble_eq_true rfl) dX8_init_7 (fun q1 H hP hD hS => ?_)
  have hP : va_P D vwCl [(h0, .inr (7, [.null, .null, .int (iZ ((0 : Nat) : Int))])), (q1, .inl (cI, 30, .inl (ZI (fun _ => 0))))] H := hP
  have hD : va_D A [(h0, .inr (7, [.null, .null, .int (iZ ((0 : Nat) : Int))])), (q1, .inl (cI, 30, .inl (ZI (fun _ => 0))))] := hD
  refine W.widen (k := 1) (n := 30) (Nat.le_of_ble_eq_true rfl) (Nat.le_of_ble_eq_true rfl) ?_
  refine va_putF (D := D) (ci := 7) (v := .ref q1) (ty := .array .int) (C := RX8) (T := TX8) (N := 3) hx hb hts hh_5 tyX8 tyX8_ok nmX8 hown hK hP hD hS 0 rfl rfl 0 (by decide) hh_4 (fun _ h9 => h9) rfl hnm rfl (by decide +kernel) rfl rfl (Nat.le_of_ble_eq_true rfl) dX8_init_9 (fun H locs hP hD hS => ?_)
  have hP : va_P D vwCl [(h0, .inr (7, [.ref q1, .null, .int (iZ ((0 : Nat) : Int))])), (q1, .inl (cI, 30, .inl (ZI (fun _ => 0))))] H := hP
  have hD : va_D A [(h0, .inr (7, [.ref q1, .null, .int (iZ ((0 : Nat) : Int))])), (q1, .inl (cI, 30, .inl (ZI (fun _ => 0))))] := hD
  refine lv_aload_n hx hb dX8_init_12 rfl (lv_at hl 0 rfl) ?_
  refine zc_bipush (z := ((30 : Nat) : Int)) hx hb dX8_init_13 (by decide) ?_
  refine zn_newI (N := 30) hx hb hh_3 hK hP hD hS hA (Nat.le_of_ble_eq_true rfl) (Nat.le_of_ble_eq_true rfl) dX8_init_15 (fun q2 H hP hD hS => ?_)
  have hP : va_P D vwCl [(h0, .inr (7, [.ref q1, .null, .int (iZ ((0 : Nat) : Int))])), (q1, .inl (cI, 30, .inl (ZI (fun _ => 0)))), (q2, .inl (cI, 30, .inl (LI (fun _ => 0))))] H := hP
  have hD : va_D A [(h0, .inr (7, [.ref q1, .null, .int (iZ ((0 : Nat) : Int))])), (q1, .inl (cI, 30, .inl (ZI (fun _ => 0)))), (q2, .inl (cI, 30, .inl (LI (fun _ => 0))))] := hD
  refine W.widen (k := 2) (n := 60) (Nat.le_of_ble_eq_true rfl) (Nat.le_of_ble_eq_true rfl) ?_
  refine va_putF (D := D) (ci := 7) (v := .ref q2) (ty := .array .int) (C := RX8) (T := TX8) (N := 3) hx hb hts hh_5 tyX8 tyX8_ok nmX8 hown hK hP hD hS 0 rfl rfl 1 (by decide) hh_6 (fun _ h9 => h9) rfl hnm rfl (by decide +kernel) rfl rfl (Nat.le_of_ble_eq_true rfl) dX8_init_17 (fun H locs hP hD hS => ?_)
  have hP : va_P D vwCl [(h0, .inr (7, [.ref q1, .ref q2, .int (iZ ((0 : Nat) : Int))])), (q1, .inl (cI, 30, .inl (ZI (fun _ => 0)))), (q2, .inl (cI, 30, .inl (LI (fun _ => 0))))] H := hP
  have hD : va_D A [(h0, .inr (7, [.ref q1, .ref q2, .int (iZ ((0 : Nat) : Int))])), (q1, .inl (cI, 30, .inl (ZI (fun _ => 0)))), (q2, .inl (cI, 30, .inl (LI (fun _ => 0))))] := hD
  refine lv_aload_n hx hb dX8_init_20 rfl (lv_at hl 0 rfl) ?_
  refine zc_iconst (z := ((0 : Nat) : Int)) hx hb dX8_init_21 (by decide) ?_
  refine va_put (D := D) (ci := 7) (v := .int (iZ ((0 : Nat) : Int))) (ty := .int) (C := RX8) (T := TX8) (N := 3) hx hb hts hh_5 tyX8 tyX8_ok nmX8 hown hK hP hD hS 0 rfl rfl 2 (by decide) hh_7 (fun _ h9 => h9) rfl (by decide +kernel) rfl rfl (Nat.le_of_ble_eq_true rfl) dX8_init_22 (fun H locs hP hD hS => ?_)
  have hP : va_P D vwCl [(h0, .inr (7, [.ref q1, .ref q2, .int (iZ ((0 : Nat) : Int))])), (q1, .inl (cI, 30, .inl (ZI (fun _ => 0)))), (q2, .inl (cI, 30, .inl (LI (fun _ => 0))))] H := hP
  have hD : va_D A [(h0, .inr (7, [.ref q1, .ref q2, .int (iZ ((0 : Nat) : Int))])), (q1, .inl (cI, 30, .inl (ZI (fun _ => 0)))), (q2, .inl (cI, 30, .inl (LI (fun _ => 0))))] := hD
  exact hret (q1, q2) _ _ _ _ _ _ (Nat.le_of_ble_eq_true rfl) (Nat.le_of_ble_eq_true rfl) dX8_init_25 (trivial) hP hD hS
def rmX8_add : Room := { frames := 0, cells := 0, slots := 0, locals := 0 }
set_option maxHeartbeats 4000000 in
set_option maxRecDepth 100000 in
theorem c_X8_add (l : Launch) (D : va_G) (cI cJ : ClassId) (h0 da sa : Nat) (k : Nat) (DF : Nat → Int) (SF : Nat → Nat) (d0 : Int) (z0 : Nat) (hk : k < 30) : Cv l D vwCl (tyT cI cJ) yX8_add wsX8_add rmX8_add [.ref h0, .int (iZ (d0)), .int (iZ ((z0 : Nat) : Int))] [(h0, .inr (7, [.ref da, .ref sa, .int (iZ ((k : Nat) : Int))])), (da, .inl (cI, 30, .inl (ZI DF))), (sa, .inl (cI, 30, .inl (LI SF)))] (Unit) (fun _ => True) (fun _ => [(h0, .inr (7, [.ref da, .ref sa, .int (iZ ((k + 1 : Nat) : Int))])), (da, .inl (cI, 30, .inl (ZI (zup DF k d0)))), (sa, .inl (cI, 30, .inl (LI (nup SF k z0))))]) := by
  refine en_v (cc := cX8_add) (maxL := 3) (by decide) rfl [(0, .ref h0), (1, .int (iZ (d0))), (2, .int (iZ ((z0 : Nat) : Int)))] (Nat.le_of_ble_eq_true rfl) rfl ?_
  intro p e s m args below meth c Q A hx hb hml hown hts hnm hK hP hD hA hS hret ls hl
  have hh_0 := hts (.fieldLink RX8 18 "BoundDraws$Units" "used" "I") (by decide +kernel)
  have hh_1 := (show ∀ w ∈ wsX80, w ∈ wsX8_add by decide +kernel)
  have hh_2 := hts (.fieldLink RX8 9 "BoundDraws$Units" "differences" "[I") (by decide +kernel)
  have hh_3 := hts (.fieldLink RX8 15 "BoundDraws$Units" "sizes" "[I") (by decide +kernel)
  refine lv_aload_n hx hb dX8_add_0 rfl (lv_at hl 0 rfl) ?_
  refine va_get (D := D) (ci := 7) (v := .int (iZ ((k : Nat) : Int))) (C := RX8) (T := TX8) (N := 3) hx hb hts hh_1 hown hK hP 0 rfl rfl 2 (by decide) hh_0 (fun _ h9 => h9) rfl dX8_add_1 ?_
  refine zc_bipush (z := ((30 : Nat) : Int)) hx hb dX8_add_4 (by decide) ?_
  refine zb_icmp_lt (x := ((k : Nat) : Int)) (y := ((30 : Nat) : Int)) (tgt := 10) hx hb dX8_add_6 (by decide) ⟨by omega, by omega⟩ ⟨by decide, by decide⟩ (fun c_6 => ?_) (fun c_6 => ?_)
  · refine lv_aload_n hx hb dX8_add_10 rfl (lv_at hl 0 rfl) ?_
    refine va_get (D := D) (ci := 7) (v := .ref da) (C := RX8) (T := TX8) (N := 3) hx hb hts hh_1 hown hK hP 0 rfl rfl 0 (by decide) hh_2 (fun _ h9 => h9) rfl dX8_add_11 ?_
    refine lv_aload_n hx hb dX8_add_14 rfl (lv_at hl 0 rfl) ?_
    refine va_get (D := D) (ci := 7) (v := .int (iZ ((k : Nat) : Int))) (C := RX8) (T := TX8) (N := 3) hx hb hts hh_1 hown hK hP 0 rfl rfl 2 (by decide) hh_0 (fun _ h9 => h9) rfl dX8_add_15 ?_
    refine lv_iload_n hx hb dX8_add_18 rfl (lv_at hl 1 rfl) ?_
    refine za_iast hx hb hK hP hD hS 1 0 rfl rfl (k) (by decide) rfl (by omega) dX8_add_19 (fun H locs hP hD hS => ?_)
    have hP : va_P D vwCl [(h0, .inr (7, [.ref da, .ref sa, .int (iZ ((k : Nat) : Int))])), (da, .inl (cI, 30, .inl (upd (ZI DF) (k) ((iZ (d0)))))), (sa, .inl (cI, 30, .inl (LI SF)))] H := hP
    have hD : va_D A [(h0, .inr (7, [.ref da, .ref sa, .int (iZ ((k : Nat) : Int))])), (da, .inl (cI, 30, .inl (upd (ZI DF) (k) ((iZ (d0)))))), (sa, .inl (cI, 30, .inl (LI SF)))] := hD
    rw [ZI_up] at hP hD
    have hP : va_P D vwCl [(h0, .inr (7, [.ref da, .ref sa, .int (iZ ((k : Nat) : Int))])), (da, .inl (cI, 30, .inl (ZI (zup DF (k) ((d0)))))), (sa, .inl (cI, 30, .inl (LI SF)))] H := hP
    have hD : va_D A [(h0, .inr (7, [.ref da, .ref sa, .int (iZ ((k : Nat) : Int))])), (da, .inl (cI, 30, .inl (ZI (zup DF (k) ((d0)))))), (sa, .inl (cI, 30, .inl (LI SF)))] := hD
    refine lv_aload_n hx hb dX8_add_20 rfl (lv_at hl 0 rfl) ?_
    refine va_get (D := D) (ci := 7) (v := .ref sa) (C := RX8) (T := TX8) (N := 3) hx hb hts hh_1 hown hK hP 0 rfl rfl 1 (by decide) hh_3 (fun _ h9 => h9) rfl dX8_add_21 ?_
    refine lv_aload_n hx hb dX8_add_24 rfl (lv_at hl 0 rfl) ?_
    refine va_get (D := D) (ci := 7) (v := .int (iZ ((k : Nat) : Int))) (C := RX8) (T := TX8) (N := 3) hx hb hts hh_1 hown hK hP 0 rfl rfl 2 (by decide) hh_0 (fun _ h9 => h9) rfl dX8_add_25 ?_
    refine lv_iload_n hx hb dX8_add_28 rfl (lv_at hl 2 rfl) ?_
    refine za_iast hx hb hK hP hD hS 2 0 rfl rfl (k) (by decide) rfl (by omega) dX8_add_29 (fun H locs hP hD hS => ?_)
    have hP : va_P D vwCl [(h0, .inr (7, [.ref da, .ref sa, .int (iZ ((k : Nat) : Int))])), (da, .inl (cI, 30, .inl (ZI (zup DF (k) ((d0)))))), (sa, .inl (cI, 30, .inl (upd (LI SF) (k) ((iZ ((z0 : Nat) : Int))))))] H := hP
    have hD : va_D A [(h0, .inr (7, [.ref da, .ref sa, .int (iZ ((k : Nat) : Int))])), (da, .inl (cI, 30, .inl (ZI (zup DF (k) ((d0)))))), (sa, .inl (cI, 30, .inl (upd (LI SF) (k) ((iZ ((z0 : Nat) : Int))))))] := hD
    rw [LI_up] at hP hD
    have hP : va_P D vwCl [(h0, .inr (7, [.ref da, .ref sa, .int (iZ ((k : Nat) : Int))])), (da, .inl (cI, 30, .inl (ZI (zup DF (k) ((d0)))))), (sa, .inl (cI, 30, .inl (LI (nup SF (k) (z0)))))] H := hP
    have hD : va_D A [(h0, .inr (7, [.ref da, .ref sa, .int (iZ ((k : Nat) : Int))])), (da, .inl (cI, 30, .inl (ZI (zup DF (k) ((d0)))))), (sa, .inl (cI, 30, .inl (LI (nup SF (k) (z0)))))] := hD
    refine lv_aload_n hx hb dX8_add_30 rfl (lv_at hl 0 rfl) ?_
    refine lv_dup hx hb dX8_add_31 rfl ?_
    refine va_get (D := D) (ci := 7) (v := .int (iZ ((k : Nat) : Int))) (C := RX8) (T := TX8) (N := 3) hx hb hts hh_1 hown hK hP 0 rfl rfl 2 (by decide) hh_0 (fun _ h9 => h9) rfl dX8_add_32 ?_
    refine zc_iconst (z := ((1 : Nat) : Int)) hx hb dX8_add_35 (by decide) ?_
    refine zi_add (z := ((k + 1 : Nat) : Int)) hx hb dX8_add_36 (by omega) ?_
    refine va_put (D := D) (ci := 7) (v := .int (iZ ((k + 1 : Nat) : Int))) (ty := .int) (C := RX8) (T := TX8) (N := 3) hx hb hts hh_1 tyX8 tyX8_ok nmX8 hown hK hP hD hS 0 rfl rfl 2 (by decide) hh_0 (fun _ h9 => h9) rfl (by decide +kernel) rfl rfl (Nat.le_of_ble_eq_true rfl) dX8_add_37 (fun H locs hP hD hS => ?_)
    have hP : va_P D vwCl [(h0, .inr (7, [.ref da, .ref sa, .int (iZ ((k + 1 : Nat) : Int))])), (da, .inl (cI, 30, .inl (ZI (zup DF (k) ((d0)))))), (sa, .inl (cI, 30, .inl (LI (nup SF (k) (z0)))))] H := hP
    have hD : va_D A [(h0, .inr (7, [.ref da, .ref sa, .int (iZ ((k + 1 : Nat) : Int))])), (da, .inl (cI, 30, .inl (ZI (zup DF (k) ((d0)))))), (sa, .inl (cI, 30, .inl (LI (nup SF (k) (z0)))))] := hD
    exact hret (()) _ _ _ _ _ _ (Nat.le_of_ble_eq_true rfl) (Nat.le_of_ble_eq_true rfl) dX8_add_40 (trivial) hP hD hS
  · exfalso; omega
def rmX8_size : Room := { frames := 0, cells := 0, slots := 0, locals := 0 }
set_option maxHeartbeats 4000000 in
set_option maxRecDepth 100000 in
theorem c_X8_size (l : Launch) (D : va_G) (cI cJ : ClassId) (h0 da sa : Nat) (k : Nat) (DF : Nat → Int) (SF : Nat → Nat) : Ci l D vwCl (tyT cI cJ) yX8_size wsX8_size rmX8_size [.ref h0] [(h0, .inr (7, [.ref da, .ref sa, .int (iZ ((k : Nat) : Int))])), (da, .inl (cI, 30, .inl (ZI DF))), (sa, .inl (cI, 30, .inl (LI SF)))] (Unit) (fun r _ => r = iZ ((k : Nat) : Int)) (fun _ => [(h0, .inr (7, [.ref da, .ref sa, .int (iZ ((k : Nat) : Int))])), (da, .inl (cI, 30, .inl (ZI DF))), (sa, .inl (cI, 30, .inl (LI SF)))]) := by
  refine en_i (cc := cX8_size) (maxL := 1) (by decide) rfl [(0, .ref h0)] (Nat.le_of_ble_eq_true rfl) rfl ?_
  intro p e s m args below meth c Q A hx hb hml hown hts hnm hK hP hD hA hS hret ls hl
  have hh_0 := hts (.fieldLink RX8 18 "BoundDraws$Units" "used" "I") (by decide +kernel)
  have hh_1 := (show ∀ w ∈ wsX80, w ∈ wsX8_size by decide +kernel)
  refine lv_aload_n hx hb dX8_size_0 rfl (lv_at hl 0 rfl) ?_
  refine va_get (D := D) (ci := 7) (v := .int (iZ ((k : Nat) : Int))) (C := RX8) (T := TX8) (N := 3) hx hb hts hh_1 hown hK hP 0 rfl rfl 2 (by decide) hh_0 (fun _ h9 => h9) rfl dX8_size_1 ?_
  exact hret _ (()) _ _ _ _ _ _ (Nat.le_of_ble_eq_true rfl) (Nat.le_of_ble_eq_true rfl) rfl dX8_size_4 (rfl) hP hD hS
def rmX8_difference : Room := { frames := 0, cells := 0, slots := 0, locals := 0 }
set_option maxHeartbeats 4000000 in
set_option maxRecDepth 100000 in
theorem c_X8_difference (l : Launch) (D : va_G) (cI cJ : ClassId) (h0 da sa : Nat) (k : Nat) (DF : Nat → Int) (SF : Nat → Nat) (i : Nat) (hi : i < k) (hk : k ≤ 30) : Ci l D vwCl (tyT cI cJ) yX8_difference wsX8_difference rmX8_difference [.ref h0, .int (iZ ((i : Nat) : Int))] [(h0, .inr (7, [.ref da, .ref sa, .int (iZ ((k : Nat) : Int))])), (da, .inl (cI, 30, .inl (ZI DF))), (sa, .inl (cI, 30, .inl (LI SF)))] (Unit) (fun r _ => r = iZ (DF i)) (fun _ => [(h0, .inr (7, [.ref da, .ref sa, .int (iZ ((k : Nat) : Int))])), (da, .inl (cI, 30, .inl (ZI DF))), (sa, .inl (cI, 30, .inl (LI SF)))]) := by
  refine en_i (cc := cX8_difference) (maxL := 2) (by decide) rfl [(0, .ref h0), (1, .int (iZ ((i : Nat) : Int)))] (Nat.le_of_ble_eq_true rfl) rfl ?_
  intro p e s m args below meth c Q A hx hb hml hown hts hnm hK hP hD hA hS hret ls hl
  have hh_0 := hts (.fieldLink RX8 18 "BoundDraws$Units" "used" "I") (by decide +kernel)
  have hh_1 := (show ∀ w ∈ wsX80, w ∈ wsX8_difference by decide +kernel)
  have hh_2 := hts (.fieldLink RX8 9 "BoundDraws$Units" "differences" "[I") (by decide +kernel)
  refine lv_iload_n hx hb dX8_difference_0 rfl (lv_at hl 1 rfl) ?_
  refine zb_if_lt (x := ((i : Nat) : Int)) (tgt := 21) hx hb dX8_difference_1 (by decide) ⟨by omega, by omega⟩ (fun c_1 => ?_) (fun c_1 => ?_)
  · exfalso; omega
  · refine lv_iload_n hx hb dX8_difference_4 rfl (lv_at hl 1 rfl) ?_
    refine lv_aload_n hx hb dX8_difference_5 rfl (lv_at hl 0 rfl) ?_
    refine va_get (D := D) (ci := 7) (v := .int (iZ ((k : Nat) : Int))) (C := RX8) (T := TX8) (N := 3) hx hb hts hh_1 hown hK hP 0 rfl rfl 2 (by decide) hh_0 (fun _ h9 => h9) rfl dX8_difference_6 ?_
    refine zb_icmp_ge (x := ((i : Nat) : Int)) (y := ((k : Nat) : Int)) (tgt := 21) hx hb dX8_difference_9 (by decide) ⟨by omega, by omega⟩ ⟨by omega, by omega⟩ (fun c_9 => ?_) (fun c_9 => ?_)
    · exfalso; omega
    · refine lv_aload_n hx hb dX8_difference_12 rfl (lv_at hl 0 rfl) ?_
      refine va_get (D := D) (ci := 7) (v := .ref da) (C := RX8) (T := TX8) (N := 3) hx hb hts hh_1 hown hK hP 0 rfl rfl 0 (by decide) hh_2 (fun _ h9 => h9) rfl dX8_difference_13 ?_
      refine lv_iload_n hx hb dX8_difference_16 rfl (lv_at hl 1 rfl) ?_
      refine za_iald hx hb hK hP 1 0 rfl rfl (i) (v := (DF i)) (by decide) rfl (by omega) (rfl) dX8_difference_17 ?_
      refine lv_goto (tgt := 22) hx hb dX8_difference_18 (by decide) ?_
      exact hret _ (()) _ _ _ _ _ _ (Nat.le_of_ble_eq_true rfl) (Nat.le_of_ble_eq_true rfl) rfl dX8_difference_22 (rfl) hP hD hS
def rmX8_rowsOf : Room := { frames := 0, cells := 0, slots := 0, locals := 0 }
set_option maxHeartbeats 4000000 in
set_option maxRecDepth 100000 in
theorem c_X8_rowsOf (l : Launch) (D : va_G) (cI cJ : ClassId) (h0 da sa : Nat) (k : Nat) (DF : Nat → Int) (SF : Nat → Nat) (i : Nat) (hi : i < k) (hk : k ≤ 30) : Ci l D vwCl (tyT cI cJ) yX8_rowsOf wsX8_rowsOf rmX8_rowsOf [.ref h0, .int (iZ ((i : Nat) : Int))] [(h0, .inr (7, [.ref da, .ref sa, .int (iZ ((k : Nat) : Int))])), (da, .inl (cI, 30, .inl (ZI DF))), (sa, .inl (cI, 30, .inl (LI SF)))] (Unit) (fun r _ => r = iZ (((SF i : Nat) : Int))) (fun _ => [(h0, .inr (7, [.ref da, .ref sa, .int (iZ ((k : Nat) : Int))])), (da, .inl (cI, 30, .inl (ZI DF))), (sa, .inl (cI, 30, .inl (LI SF)))]) := by
  refine en_i (cc := cX8_rowsOf) (maxL := 2) (by decide) rfl [(0, .ref h0), (1, .int (iZ ((i : Nat) : Int)))] (Nat.le_of_ble_eq_true rfl) rfl ?_
  intro p e s m args below meth c Q A hx hb hml hown hts hnm hK hP hD hA hS hret ls hl
  have hh_0 := hts (.fieldLink RX8 18 "BoundDraws$Units" "used" "I") (by decide +kernel)
  have hh_1 := (show ∀ w ∈ wsX80, w ∈ wsX8_rowsOf by decide +kernel)
  have hh_2 := hts (.fieldLink RX8 15 "BoundDraws$Units" "sizes" "[I") (by decide +kernel)
  refine lv_iload_n hx hb dX8_rowsOf_0 rfl (lv_at hl 1 rfl) ?_
  refine zb_if_lt (x := ((i : Nat) : Int)) (tgt := 21) hx hb dX8_rowsOf_1 (by decide) ⟨by omega, by omega⟩ (fun c_1 => ?_) (fun c_1 => ?_)
  · exfalso; omega
  · refine lv_iload_n hx hb dX8_rowsOf_4 rfl (lv_at hl 1 rfl) ?_
    refine lv_aload_n hx hb dX8_rowsOf_5 rfl (lv_at hl 0 rfl) ?_
    refine va_get (D := D) (ci := 7) (v := .int (iZ ((k : Nat) : Int))) (C := RX8) (T := TX8) (N := 3) hx hb hts hh_1 hown hK hP 0 rfl rfl 2 (by decide) hh_0 (fun _ h9 => h9) rfl dX8_rowsOf_6 ?_
    refine zb_icmp_ge (x := ((i : Nat) : Int)) (y := ((k : Nat) : Int)) (tgt := 21) hx hb dX8_rowsOf_9 (by decide) ⟨by omega, by omega⟩ ⟨by omega, by omega⟩ (fun c_9 => ?_) (fun c_9 => ?_)
    · exfalso; omega
    · refine lv_aload_n hx hb dX8_rowsOf_12 rfl (lv_at hl 0 rfl) ?_
      refine va_get (D := D) (ci := 7) (v := .ref sa) (C := RX8) (T := TX8) (N := 3) hx hb hts hh_1 hown hK hP 0 rfl rfl 1 (by decide) hh_2 (fun _ h9 => h9) rfl dX8_rowsOf_13 ?_
      refine lv_iload_n hx hb dX8_rowsOf_16 rfl (lv_at hl 1 rfl) ?_
      refine za_iald hx hb hK hP 2 0 rfl rfl (i) (v := ((SF i : Nat) : Int)) (by decide) rfl (by omega) (rfl) dX8_rowsOf_17 ?_
      refine lv_goto (tgt := 22) hx hb dX8_rowsOf_18 (by decide) ?_
      exact hret _ (()) _ _ _ _ _ _ (Nat.le_of_ble_eq_true rfl) (Nat.le_of_ble_eq_true rfl) rfl dX8_rowsOf_22 (rfl) hP hD hS
def rmX8_takeRows : Room := { frames := 1, cells := 0, slots := 0, locals := 22 }
set_option maxHeartbeats 4000000 in
set_option maxRecDepth 100000 in
theorem c_X8_takeRows (l : Launch) (D : va_G) (cI cJ : ClassId) (h0 da sa : Nat) (k : Nat) (DF : Nat → Int) (SF : Nat → Nat) (h1 ga xa ya : Nat) (n : Nat) (G X Y : Nat → Nat) (hr : rok n G X Y) : Cv l D vwCl (tyT cI cJ) yX8_takeRows wsX8_takeRows rmX8_takeRows [.ref h0, .ref h1] [(h0, .inr (7, [.ref da, .ref sa, .int (iZ ((0 : Nat) : Int))])), (da, .inl (cI, 30, .inl (ZI DF))), (sa, .inl (cI, 30, .inl (LI SF))), (h1, .inr (4, [.ref ga, .ref xa, .ref ya, .int (iZ ((n : Nat) : Int))])), (ga, .inl (cI, 30, .inl (LI G))), (xa, .inl (cI, 30, .inl (LI X))), (ya, .inl (cI, 30, .inl (LI Y)))] ((Nat → Int) × (Nat → Nat)) (fun r => uok n r.1 r.2 (unitsR X Y n)) (fun r => [(h0, .inr (7, [.ref da, .ref sa, .int (iZ ((n : Nat) : Int))])), (da, .inl (cI, 30, .inl (ZI r.1))), (sa, .inl (cI, 30, .inl (LI r.2))), (h1, .inr (4, [.ref ga, .ref xa, .ref ya, .int (iZ ((n : Nat) : Int))])), (ga, .inl (cI, 30, .inl (LI G))), (xa, .inl (cI, 30, .inl (LI X))), (ya, .inl (cI, 30, .inl (LI Y)))]) := by
  have hn30 := hr.1
  refine en_v (cc := cX8_takeRows) (maxL := 3) (by decide) rfl [(0, .ref h0), (1, .ref h1)] (Nat.le_of_ble_eq_true rfl) rfl ?_
  intro p e s m args below meth c Q A hx hb hml hown hts hnm hK hP hD hA hS hret ls hl
  refine zc_iconst (z := ((0 : Nat) : Int)) hx hb dX8_takeRows_0 (by decide) ?_
  refine lv_istore_n (lv' := [(2, .int (iZ ((0 : Nat) : Int))), (0, .ref h0), (1, .ref h1)]) hx hb dX8_takeRows_1 rfl hl (by decide) rfl (fun ls hl => ?_)
  have pt_2 : ∀ f : Nat, ∀ (i : Nat) (DF : Nat → Int) (SF : Nat → Nat), (hi : i ≤ n) → (hU : uok i DF SF (unitsR X Y i)) → (hf : n < i + f) → (H : Heap) → (locs : List Loc) → va_P D vwCl [(h0, .inr (7, [.ref da, .ref sa, .int (iZ ((i : Nat) : Int))])), (da, .inl (cI, 30, .inl (ZI DF))), (sa, .inl (cI, 30, .inl (LI SF))), (h1, .inr (4, [.ref ga, .ref xa, .ref ya, .int (iZ ((n : Nat) : Int))])), (ga, .inl (cI, 30, .inl (LI G))), (xa, .inl (cI, 30, .inl (LI X))), (ya, .inl (cI, 30, .inl (LI Y)))] H → va_D A [(h0, .inr (7, [.ref da, .ref sa, .int (iZ ((i : Nat) : Int))])), (da, .inl (cI, 30, .inl (ZI DF))), (sa, .inl (cI, 30, .inl (LI SF))), (h1, .inr (4, [.ref ga, .ref xa, .ref ya, .int (iZ ((n : Nat) : Int))])), (ga, .inl (cI, 30, .inl (LI G))), (xa, .inl (cI, 30, .inl (LI X))), (ya, .inl (cI, 30, .inl (LI Y)))] → va_S A s.heap H locs → (ls : Array Slot) → lv_has ls 3 [(2, .int (iZ ((i : Nat) : Int))), (0, .ref h0), (1, .ref h1)] → W p l e rmX8_takeRows s m args below meth c H locs 0 0 Q (F0 m 2 ls []) := by
    intro f
    induction f with
    | zero =>
      intro i DF SF hi hU hf H locs hP hD hS ls hl
      exfalso; omega
    | succ f ih =>
      intro i DF SF hi hU hf H locs hP hD hS ls hl
      refine lv_iload_n hx hb dX8_takeRows_2 rfl (lv_at hl 0 rfl) ?_
      refine lv_aload_n hx hb dX8_takeRows_3 rfl (lv_at hl 2 rfl) ?_
      refine ca_iV [] [.int (iZ ((i : Nat) : Int))] [(h0, .inr (7, [.ref da, .ref sa, .int (iZ ((i : Nat) : Int))])), (da, .inl (cI, 30, .inl (ZI DF))), (sa, .inl (cI, 30, .inl (LI SF)))] 0 0 ⟨hx, hb, hml, hown, hts⟩ (c_X5_size l D cI cJ h1 ga xa ya n G X Y hr) (cwV 0 hts gX8_takeRows_X5_size rfl rfl rfl (by decide +kernel) ⟨(Nat.le_of_ble_eq_true rfl), (Nat.le_of_ble_eq_true rfl)⟩) hK hP hD hS hA [3, 4, 5, 6] [0, 1, 2] rfl rfl rfl rfl (by decide) 0 rfl rfl rfl hl.1 rfl (Nat.le_of_ble_eq_true rfl) dX8_takeRows_4 ⟨(Nat.le_of_ble_eq_true rfl), (Nat.le_of_ble_eq_true rfl)⟩ (Nat.le_of_ble_eq_true rfl) (Nat.le_of_ble_eq_true rfl) (fun r_4 u9 H locs hw hP hD hS => ?_)
      try dsimp only at hw
      have hP : va_P D vwCl [(h0, .inr (7, [.ref da, .ref sa, .int (iZ ((i : Nat) : Int))])), (da, .inl (cI, 30, .inl (ZI DF))), (sa, .inl (cI, 30, .inl (LI SF))), (h1, .inr (4, [.ref ga, .ref xa, .ref ya, .int (iZ ((n : Nat) : Int))])), (ga, .inl (cI, 30, .inl (LI G))), (xa, .inl (cI, 30, .inl (LI X))), (ya, .inl (cI, 30, .inl (LI Y)))] H := hP
      have hD : va_D A [(h0, .inr (7, [.ref da, .ref sa, .int (iZ ((i : Nat) : Int))])), (da, .inl (cI, 30, .inl (ZI DF))), (sa, .inl (cI, 30, .inl (LI SF))), (h1, .inr (4, [.ref ga, .ref xa, .ref ya, .int (iZ ((n : Nat) : Int))])), (ga, .inl (cI, 30, .inl (LI G))), (xa, .inl (cI, 30, .inl (LI X))), (ya, .inl (cI, 30, .inl (LI Y)))] := hD
      refine tp_i (y := (iZ ((n : Nat) : Int))) (hw) ?_
      refine zb_icmp_ge (x := ((i : Nat) : Int)) (y := ((n : Nat) : Int)) (tgt := 26) hx hb dX8_takeRows_7 (by decide) ⟨by omega, by omega⟩ ⟨by omega, by omega⟩ (fun c_7 => ?_) (fun c_7 => ?_)
      · have e9 : i = n := by omega
        subst e9
        exact hret (DF, SF) _ _ _ _ _ _ (Nat.le_of_ble_eq_true rfl) (Nat.le_of_ble_eq_true rfl) dX8_takeRows_26 (hU) hP hD hS
      · refine lv_aload_n hx hb dX8_takeRows_10 rfl (lv_at hl 1 rfl) ?_
        refine lv_aload_n hx hb dX8_takeRows_11 rfl (lv_at hl 2 rfl) ?_
        refine lv_iload_n hx hb dX8_takeRows_12 rfl (lv_at hl 0 rfl) ?_
        refine ca_iV [.int (iZ ((i : Nat) : Int))] [.ref h0] [(h0, .inr (7, [.ref da, .ref sa, .int (iZ ((i : Nat) : Int))])), (da, .inl (cI, 30, .inl (ZI DF))), (sa, .inl (cI, 30, .inl (LI SF)))] 0 0 ⟨hx, hb, hml, hown, hts⟩ (c_X5_difference l D cI cJ h1 ga xa ya n G X Y hr i (by omega)) (cwV 1 hts gX8_takeRows_X5_difference rfl rfl rfl (by decide +kernel) ⟨(Nat.le_of_ble_eq_true rfl), (Nat.le_of_ble_eq_true rfl)⟩) hK hP hD hS hA [3, 4, 5, 6] [0, 1, 2] rfl rfl rfl rfl (by decide) 0 rfl rfl rfl hl.1 rfl (Nat.le_of_ble_eq_true rfl) dX8_takeRows_13 ⟨(Nat.le_of_ble_eq_true rfl), (Nat.le_of_ble_eq_true rfl)⟩ (Nat.le_of_ble_eq_true rfl) (Nat.le_of_ble_eq_true rfl) (fun r_13 u9 H locs hw hP hD hS => ?_)
        try dsimp only at hw
        have hP : va_P D vwCl [(h0, .inr (7, [.ref da, .ref sa, .int (iZ ((i : Nat) : Int))])), (da, .inl (cI, 30, .inl (ZI DF))), (sa, .inl (cI, 30, .inl (LI SF))), (h1, .inr (4, [.ref ga, .ref xa, .ref ya, .int (iZ ((n : Nat) : Int))])), (ga, .inl (cI, 30, .inl (LI G))), (xa, .inl (cI, 30, .inl (LI X))), (ya, .inl (cI, 30, .inl (LI Y)))] H := hP
        have hD : va_D A [(h0, .inr (7, [.ref da, .ref sa, .int (iZ ((i : Nat) : Int))])), (da, .inl (cI, 30, .inl (ZI DF))), (sa, .inl (cI, 30, .inl (LI SF))), (h1, .inr (4, [.ref ga, .ref xa, .ref ya, .int (iZ ((n : Nat) : Int))])), (ga, .inl (cI, 30, .inl (LI G))), (xa, .inl (cI, 30, .inl (LI X))), (ya, .inl (cI, 30, .inl (LI Y)))] := hD
        refine tp_i (y := (iZ (rwD X Y i))) (hw) ?_
        refine zc_iconst (z := ((1 : Nat) : Int)) hx hb dX8_takeRows_16 (by decide) ?_
        refine ca_vV [.int (iZ (rwD X Y i)), .int (iZ ((1 : Nat) : Int))] [] [(h1, .inr (4, [.ref ga, .ref xa, .ref ya, .int (iZ ((n : Nat) : Int))])), (ga, .inl (cI, 30, .inl (LI G))), (xa, .inl (cI, 30, .inl (LI X))), (ya, .inl (cI, 30, .inl (LI Y)))] 0 0 ⟨hx, hb, hml, hown, hts⟩ (c_X8_add l D cI cJ h0 da sa i DF SF (rwD X Y i) 1 (by omega)) (cwV 2 hts gX8_takeRows_X8_add rfl rfl rfl (by decide +kernel) ⟨(Nat.le_of_ble_eq_true rfl), (Nat.le_of_ble_eq_true rfl)⟩) hK hP hD hS hA [0, 1, 2] [3, 4, 5, 6] rfl rfl rfl rfl (by decide) 0 rfl rfl rfl hl.1 rfl (Nat.le_of_ble_eq_true rfl) dX8_takeRows_17 ⟨(Nat.le_of_ble_eq_true rfl), (Nat.le_of_ble_eq_true rfl)⟩ (Nat.le_of_ble_eq_true rfl) (Nat.le_of_ble_eq_true rfl) (fun u9 H locs hw hP hD hS => ?_)
        try dsimp only at hw
        have hP : va_P D vwCl [(h1, .inr (4, [.ref ga, .ref xa, .ref ya, .int (iZ ((n : Nat) : Int))])), (ga, .inl (cI, 30, .inl (LI G))), (xa, .inl (cI, 30, .inl (LI X))), (ya, .inl (cI, 30, .inl (LI Y))), (h0, .inr (7, [.ref da, .ref sa, .int (iZ ((i + 1 : Nat) : Int))])), (da, .inl (cI, 30, .inl (ZI (zup DF i (rwD X Y i))))), (sa, .inl (cI, 30, .inl (LI (nup SF i 1))))] H := hP
        have hD : va_D A [(h1, .inr (4, [.ref ga, .ref xa, .ref ya, .int (iZ ((n : Nat) : Int))])), (ga, .inl (cI, 30, .inl (LI G))), (xa, .inl (cI, 30, .inl (LI X))), (ya, .inl (cI, 30, .inl (LI Y))), (h0, .inr (7, [.ref da, .ref sa, .int (iZ ((i + 1 : Nat) : Int))])), (da, .inl (cI, 30, .inl (ZI (zup DF i (rwD X Y i))))), (sa, .inl (cI, 30, .inl (LI (nup SF i 1))))] := hD
        refine lv_iinc (v := iZ ((i + 1 : Nat) : Int)) (lv' := [(2, .int (iZ ((i + 1 : Nat) : Int))), (0, .ref h0), (1, .ref h1)]) hx hb dX8_takeRows_20 hl (k := 0) rfl (zi_inc (by omega)) (by decide) rfl (fun ls hl => ?_)
        refine lv_goto (tgt := 2) hx hb dX8_takeRows_23 (by decide) ?_
        exact ih (i + 1) _ _ (by omega) (uok_add hU (by omega) _ _) (by omega) _ _ (hP.sub [4, 5, 6, 0, 1, 2, 3] rfl) (hD.sub [4, 5, 6, 0, 1, 2, 3] rfl rfl) hS ls (lv_sub hl [0, 1, 2] rfl)
  exact pt_2 (n + 1) 0 DF SF (by omega) (uok_0 DF SF) (by omega) _ _ hP hD hS ls (lv_sub hl [0, 1, 2] rfl)
def rmX8_takeGroups : Room := { frames := 1, cells := 0, slots := 0, locals := 23 }
set_option maxHeartbeats 4000000 in
set_option maxRecDepth 100000 in
theorem c_X8_takeGroups (l : Launch) (D : va_G) (cI cJ : ClassId) (h0 da sa : Nat) (k : Nat) (DF : Nat → Int) (SF : Nat → Nat) (h1 ga xa ya : Nat) (n : Nat) (G X Y : Nat → Nat) (hr : rok n G X Y) : Cv l D vwCl (tyT cI cJ) yX8_takeGroups wsX8_takeGroups rmX8_takeGroups [.ref h0, .ref h1] [(h0, .inr (7, [.ref da, .ref sa, .int (iZ ((0 : Nat) : Int))])), (da, .inl (cI, 30, .inl (ZI DF))), (sa, .inl (cI, 30, .inl (LI SF))), (h1, .inr (4, [.ref ga, .ref xa, .ref ya, .int (iZ ((n : Nat) : Int))])), (ga, .inl (cI, 30, .inl (LI G))), (xa, .inl (cI, 30, .inl (LI X))), (ya, .inl (cI, 30, .inl (LI Y)))] (Nat × (Nat → Int) × (Nat → Nat)) (fun r => uok r.1 r.2.1 r.2.2 (unitsG n G X Y 8)) (fun r => [(h0, .inr (7, [.ref da, .ref sa, .int (iZ ((r.1 : Nat) : Int))])), (da, .inl (cI, 30, .inl (ZI r.2.1))), (sa, .inl (cI, 30, .inl (LI r.2.2))), (h1, .inr (4, [.ref ga, .ref xa, .ref ya, .int (iZ ((n : Nat) : Int))])), (ga, .inl (cI, 30, .inl (LI G))), (xa, .inl (cI, 30, .inl (LI X))), (ya, .inl (cI, 30, .inl (LI Y)))]) := by
  have hn30 := hr.1
  refine en_v (cc := cX8_takeGroups) (maxL := 4) (by decide) rfl [(0, .ref h0), (1, .ref h1)] (Nat.le_of_ble_eq_true rfl) rfl ?_
  intro p e s m args below meth c Q A hx hb hml hown hts hnm hK hP hD hA hS hret ls hl
  refine zc_iconst (z := ((0 : Nat) : Int)) hx hb dX8_takeGroups_0 (by decide) ?_
  refine lv_istore_n (lv' := [(2, .int (iZ ((0 : Nat) : Int))), (0, .ref h0), (1, .ref h1)]) hx hb dX8_takeGroups_1 rfl hl (by decide) rfl (fun ls hl => ?_)
  have pt_2 : ∀ f : Nat, ∀ (i k : Nat) (DF : Nat → Int) (SF : Nat → Nat), (hi : i ≤ 8) → (hU : uok k DF SF (unitsG n G X Y i)) → (hf : 8 < i + f) → (H : Heap) → (locs : List Loc) → va_P D vwCl [(h0, .inr (7, [.ref da, .ref sa, .int (iZ ((k : Nat) : Int))])), (da, .inl (cI, 30, .inl (ZI DF))), (sa, .inl (cI, 30, .inl (LI SF))), (h1, .inr (4, [.ref ga, .ref xa, .ref ya, .int (iZ ((n : Nat) : Int))])), (ga, .inl (cI, 30, .inl (LI G))), (xa, .inl (cI, 30, .inl (LI X))), (ya, .inl (cI, 30, .inl (LI Y)))] H → va_D A [(h0, .inr (7, [.ref da, .ref sa, .int (iZ ((k : Nat) : Int))])), (da, .inl (cI, 30, .inl (ZI DF))), (sa, .inl (cI, 30, .inl (LI SF))), (h1, .inr (4, [.ref ga, .ref xa, .ref ya, .int (iZ ((n : Nat) : Int))])), (ga, .inl (cI, 30, .inl (LI G))), (xa, .inl (cI, 30, .inl (LI X))), (ya, .inl (cI, 30, .inl (LI Y)))] → va_S A s.heap H locs → (ls : Array Slot) → lv_has ls 4 [(2, .int (iZ ((i : Nat) : Int))), (0, .ref h0), (1, .ref h1)] → W p l e rmX8_takeGroups s m args below meth c H locs 0 0 Q (F0 m 2 ls []) := by
    intro f
    induction f with
    | zero =>
      intro i k DF SF hi hU hf H locs hP hD hS ls hl
      exfalso; omega
    | succ f ih =>
      intro i k DF SF hi hU hf H locs hP hD hS ls hl
      refine lv_iload_n hx hb dX8_takeGroups_2 rfl (lv_at hl 0 rfl) ?_
      refine zc_bipush (z := ((8 : Nat) : Int)) hx hb dX8_takeGroups_3 (by decide) ?_
      refine zb_icmp_ge (x := ((i : Nat) : Int)) (y := ((8 : Nat) : Int)) (tgt := 34) hx hb dX8_takeGroups_5 (by decide) ⟨by omega, by omega⟩ ⟨by decide, by decide⟩ (fun c_5 => ?_) (fun c_5 => ?_)
      · exact hret (k, DF, SF) _ _ _ _ _ _ (Nat.le_of_ble_eq_true rfl) (Nat.le_of_ble_eq_true rfl) dX8_takeGroups_34 (by have e9 : i = 8 := (by omega); rw [e9] at hU; exact hU) hP hD hS
      · have pt_28 : ∀ (k : Nat) (DF : Nat → Int) (SF : Nat → Nat), (hU : uok k DF SF (unitsG n G X Y (i + 1))) → (H : Heap) → (locs : List Loc) → va_P D vwCl [(h0, .inr (7, [.ref da, .ref sa, .int (iZ ((k : Nat) : Int))])), (da, .inl (cI, 30, .inl (ZI DF))), (sa, .inl (cI, 30, .inl (LI SF))), (h1, .inr (4, [.ref ga, .ref xa, .ref ya, .int (iZ ((n : Nat) : Int))])), (ga, .inl (cI, 30, .inl (LI G))), (xa, .inl (cI, 30, .inl (LI X))), (ya, .inl (cI, 30, .inl (LI Y)))] H → va_D A [(h0, .inr (7, [.ref da, .ref sa, .int (iZ ((k : Nat) : Int))])), (da, .inl (cI, 30, .inl (ZI DF))), (sa, .inl (cI, 30, .inl (LI SF))), (h1, .inr (4, [.ref ga, .ref xa, .ref ya, .int (iZ ((n : Nat) : Int))])), (ga, .inl (cI, 30, .inl (LI G))), (xa, .inl (cI, 30, .inl (LI X))), (ya, .inl (cI, 30, .inl (LI Y)))] → va_S A s.heap H locs → (ls : Array Slot) → lv_has ls 4 [(2, .int (iZ ((i : Nat) : Int))), (0, .ref h0), (1, .ref h1)] → W p l e rmX8_takeGroups s m args below meth c H locs 0 0 Q (F0 m 28 ls []) := by
          intro k DF SF hU H locs hP hD hS ls hl
          refine lv_iinc (v := iZ ((i + 1 : Nat) : Int)) (lv' := [(2, .int (iZ ((i + 1 : Nat) : Int))), (0, .ref h0), (1, .ref h1)]) hx hb dX8_takeGroups_28 hl (k := 0) rfl (zi_inc (by omega)) (by decide) rfl (fun ls hl => ?_)
          refine lv_goto (tgt := 2) hx hb dX8_takeGroups_31 (by decide) ?_
          exact ih (i + 1) k DF SF (by omega) hU (by omega) _ _ hP hD hS ls (lv_sub hl [0, 1, 2] rfl)
        have hb9 : grS G n i ≤ n := cnt_le _ _
        have hk9 : k < 30 := by have := unitsG_le n G X Y i; have := hU.1; omega
        refine lv_aload_n hx hb dX8_takeGroups_8 rfl (lv_at hl 2 rfl) ?_
        refine lv_iload_n hx hb dX8_takeGroups_9 rfl (lv_at hl 0 rfl) ?_
        refine ca_iV [.int (iZ ((i : Nat) : Int))] [] [(h0, .inr (7, [.ref da, .ref sa, .int (iZ ((k : Nat) : Int))])), (da, .inl (cI, 30, .inl (ZI DF))), (sa, .inl (cI, 30, .inl (LI SF)))] 0 0 ⟨hx, hb, hml, hown, hts⟩ (c_X5_sizeOfGroup l D cI cJ h1 ga xa ya n G X Y hr i (by omega)) (cwV 1 hts gX8_takeGroups_X5_sizeOfGroup rfl rfl rfl (by decide +kernel) ⟨(Nat.le_of_ble_eq_true rfl), (Nat.le_of_ble_eq_true rfl)⟩) hK hP hD hS hA [3, 4, 5, 6] [0, 1, 2] rfl rfl rfl rfl (by decide) 0 rfl rfl rfl hl.1 rfl (Nat.le_of_ble_eq_true rfl) dX8_takeGroups_10 ⟨(Nat.le_of_ble_eq_true rfl), (Nat.le_of_ble_eq_true rfl)⟩ (Nat.le_of_ble_eq_true rfl) (Nat.le_of_ble_eq_true rfl) (fun r_10 u9 H locs hw hP hD hS => ?_)
        try dsimp only at hw
        have hP : va_P D vwCl [(h0, .inr (7, [.ref da, .ref sa, .int (iZ ((k : Nat) : Int))])), (da, .inl (cI, 30, .inl (ZI DF))), (sa, .inl (cI, 30, .inl (LI SF))), (h1, .inr (4, [.ref ga, .ref xa, .ref ya, .int (iZ ((n : Nat) : Int))])), (ga, .inl (cI, 30, .inl (LI G))), (xa, .inl (cI, 30, .inl (LI X))), (ya, .inl (cI, 30, .inl (LI Y)))] H := hP
        have hD : va_D A [(h0, .inr (7, [.ref da, .ref sa, .int (iZ ((k : Nat) : Int))])), (da, .inl (cI, 30, .inl (ZI DF))), (sa, .inl (cI, 30, .inl (LI SF))), (h1, .inr (4, [.ref ga, .ref xa, .ref ya, .int (iZ ((n : Nat) : Int))])), (ga, .inl (cI, 30, .inl (LI G))), (xa, .inl (cI, 30, .inl (LI X))), (ya, .inl (cI, 30, .inl (LI Y)))] := hD
        refine tp_i (y := (iZ ((grS G n i : Nat) : Int))) (hw) ?_
        refine lv_istore_n (lv' := [(3, .int (iZ ((grS G n i : Nat) : Int))), (2, .int (iZ ((i : Nat) : Int))), (0, .ref h0), (1, .ref h1)]) hx hb dX8_takeGroups_13 rfl hl (by decide) rfl (fun ls hl => ?_)
        refine lv_iload_n hx hb dX8_takeGroups_14 rfl (lv_at hl 0 rfl) ?_
        refine zb_if_le (x := ((grS G n i : Nat) : Int)) (tgt := 28) hx hb dX8_takeGroups_15 (by decide) ⟨by omega, by omega⟩ (fun c_15 => ?_) (fun c_15 => ?_)
        · exact pt_28 k DF SF (by rw [unitsG, if_neg (by omega)]; exact hU) _ _ hP hD hS ls (lv_sub hl [1, 2, 3] rfl)
        · refine lv_aload_n hx hb dX8_takeGroups_18 rfl (lv_at hl 2 rfl) ?_
          refine lv_aload_n hx hb dX8_takeGroups_19 rfl (lv_at hl 3 rfl) ?_
          refine lv_iload_n hx hb dX8_takeGroups_20 rfl (lv_at hl 1 rfl) ?_
          refine ca_iV [.int (iZ ((i : Nat) : Int))] [.ref h0] [(h0, .inr (7, [.ref da, .ref sa, .int (iZ ((k : Nat) : Int))])), (da, .inl (cI, 30, .inl (ZI DF))), (sa, .inl (cI, 30, .inl (LI SF)))] 0 0 ⟨hx, hb, hml, hown, hts⟩ (c_X5_differenceOfGroup l D cI cJ h1 ga xa ya n G X Y hr i (by omega)) (cwV 1 hts gX8_takeGroups_X5_differenceOfGroup rfl rfl rfl (by decide +kernel) ⟨(Nat.le_of_ble_eq_true rfl), (Nat.le_of_ble_eq_true rfl)⟩) hK hP hD hS hA [3, 4, 5, 6] [0, 1, 2] rfl rfl rfl rfl (by decide) 0 rfl rfl rfl hl.1 rfl (Nat.le_of_ble_eq_true rfl) dX8_takeGroups_21 ⟨(Nat.le_of_ble_eq_true rfl), (Nat.le_of_ble_eq_true rfl)⟩ (Nat.le_of_ble_eq_true rfl) (Nat.le_of_ble_eq_true rfl) (fun r_21 u9 H locs hw hP hD hS => ?_)
          try dsimp only at hw
          have hP : va_P D vwCl [(h0, .inr (7, [.ref da, .ref sa, .int (iZ ((k : Nat) : Int))])), (da, .inl (cI, 30, .inl (ZI DF))), (sa, .inl (cI, 30, .inl (LI SF))), (h1, .inr (4, [.ref ga, .ref xa, .ref ya, .int (iZ ((n : Nat) : Int))])), (ga, .inl (cI, 30, .inl (LI G))), (xa, .inl (cI, 30, .inl (LI X))), (ya, .inl (cI, 30, .inl (LI Y)))] H := hP
          have hD : va_D A [(h0, .inr (7, [.ref da, .ref sa, .int (iZ ((k : Nat) : Int))])), (da, .inl (cI, 30, .inl (ZI DF))), (sa, .inl (cI, 30, .inl (LI SF))), (h1, .inr (4, [.ref ga, .ref xa, .ref ya, .int (iZ ((n : Nat) : Int))])), (ga, .inl (cI, 30, .inl (LI G))), (xa, .inl (cI, 30, .inl (LI X))), (ya, .inl (cI, 30, .inl (LI Y)))] := hD
          refine tp_i (y := (iZ (grD G X Y n i))) (hw) ?_
          refine lv_iload_n hx hb dX8_takeGroups_24 rfl (lv_at hl 0 rfl) ?_
          refine ca_vV [.int (iZ (grD G X Y n i)), .int (iZ ((grS G n i : Nat) : Int))] [] [(h1, .inr (4, [.ref ga, .ref xa, .ref ya, .int (iZ ((n : Nat) : Int))])), (ga, .inl (cI, 30, .inl (LI G))), (xa, .inl (cI, 30, .inl (LI X))), (ya, .inl (cI, 30, .inl (LI Y)))] 0 0 ⟨hx, hb, hml, hown, hts⟩ (c_X8_add l D cI cJ h0 da sa k DF SF (grD G X Y n i) (grS G n i) hk9) (cwV 2 hts gX8_takeGroups_X8_add rfl rfl rfl (by decide +kernel) ⟨(Nat.le_of_ble_eq_true rfl), (Nat.le_of_ble_eq_true rfl)⟩) hK hP hD hS hA [0, 1, 2] [3, 4, 5, 6] rfl rfl rfl rfl (by decide) 0 rfl rfl rfl hl.1 rfl (Nat.le_of_ble_eq_true rfl) dX8_takeGroups_25 ⟨(Nat.le_of_ble_eq_true rfl), (Nat.le_of_ble_eq_true rfl)⟩ (Nat.le_of_ble_eq_true rfl) (Nat.le_of_ble_eq_true rfl) (fun u9 H locs hw hP hD hS => ?_)
          try dsimp only at hw
          have hP : va_P D vwCl [(h1, .inr (4, [.ref ga, .ref xa, .ref ya, .int (iZ ((n : Nat) : Int))])), (ga, .inl (cI, 30, .inl (LI G))), (xa, .inl (cI, 30, .inl (LI X))), (ya, .inl (cI, 30, .inl (LI Y))), (h0, .inr (7, [.ref da, .ref sa, .int (iZ ((k + 1 : Nat) : Int))])), (da, .inl (cI, 30, .inl (ZI (zup DF k (grD G X Y n i))))), (sa, .inl (cI, 30, .inl (LI (nup SF k (grS G n i)))))] H := hP
          have hD : va_D A [(h1, .inr (4, [.ref ga, .ref xa, .ref ya, .int (iZ ((n : Nat) : Int))])), (ga, .inl (cI, 30, .inl (LI G))), (xa, .inl (cI, 30, .inl (LI X))), (ya, .inl (cI, 30, .inl (LI Y))), (h0, .inr (7, [.ref da, .ref sa, .int (iZ ((k + 1 : Nat) : Int))])), (da, .inl (cI, 30, .inl (ZI (zup DF k (grD G X Y n i))))), (sa, .inl (cI, 30, .inl (LI (nup SF k (grS G n i)))))] := hD
          exact pt_28 (k + 1) _ _ (by rw [unitsG, if_pos (by omega)]; exact uok_add hU hk9 _ _) _ _ (hP.sub [4, 5, 6, 0, 1, 2, 3] rfl) (hD.sub [4, 5, 6, 0, 1, 2, 3] rfl rfl) hS ls (lv_sub hl [1, 2, 3] rfl)
  exact pt_2 9 0 0 DF SF (by omega) (uok_0 DF SF) (by omega) _ _ hP hD hS ls (lv_sub hl [0, 1, 2] rfl)
def rmX8_take : Room := { frames := 2, cells := 0, slots := 0, locals := 46 }
set_option maxHeartbeats 4000000 in
set_option maxRecDepth 100000 in
theorem c_X8_take (l : Launch) (D : va_G) (cI cJ : ClassId) (h0 da sa : Nat) (k : Nat) (DF : Nat → Int) (SF : Nat → Nat) (h1 ga xa ya : Nat) (n : Nat) (G X Y : Nat → Nat) (hr : rok n G X Y) (b : Nat) (hb2 : b ≤ 1) : Cv l D vwCl (tyT cI cJ) yX8_take wsX8_take rmX8_take [.ref h0, .ref h1, .int (iZ ((b : Nat) : Int))] [(h0, .inr (7, [.ref da, .ref sa, .int (iZ ((k : Nat) : Int))])), (da, .inl (cI, 30, .inl (ZI DF))), (sa, .inl (cI, 30, .inl (LI SF))), (h1, .inr (4, [.ref ga, .ref xa, .ref ya, .int (iZ ((n : Nat) : Int))])), (ga, .inl (cI, 30, .inl (LI G))), (xa, .inl (cI, 30, .inl (LI X))), (ya, .inl (cI, 30, .inl (LI Y)))] (Nat × (Nat → Int) × (Nat → Nat)) (fun r => uok r.1 r.2.1 r.2.2 (unitsOf n G X Y b)) (fun r => [(h0, .inr (7, [.ref da, .ref sa, .int (iZ ((r.1 : Nat) : Int))])), (da, .inl (cI, 30, .inl (ZI r.2.1))), (sa, .inl (cI, 30, .inl (LI r.2.2))), (h1, .inr (4, [.ref ga, .ref xa, .ref ya, .int (iZ ((n : Nat) : Int))])), (ga, .inl (cI, 30, .inl (LI G))), (xa, .inl (cI, 30, .inl (LI X))), (ya, .inl (cI, 30, .inl (LI Y)))]) := by
  refine en_v (cc := cX8_take) (maxL := 3) (by decide) rfl [(0, .ref h0), (1, .ref h1), (2, .int (iZ ((b : Nat) : Int)))] (Nat.le_of_ble_eq_true rfl) rfl ?_
  intro p e s m args below meth c Q A hx hb hml hown hts hnm hK hP hD hA hS hret ls hl
  have hh_0 := hts (.fieldLink RX8 18 "BoundDraws$Units" "used" "I") (by decide +kernel)
  have hh_1 := (show ∀ w ∈ wsX80, w ∈ wsX8_take by decide +kernel)
  refine lv_aload_n hx hb dX8_take_0 rfl (lv_at hl 0 rfl) ?_
  refine zc_iconst (z := ((0 : Nat) : Int)) hx hb dX8_take_1 (by decide) ?_
  refine va_put (D := D) (ci := 7) (v := .int (iZ ((0 : Nat) : Int))) (ty := .int) (C := RX8) (T := TX8) (N := 3) hx hb hts hh_1 tyX8 tyX8_ok nmX8 hown hK hP hD hS 0 rfl rfl 2 (by decide) hh_0 (fun _ h9 => h9) rfl (by decide +kernel) rfl rfl (Nat.le_of_ble_eq_true rfl) dX8_take_2 (fun H locs hP hD hS => ?_)
  have hP : va_P D vwCl [(h0, .inr (7, [.ref da, .ref sa, .int (iZ ((0 : Nat) : Int))])), (da, .inl (cI, 30, .inl (ZI DF))), (sa, .inl (cI, 30, .inl (LI SF))), (h1, .inr (4, [.ref ga, .ref xa, .ref ya, .int (iZ ((n : Nat) : Int))])), (ga, .inl (cI, 30, .inl (LI G))), (xa, .inl (cI, 30, .inl (LI X))), (ya, .inl (cI, 30, .inl (LI Y)))] H := hP
  have hD : va_D A [(h0, .inr (7, [.ref da, .ref sa, .int (iZ ((0 : Nat) : Int))])), (da, .inl (cI, 30, .inl (ZI DF))), (sa, .inl (cI, 30, .inl (LI SF))), (h1, .inr (4, [.ref ga, .ref xa, .ref ya, .int (iZ ((n : Nat) : Int))])), (ga, .inl (cI, 30, .inl (LI G))), (xa, .inl (cI, 30, .inl (LI X))), (ya, .inl (cI, 30, .inl (LI Y)))] := hD
  refine lv_iload_n hx hb dX8_take_5 rfl (lv_at hl 2 rfl) ?_
  refine zb_if_eq (x := ((b : Nat) : Int)) (tgt := 17) hx hb dX8_take_6 (by decide) ⟨by omega, by omega⟩ (fun c_6 => ?_) (fun c_6 => ?_)
  · refine lv_aload_n hx hb dX8_take_17 rfl (lv_at hl 0 rfl) ?_
    refine lv_aload_n hx hb dX8_take_18 rfl (lv_at hl 1 rfl) ?_
    refine ca_vV [.ref h1] [] [] 0 0 ⟨hx, hb, hml, hown, hts⟩ (c_X8_takeRows l D cI cJ h0 da sa 0 DF SF h1 ga xa ya n G X Y hr) (cwV 1 hts gX8_take_X8_takeRows rfl rfl rfl (by decide +kernel) ⟨(Nat.le_of_ble_eq_true rfl), (Nat.le_of_ble_eq_true rfl)⟩) hK hP hD hS hA [0, 1, 2, 3, 4, 5, 6] [] rfl rfl rfl rfl (by decide) 0 rfl rfl rfl hl.1 rfl (Nat.le_of_ble_eq_true rfl) dX8_take_19 ⟨(Nat.le_of_ble_eq_true rfl), (Nat.le_of_ble_eq_true rfl)⟩ (Nat.le_of_ble_eq_true rfl) (Nat.le_of_ble_eq_true rfl) (fun u9 H locs hw hP hD hS => ?_)
    obtain ⟨DF1, SF1⟩ := u9
    try dsimp only at hw
    have hP : va_P D vwCl [(h0, .inr (7, [.ref da, .ref sa, .int (iZ ((n : Nat) : Int))])), (da, .inl (cI, 30, .inl (ZI DF1))), (sa, .inl (cI, 30, .inl (LI SF1))), (h1, .inr (4, [.ref ga, .ref xa, .ref ya, .int (iZ ((n : Nat) : Int))])), (ga, .inl (cI, 30, .inl (LI G))), (xa, .inl (cI, 30, .inl (LI X))), (ya, .inl (cI, 30, .inl (LI Y)))] H := hP
    have hD : va_D A [(h0, .inr (7, [.ref da, .ref sa, .int (iZ ((n : Nat) : Int))])), (da, .inl (cI, 30, .inl (ZI DF1))), (sa, .inl (cI, 30, .inl (LI SF1))), (h1, .inr (4, [.ref ga, .ref xa, .ref ya, .int (iZ ((n : Nat) : Int))])), (ga, .inl (cI, 30, .inl (LI G))), (xa, .inl (cI, 30, .inl (LI X))), (ya, .inl (cI, 30, .inl (LI Y)))] := hD
    exact hret (n, DF1, SF1) _ _ _ _ _ _ (Nat.le_of_ble_eq_true rfl) (Nat.le_of_ble_eq_true rfl) dX8_take_22 (by unfold unitsOf; rw [if_pos (by omega)]; exact hw) hP hD hS
  · refine lv_aload_n hx hb dX8_take_9 rfl (lv_at hl 0 rfl) ?_
    refine lv_aload_n hx hb dX8_take_10 rfl (lv_at hl 1 rfl) ?_
    refine ca_vV [.ref h1] [] [] 0 0 ⟨hx, hb, hml, hown, hts⟩ (c_X8_takeGroups l D cI cJ h0 da sa 0 DF SF h1 ga xa ya n G X Y hr) (cwV 1 hts gX8_take_X8_takeGroups rfl rfl rfl (by decide +kernel) ⟨(Nat.le_of_ble_eq_true rfl), (Nat.le_of_ble_eq_true rfl)⟩) hK hP hD hS hA [0, 1, 2, 3, 4, 5, 6] [] rfl rfl rfl rfl (by decide) 0 rfl rfl rfl hl.1 rfl (Nat.le_of_ble_eq_true rfl) dX8_take_11 ⟨(Nat.le_of_ble_eq_true rfl), (Nat.le_of_ble_eq_true rfl)⟩ (Nat.le_of_ble_eq_true rfl) (Nat.le_of_ble_eq_true rfl) (fun u9 H locs hw hP hD hS => ?_)
    obtain ⟨k1, DF1, SF1⟩ := u9
    try dsimp only at hw
    have hP : va_P D vwCl [(h0, .inr (7, [.ref da, .ref sa, .int (iZ ((k1 : Nat) : Int))])), (da, .inl (cI, 30, .inl (ZI DF1))), (sa, .inl (cI, 30, .inl (LI SF1))), (h1, .inr (4, [.ref ga, .ref xa, .ref ya, .int (iZ ((n : Nat) : Int))])), (ga, .inl (cI, 30, .inl (LI G))), (xa, .inl (cI, 30, .inl (LI X))), (ya, .inl (cI, 30, .inl (LI Y)))] H := hP
    have hD : va_D A [(h0, .inr (7, [.ref da, .ref sa, .int (iZ ((k1 : Nat) : Int))])), (da, .inl (cI, 30, .inl (ZI DF1))), (sa, .inl (cI, 30, .inl (LI SF1))), (h1, .inr (4, [.ref ga, .ref xa, .ref ya, .int (iZ ((n : Nat) : Int))])), (ga, .inl (cI, 30, .inl (LI G))), (xa, .inl (cI, 30, .inl (LI X))), (ya, .inl (cI, 30, .inl (LI Y)))] := hD
    refine lv_goto (tgt := 22) hx hb dX8_take_14 (by decide) ?_
    exact hret (k1, DF1, SF1) _ _ _ _ _ _ (Nat.le_of_ble_eq_true rfl) (Nat.le_of_ble_eq_true rfl) dX8_take_22 (by unfold unitsOf; rw [if_neg (by omega)]; exact hw) hP hD hS

def rmX11_compare : Room := { frames := 1, cells := 0, slots := 0, locals := 25 }
set_option maxHeartbeats 4000000 in
set_option maxRecDepth 100000 in
theorem c_X11_compare (l : Launch) (D : va_G) (cI cJ : ClassId) (mz sA sB gO xO yO dO zO wO mO aO bO uO vO : Nat) (th rn un mn kc hT tu td ta tb tt tk tj : Nat) (U V : Nat → Nat) (hc : cok kc U V) (zu : Int) (izu : iR zu) (zd : Int) (izd : iR zd) : Ci l D vwCl (tyT cI cJ) yX11_compare wsX11_compare rmX11_compare [.ref mz, .int (iZ (zu)), .int (iZ (zd))] [(mz, .inr (10, [.int (iZ ((th : Nat) : Int)), .ref sA, .ref sB, .int (iZ ((rn : Nat) : Int)), .ref gO, .ref xO, .ref yO, .int (iZ ((un : Nat) : Int)), .ref dO, .ref zO, .ref wO, .ref mO, .int (iZ ((mn : Nat) : Int)), .ref aO, .ref bO, .int (iZ ((kc : Nat) : Int)), .ref uO, .ref vO, .int (iZ ((hT : Nat) : Int)), .int (iZ ((tu : Nat) : Int)), .int (iZ ((td : Nat) : Int)), .int (iZ ((ta : Nat) : Int)), .int (iZ ((tb : Nat) : Int)), .int (iZ ((tt : Nat) : Int)), .int (iZ ((tk : Nat) : Int)), .int (iZ ((tj : Nat) : Int))])), (uO, .inl (cI, 10, .inl (LI U))), (vO, .inl (cI, 10, .inl (LI V)))] (Nat × (Nat → Nat) × (Nat → Nat)) (fun r u => (vComp zu zd → kc < 10 → r = iZ ((kc : Nat) : Int) ∧ u = (kc + 1, nup U kc zu.toNat, nup V kc zd.toNat)) ∧ (vComp zu zd → ¬ kc < 10 → r = iZ (-2) ∧ u = (kc, U, V)) ∧ (¬ vComp zu zd → r = iZ (-1) ∧ u = (kc, U, V))) (fun u => [(mz, .inr (10, [.int (iZ ((0 : Nat) : Int)), .ref sA, .ref sB, .int (iZ ((rn : Nat) : Int)), .ref gO, .ref xO, .ref yO, .int (iZ ((un : Nat) : Int)), .ref dO, .ref zO, .ref wO, .ref mO, .int (iZ ((mn : Nat) : Int)), .ref aO, .ref bO, .int (iZ ((u.1 : Nat) : Int)), .ref uO, .ref vO, .int (iZ ((hT : Nat) : Int)), .int (iZ ((tu : Nat) : Int)), .int (iZ ((td : Nat) : Int)), .int (iZ ((ta : Nat) : Int)), .int (iZ ((tb : Nat) : Int)), .int (iZ ((tt : Nat) : Int)), .int (iZ ((tk : Nat) : Int)), .int (iZ ((tj : Nat) : Int))])), (uO, .inl (cI, 10, .inl (LI u.2.1))), (vO, .inl (cI, 10, .inl (LI u.2.2)))]) := by
  have hk0 := hc.1
  refine en_i (cc := cX11_compare) (maxL := 3) (by decide) rfl [(0, .ref mz), (1, .int (iZ (zu))), (2, .int (iZ (zd)))] (Nat.le_of_ble_eq_true rfl) rfl ?_
  intro p e s m args below meth c Q A hx hb hml hown hts hnm hK hP hD hA hS hret ls hl
  have hh_0 := hts (.fieldLink RX11 50 "BoundDrawsModel" "thrown" "I") (by decide +kernel)
  have hh_1 := (show ∀ w ∈ wsX110, w ∈ wsX11_compare by decide +kernel)
  have hh_2 := hts (.constantLong RX11 155 (100000)) (by decide +kernel)
  have hh_3 := hts (.fieldLink RX11 157 "BoundDrawsModel" "compares" "I") (by decide +kernel)
  have hh_4 := hts (.fieldLink RX11 44 "BoundDrawsModel" "upOf" "[I") (by decide +kernel)
  have hh_5 := hts (.fieldLink RX11 47 "BoundDrawsModel" "downOf" "[I") (by decide +kernel)
  refine lv_aload_n hx hb dX11_compare_0 rfl (lv_at hl 0 rfl) ?_
  refine zc_iconst (z := ((0 : Nat) : Int)) hx hb dX11_compare_1 (by decide) ?_
  refine va_put (D := D) (ci := 10) (v := .int (iZ ((0 : Nat) : Int))) (ty := .int) (C := RX11) (T := TX11) (N := 26) hx hb hts hh_1 tyX11 tyX11_ok nmX11 hown hK hP hD hS 0 rfl rfl 0 (by decide) hh_0 (fun _ h9 => h9) rfl (by decide +kernel) rfl rfl (Nat.le_of_ble_eq_true rfl) dX11_compare_2 (fun H locs hP hD hS => ?_)
  have hP : va_P D vwCl [(mz, .inr (10, [.int (iZ ((0 : Nat) : Int)), .ref sA, .ref sB, .int (iZ ((rn : Nat) : Int)), .ref gO, .ref xO, .ref yO, .int (iZ ((un : Nat) : Int)), .ref dO, .ref zO, .ref wO, .ref mO, .int (iZ ((mn : Nat) : Int)), .ref aO, .ref bO, .int (iZ ((kc : Nat) : Int)), .ref uO, .ref vO, .int (iZ ((hT : Nat) : Int)), .int (iZ ((tu : Nat) : Int)), .int (iZ ((td : Nat) : Int)), .int (iZ ((ta : Nat) : Int)), .int (iZ ((tb : Nat) : Int)), .int (iZ ((tt : Nat) : Int)), .int (iZ ((tk : Nat) : Int)), .int (iZ ((tj : Nat) : Int))])), (uO, .inl (cI, 10, .inl (LI U))), (vO, .inl (cI, 10, .inl (LI V)))] H := hP
  have hD : va_D A [(mz, .inr (10, [.int (iZ ((0 : Nat) : Int)), .ref sA, .ref sB, .int (iZ ((rn : Nat) : Int)), .ref gO, .ref xO, .ref yO, .int (iZ ((un : Nat) : Int)), .ref dO, .ref zO, .ref wO, .ref mO, .int (iZ ((mn : Nat) : Int)), .ref aO, .ref bO, .int (iZ ((kc : Nat) : Int)), .ref uO, .ref vO, .int (iZ ((hT : Nat) : Int)), .int (iZ ((tu : Nat) : Int)), .int (iZ ((td : Nat) : Int)), .int (iZ ((ta : Nat) : Int)), .int (iZ ((tb : Nat) : Int)), .int (iZ ((tt : Nat) : Int)), .int (iZ ((tk : Nat) : Int)), .int (iZ ((tj : Nat) : Int))])), (uO, .inl (cI, 10, .inl (LI U))), (vO, .inl (cI, 10, .inl (LI V)))] := hD
  refine lv_iload_n hx hb dX11_compare_5 rfl (lv_at hl 2 rfl) ?_
  refine z_i2l (z := (zd)) hx hb dX11_compare_6 ⟨by omega, by omega⟩ rfl ?_
  refine zc_lconst (z := ((1 : Nat) : Int)) hx hb dX11_compare_7 (by decide) ?_
  refine lv_ldc2 hx hb hown hh_2 dX11_compare_8 (tp_l (y := lZ ((100000 : Nat) : Int)) (by decide) ?_)
  refine ca_iS [.long (lZ (zd)), .long (lZ ((1 : Nat) : Int)), .long (lZ ((100000 : Nat) : Int))] [] [(mz, .inr (10, [.int (iZ ((0 : Nat) : Int)), .ref sA, .ref sB, .int (iZ ((rn : Nat) : Int)), .ref gO, .ref xO, .ref yO, .int (iZ ((un : Nat) : Int)), .ref dO, .ref zO, .ref wO, .ref mO, .int (iZ ((mn : Nat) : Int)), .ref aO, .ref bO, .int (iZ ((kc : Nat) : Int)), .ref uO, .ref vO, .int (iZ ((hT : Nat) : Int)), .int (iZ ((tu : Nat) : Int)), .int (iZ ((td : Nat) : Int)), .int (iZ ((ta : Nat) : Int)), .int (iZ ((tb : Nat) : Int)), .int (iZ ((tt : Nat) : Int)), .int (iZ ((tk : Nat) : Int)), .int (iZ ((tj : Nat) : Int))])), (uO, .inl (cI, 10, .inl (LI U))), (vO, .inl (cI, 10, .inl (LI V)))] 0 0 ⟨hx, hb, hml, hown, hts⟩ (c_X11_in l D cI cJ zd ((1 : Nat) : Int) ((100000 : Nat) : Int) ⟨by omega, by omega⟩ ⟨by omega, by omega⟩ ⟨by omega, by omega⟩) (va_cwS 3 hts gX11_compare_X11_in rfl rfl rfl (by decide +kernel) ⟨(Nat.le_of_ble_eq_true rfl), (Nat.le_of_ble_eq_true rfl)⟩) hK hP hD hS hA [] [0, 1, 2] rfl rfl rfl rfl (by decide) rfl hl.1 rfl (Nat.le_of_ble_eq_true rfl) dX11_compare_11 ⟨(Nat.le_of_ble_eq_true rfl), (Nat.le_of_ble_eq_true rfl)⟩ (Nat.le_of_ble_eq_true rfl) (Nat.le_of_ble_eq_true rfl) (fun r_11 u9 H locs hw hP hD hS => ?_)
  obtain u9 := u9
  try dsimp only at hw
  obtain ⟨b1, wa1, wb1, wc1⟩ := hw
  have hP : va_P D vwCl [(mz, .inr (10, [.int (iZ ((0 : Nat) : Int)), .ref sA, .ref sB, .int (iZ ((rn : Nat) : Int)), .ref gO, .ref xO, .ref yO, .int (iZ ((un : Nat) : Int)), .ref dO, .ref zO, .ref wO, .ref mO, .int (iZ ((mn : Nat) : Int)), .ref aO, .ref bO, .int (iZ ((kc : Nat) : Int)), .ref uO, .ref vO, .int (iZ ((hT : Nat) : Int)), .int (iZ ((tu : Nat) : Int)), .int (iZ ((td : Nat) : Int)), .int (iZ ((ta : Nat) : Int)), .int (iZ ((tb : Nat) : Int)), .int (iZ ((tt : Nat) : Int)), .int (iZ ((tk : Nat) : Int)), .int (iZ ((tj : Nat) : Int))])), (uO, .inl (cI, 10, .inl (LI U))), (vO, .inl (cI, 10, .inl (LI V)))] H := hP
  have hD : va_D A [(mz, .inr (10, [.int (iZ ((0 : Nat) : Int)), .ref sA, .ref sB, .int (iZ ((rn : Nat) : Int)), .ref gO, .ref xO, .ref yO, .int (iZ ((un : Nat) : Int)), .ref dO, .ref zO, .ref wO, .ref mO, .int (iZ ((mn : Nat) : Int)), .ref aO, .ref bO, .int (iZ ((kc : Nat) : Int)), .ref uO, .ref vO, .int (iZ ((hT : Nat) : Int)), .int (iZ ((tu : Nat) : Int)), .int (iZ ((td : Nat) : Int)), .int (iZ ((ta : Nat) : Int)), .int (iZ ((tb : Nat) : Int)), .int (iZ ((tt : Nat) : Int)), .int (iZ ((tk : Nat) : Int)), .int (iZ ((tj : Nat) : Int))])), (uO, .inl (cI, 10, .inl (LI U))), (vO, .inl (cI, 10, .inl (LI V)))] := hD
  refine tp_i (y := (iZ (b1))) (wa1) ?_
  refine zb_if_eq (x := (b1)) (tgt := 28) hx hb dX11_compare_14 (by decide) ⟨by omega, by omega⟩ (fun c_14 => ?_) (fun c_14 => ?_)
  · refine zc_iconst (z := (-1 : Int)) hx hb dX11_compare_28 (by decide) ?_
    exact hret _ (kc, U, V) _ _ _ _ _ _ (Nat.le_of_ble_eq_true rfl) (Nat.le_of_ble_eq_true rfl) rfl dX11_compare_29 (⟨fun h9 => absurd h9 (by omega), fun h9 => absurd h9 (by omega), fun _ => ⟨rfl, rfl⟩⟩) hP hD hS
  · refine lv_iload_n hx hb dX11_compare_17 rfl (lv_at hl 1 rfl) ?_
    refine z_i2l (z := (zu)) hx hb dX11_compare_18 ⟨by omega, by omega⟩ rfl ?_
    refine zc_lconst (z := ((0 : Nat) : Int)) hx hb dX11_compare_19 (by decide) ?_
    refine lv_iload_n hx hb dX11_compare_20 rfl (lv_at hl 2 rfl) ?_
    refine z_i2l (z := (zd)) hx hb dX11_compare_21 ⟨by omega, by omega⟩ rfl ?_
    refine ca_iS [.long (lZ (zu)), .long (lZ ((0 : Nat) : Int)), .long (lZ (zd))] [] [(mz, .inr (10, [.int (iZ ((0 : Nat) : Int)), .ref sA, .ref sB, .int (iZ ((rn : Nat) : Int)), .ref gO, .ref xO, .ref yO, .int (iZ ((un : Nat) : Int)), .ref dO, .ref zO, .ref wO, .ref mO, .int (iZ ((mn : Nat) : Int)), .ref aO, .ref bO, .int (iZ ((kc : Nat) : Int)), .ref uO, .ref vO, .int (iZ ((hT : Nat) : Int)), .int (iZ ((tu : Nat) : Int)), .int (iZ ((td : Nat) : Int)), .int (iZ ((ta : Nat) : Int)), .int (iZ ((tb : Nat) : Int)), .int (iZ ((tt : Nat) : Int)), .int (iZ ((tk : Nat) : Int)), .int (iZ ((tj : Nat) : Int))])), (uO, .inl (cI, 10, .inl (LI U))), (vO, .inl (cI, 10, .inl (LI V)))] 0 0 ⟨hx, hb, hml, hown, hts⟩ (c_X11_in l D cI cJ zu ((0 : Nat) : Int) zd ⟨by omega, by omega⟩ ⟨by omega, by omega⟩ ⟨by omega, by omega⟩) (va_cwS 3 hts gX11_compare_X11_in rfl rfl rfl (by decide +kernel) ⟨(Nat.le_of_ble_eq_true rfl), (Nat.le_of_ble_eq_true rfl)⟩) hK hP hD hS hA [] [0, 1, 2] rfl rfl rfl rfl (by decide) rfl hl.1 rfl (Nat.le_of_ble_eq_true rfl) dX11_compare_22 ⟨(Nat.le_of_ble_eq_true rfl), (Nat.le_of_ble_eq_true rfl)⟩ (Nat.le_of_ble_eq_true rfl) (Nat.le_of_ble_eq_true rfl) (fun r_22 u9 H locs hw hP hD hS => ?_)
    obtain u9 := u9
    try dsimp only at hw
    obtain ⟨b2, wa2, wb2, wc2⟩ := hw
    have hP : va_P D vwCl [(mz, .inr (10, [.int (iZ ((0 : Nat) : Int)), .ref sA, .ref sB, .int (iZ ((rn : Nat) : Int)), .ref gO, .ref xO, .ref yO, .int (iZ ((un : Nat) : Int)), .ref dO, .ref zO, .ref wO, .ref mO, .int (iZ ((mn : Nat) : Int)), .ref aO, .ref bO, .int (iZ ((kc : Nat) : Int)), .ref uO, .ref vO, .int (iZ ((hT : Nat) : Int)), .int (iZ ((tu : Nat) : Int)), .int (iZ ((td : Nat) : Int)), .int (iZ ((ta : Nat) : Int)), .int (iZ ((tb : Nat) : Int)), .int (iZ ((tt : Nat) : Int)), .int (iZ ((tk : Nat) : Int)), .int (iZ ((tj : Nat) : Int))])), (uO, .inl (cI, 10, .inl (LI U))), (vO, .inl (cI, 10, .inl (LI V)))] H := hP
    have hD : va_D A [(mz, .inr (10, [.int (iZ ((0 : Nat) : Int)), .ref sA, .ref sB, .int (iZ ((rn : Nat) : Int)), .ref gO, .ref xO, .ref yO, .int (iZ ((un : Nat) : Int)), .ref dO, .ref zO, .ref wO, .ref mO, .int (iZ ((mn : Nat) : Int)), .ref aO, .ref bO, .int (iZ ((kc : Nat) : Int)), .ref uO, .ref vO, .int (iZ ((hT : Nat) : Int)), .int (iZ ((tu : Nat) : Int)), .int (iZ ((td : Nat) : Int)), .int (iZ ((ta : Nat) : Int)), .int (iZ ((tb : Nat) : Int)), .int (iZ ((tt : Nat) : Int)), .int (iZ ((tk : Nat) : Int)), .int (iZ ((tj : Nat) : Int))])), (uO, .inl (cI, 10, .inl (LI U))), (vO, .inl (cI, 10, .inl (LI V)))] := hD
    refine tp_i (y := (iZ (b2))) (wa2) ?_
    refine zb_if_ne (x := (b2)) (tgt := 30) hx hb dX11_compare_25 (by decide) ⟨by omega, by omega⟩ (fun c_25 => ?_) (fun c_25 => ?_)
    · refine lv_aload_n hx hb dX11_compare_30 rfl (lv_at hl 0 rfl) ?_
      refine va_get (D := D) (ci := 10) (v := .int (iZ ((kc : Nat) : Int))) (C := RX11) (T := TX11) (N := 26) hx hb hts hh_1 hown hK hP 0 rfl rfl 15 (by decide) hh_3 (fun _ h9 => h9) rfl dX11_compare_31 ?_
      refine zc_bipush (z := ((10 : Nat) : Int)) hx hb dX11_compare_34 (by decide) ?_
      refine zb_icmp_ne (x := ((kc : Nat) : Int)) (y := ((10 : Nat) : Int)) (tgt := 42) hx hb dX11_compare_36 (by decide) ⟨by omega, by omega⟩ ⟨by decide, by decide⟩ (fun c_36 => ?_) (fun c_36 => ?_)
      · obtain ⟨up, rfl⟩ : ∃ x9 : Nat, zu = (x9 : Int) := ⟨zu.toNat, by omega⟩
        obtain ⟨down, rfl⟩ : ∃ x9 : Nat, zd = (x9 : Int) := ⟨zd.toNat, by omega⟩
        refine lv_aload_n hx hb dX11_compare_42 rfl (lv_at hl 0 rfl) ?_
        refine va_get (D := D) (ci := 10) (v := .ref uO) (C := RX11) (T := TX11) (N := 26) hx hb hts hh_1 hown hK hP 0 rfl rfl 16 (by decide) hh_4 (fun _ h9 => h9) rfl dX11_compare_43 ?_
        refine lv_aload_n hx hb dX11_compare_46 rfl (lv_at hl 0 rfl) ?_
        refine va_get (D := D) (ci := 10) (v := .int (iZ ((kc : Nat) : Int))) (C := RX11) (T := TX11) (N := 26) hx hb hts hh_1 hown hK hP 0 rfl rfl 15 (by decide) hh_3 (fun _ h9 => h9) rfl dX11_compare_47 ?_
        refine lv_iload_n hx hb dX11_compare_50 rfl (lv_at hl 1 rfl) ?_
        refine za_iast hx hb hK hP hD hS 1 0 rfl rfl (kc) (by decide) rfl (by omega) dX11_compare_51 (fun H locs hP hD hS => ?_)
        have hP : va_P D vwCl [(mz, .inr (10, [.int (iZ ((0 : Nat) : Int)), .ref sA, .ref sB, .int (iZ ((rn : Nat) : Int)), .ref gO, .ref xO, .ref yO, .int (iZ ((un : Nat) : Int)), .ref dO, .ref zO, .ref wO, .ref mO, .int (iZ ((mn : Nat) : Int)), .ref aO, .ref bO, .int (iZ ((kc : Nat) : Int)), .ref uO, .ref vO, .int (iZ ((hT : Nat) : Int)), .int (iZ ((tu : Nat) : Int)), .int (iZ ((td : Nat) : Int)), .int (iZ ((ta : Nat) : Int)), .int (iZ ((tb : Nat) : Int)), .int (iZ ((tt : Nat) : Int)), .int (iZ ((tk : Nat) : Int)), .int (iZ ((tj : Nat) : Int))])), (uO, .inl (cI, 10, .inl (upd (LI U) (kc) ((iZ ((up : Nat) : Int)))))), (vO, .inl (cI, 10, .inl (LI V)))] H := hP
        have hD : va_D A [(mz, .inr (10, [.int (iZ ((0 : Nat) : Int)), .ref sA, .ref sB, .int (iZ ((rn : Nat) : Int)), .ref gO, .ref xO, .ref yO, .int (iZ ((un : Nat) : Int)), .ref dO, .ref zO, .ref wO, .ref mO, .int (iZ ((mn : Nat) : Int)), .ref aO, .ref bO, .int (iZ ((kc : Nat) : Int)), .ref uO, .ref vO, .int (iZ ((hT : Nat) : Int)), .int (iZ ((tu : Nat) : Int)), .int (iZ ((td : Nat) : Int)), .int (iZ ((ta : Nat) : Int)), .int (iZ ((tb : Nat) : Int)), .int (iZ ((tt : Nat) : Int)), .int (iZ ((tk : Nat) : Int)), .int (iZ ((tj : Nat) : Int))])), (uO, .inl (cI, 10, .inl (upd (LI U) (kc) ((iZ ((up : Nat) : Int)))))), (vO, .inl (cI, 10, .inl (LI V)))] := hD
        rw [LI_up] at hP hD
        have hP : va_P D vwCl [(mz, .inr (10, [.int (iZ ((0 : Nat) : Int)), .ref sA, .ref sB, .int (iZ ((rn : Nat) : Int)), .ref gO, .ref xO, .ref yO, .int (iZ ((un : Nat) : Int)), .ref dO, .ref zO, .ref wO, .ref mO, .int (iZ ((mn : Nat) : Int)), .ref aO, .ref bO, .int (iZ ((kc : Nat) : Int)), .ref uO, .ref vO, .int (iZ ((hT : Nat) : Int)), .int (iZ ((tu : Nat) : Int)), .int (iZ ((td : Nat) : Int)), .int (iZ ((ta : Nat) : Int)), .int (iZ ((tb : Nat) : Int)), .int (iZ ((tt : Nat) : Int)), .int (iZ ((tk : Nat) : Int)), .int (iZ ((tj : Nat) : Int))])), (uO, .inl (cI, 10, .inl (LI (nup U (kc) (up))))), (vO, .inl (cI, 10, .inl (LI V)))] H := hP
        have hD : va_D A [(mz, .inr (10, [.int (iZ ((0 : Nat) : Int)), .ref sA, .ref sB, .int (iZ ((rn : Nat) : Int)), .ref gO, .ref xO, .ref yO, .int (iZ ((un : Nat) : Int)), .ref dO, .ref zO, .ref wO, .ref mO, .int (iZ ((mn : Nat) : Int)), .ref aO, .ref bO, .int (iZ ((kc : Nat) : Int)), .ref uO, .ref vO, .int (iZ ((hT : Nat) : Int)), .int (iZ ((tu : Nat) : Int)), .int (iZ ((td : Nat) : Int)), .int (iZ ((ta : Nat) : Int)), .int (iZ ((tb : Nat) : Int)), .int (iZ ((tt : Nat) : Int)), .int (iZ ((tk : Nat) : Int)), .int (iZ ((tj : Nat) : Int))])), (uO, .inl (cI, 10, .inl (LI (nup U (kc) (up))))), (vO, .inl (cI, 10, .inl (LI V)))] := hD
        refine lv_aload_n hx hb dX11_compare_52 rfl (lv_at hl 0 rfl) ?_
        refine va_get (D := D) (ci := 10) (v := .ref vO) (C := RX11) (T := TX11) (N := 26) hx hb hts hh_1 hown hK hP 0 rfl rfl 17 (by decide) hh_5 (fun _ h9 => h9) rfl dX11_compare_53 ?_
        refine lv_aload_n hx hb dX11_compare_56 rfl (lv_at hl 0 rfl) ?_
        refine va_get (D := D) (ci := 10) (v := .int (iZ ((kc : Nat) : Int))) (C := RX11) (T := TX11) (N := 26) hx hb hts hh_1 hown hK hP 0 rfl rfl 15 (by decide) hh_3 (fun _ h9 => h9) rfl dX11_compare_57 ?_
        refine lv_iload_n hx hb dX11_compare_60 rfl (lv_at hl 2 rfl) ?_
        refine za_iast hx hb hK hP hD hS 2 0 rfl rfl (kc) (by decide) rfl (by omega) dX11_compare_61 (fun H locs hP hD hS => ?_)
        have hP : va_P D vwCl [(mz, .inr (10, [.int (iZ ((0 : Nat) : Int)), .ref sA, .ref sB, .int (iZ ((rn : Nat) : Int)), .ref gO, .ref xO, .ref yO, .int (iZ ((un : Nat) : Int)), .ref dO, .ref zO, .ref wO, .ref mO, .int (iZ ((mn : Nat) : Int)), .ref aO, .ref bO, .int (iZ ((kc : Nat) : Int)), .ref uO, .ref vO, .int (iZ ((hT : Nat) : Int)), .int (iZ ((tu : Nat) : Int)), .int (iZ ((td : Nat) : Int)), .int (iZ ((ta : Nat) : Int)), .int (iZ ((tb : Nat) : Int)), .int (iZ ((tt : Nat) : Int)), .int (iZ ((tk : Nat) : Int)), .int (iZ ((tj : Nat) : Int))])), (uO, .inl (cI, 10, .inl (LI (nup U (kc) (up))))), (vO, .inl (cI, 10, .inl (upd (LI V) (kc) ((iZ ((down : Nat) : Int))))))] H := hP
        have hD : va_D A [(mz, .inr (10, [.int (iZ ((0 : Nat) : Int)), .ref sA, .ref sB, .int (iZ ((rn : Nat) : Int)), .ref gO, .ref xO, .ref yO, .int (iZ ((un : Nat) : Int)), .ref dO, .ref zO, .ref wO, .ref mO, .int (iZ ((mn : Nat) : Int)), .ref aO, .ref bO, .int (iZ ((kc : Nat) : Int)), .ref uO, .ref vO, .int (iZ ((hT : Nat) : Int)), .int (iZ ((tu : Nat) : Int)), .int (iZ ((td : Nat) : Int)), .int (iZ ((ta : Nat) : Int)), .int (iZ ((tb : Nat) : Int)), .int (iZ ((tt : Nat) : Int)), .int (iZ ((tk : Nat) : Int)), .int (iZ ((tj : Nat) : Int))])), (uO, .inl (cI, 10, .inl (LI (nup U (kc) (up))))), (vO, .inl (cI, 10, .inl (upd (LI V) (kc) ((iZ ((down : Nat) : Int))))))] := hD
        rw [LI_up] at hP hD
        have hP : va_P D vwCl [(mz, .inr (10, [.int (iZ ((0 : Nat) : Int)), .ref sA, .ref sB, .int (iZ ((rn : Nat) : Int)), .ref gO, .ref xO, .ref yO, .int (iZ ((un : Nat) : Int)), .ref dO, .ref zO, .ref wO, .ref mO, .int (iZ ((mn : Nat) : Int)), .ref aO, .ref bO, .int (iZ ((kc : Nat) : Int)), .ref uO, .ref vO, .int (iZ ((hT : Nat) : Int)), .int (iZ ((tu : Nat) : Int)), .int (iZ ((td : Nat) : Int)), .int (iZ ((ta : Nat) : Int)), .int (iZ ((tb : Nat) : Int)), .int (iZ ((tt : Nat) : Int)), .int (iZ ((tk : Nat) : Int)), .int (iZ ((tj : Nat) : Int))])), (uO, .inl (cI, 10, .inl (LI (nup U (kc) (up))))), (vO, .inl (cI, 10, .inl (LI (nup V (kc) (down)))))] H := hP
        have hD : va_D A [(mz, .inr (10, [.int (iZ ((0 : Nat) : Int)), .ref sA, .ref sB, .int (iZ ((rn : Nat) : Int)), .ref gO, .ref xO, .ref yO, .int (iZ ((un : Nat) : Int)), .ref dO, .ref zO, .ref wO, .ref mO, .int (iZ ((mn : Nat) : Int)), .ref aO, .ref bO, .int (iZ ((kc : Nat) : Int)), .ref uO, .ref vO, .int (iZ ((hT : Nat) : Int)), .int (iZ ((tu : Nat) : Int)), .int (iZ ((td : Nat) : Int)), .int (iZ ((ta : Nat) : Int)), .int (iZ ((tb : Nat) : Int)), .int (iZ ((tt : Nat) : Int)), .int (iZ ((tk : Nat) : Int)), .int (iZ ((tj : Nat) : Int))])), (uO, .inl (cI, 10, .inl (LI (nup U (kc) (up))))), (vO, .inl (cI, 10, .inl (LI (nup V (kc) (down)))))] := hD
        refine lv_aload_n hx hb dX11_compare_62 rfl (lv_at hl 0 rfl) ?_
        refine lv_dup hx hb dX11_compare_63 rfl ?_
        refine va_get (D := D) (ci := 10) (v := .int (iZ ((kc : Nat) : Int))) (C := RX11) (T := TX11) (N := 26) hx hb hts hh_1 hown hK hP 0 rfl rfl 15 (by decide) hh_3 (fun _ h9 => h9) rfl dX11_compare_64 ?_
        refine zc_iconst (z := ((1 : Nat) : Int)) hx hb dX11_compare_67 (by decide) ?_
        refine zi_add (z := ((kc + 1 : Nat) : Int)) hx hb dX11_compare_68 (by omega) ?_
        refine va_put (D := D) (ci := 10) (v := .int (iZ ((kc + 1 : Nat) : Int))) (ty := .int) (C := RX11) (T := TX11) (N := 26) hx hb hts hh_1 tyX11 tyX11_ok nmX11 hown hK hP hD hS 0 rfl rfl 15 (by decide) hh_3 (fun _ h9 => h9) rfl (by decide +kernel) rfl rfl (Nat.le_of_ble_eq_true rfl) dX11_compare_69 (fun H locs hP hD hS => ?_)
        have hP : va_P D vwCl [(mz, .inr (10, [.int (iZ ((0 : Nat) : Int)), .ref sA, .ref sB, .int (iZ ((rn : Nat) : Int)), .ref gO, .ref xO, .ref yO, .int (iZ ((un : Nat) : Int)), .ref dO, .ref zO, .ref wO, .ref mO, .int (iZ ((mn : Nat) : Int)), .ref aO, .ref bO, .int (iZ ((kc + 1 : Nat) : Int)), .ref uO, .ref vO, .int (iZ ((hT : Nat) : Int)), .int (iZ ((tu : Nat) : Int)), .int (iZ ((td : Nat) : Int)), .int (iZ ((ta : Nat) : Int)), .int (iZ ((tb : Nat) : Int)), .int (iZ ((tt : Nat) : Int)), .int (iZ ((tk : Nat) : Int)), .int (iZ ((tj : Nat) : Int))])), (uO, .inl (cI, 10, .inl (LI (nup U (kc) (up))))), (vO, .inl (cI, 10, .inl (LI (nup V (kc) (down)))))] H := hP
        have hD : va_D A [(mz, .inr (10, [.int (iZ ((0 : Nat) : Int)), .ref sA, .ref sB, .int (iZ ((rn : Nat) : Int)), .ref gO, .ref xO, .ref yO, .int (iZ ((un : Nat) : Int)), .ref dO, .ref zO, .ref wO, .ref mO, .int (iZ ((mn : Nat) : Int)), .ref aO, .ref bO, .int (iZ ((kc + 1 : Nat) : Int)), .ref uO, .ref vO, .int (iZ ((hT : Nat) : Int)), .int (iZ ((tu : Nat) : Int)), .int (iZ ((td : Nat) : Int)), .int (iZ ((ta : Nat) : Int)), .int (iZ ((tb : Nat) : Int)), .int (iZ ((tt : Nat) : Int)), .int (iZ ((tk : Nat) : Int)), .int (iZ ((tj : Nat) : Int))])), (uO, .inl (cI, 10, .inl (LI (nup U (kc) (up))))), (vO, .inl (cI, 10, .inl (LI (nup V (kc) (down)))))] := hD
        refine lv_aload_n hx hb dX11_compare_72 rfl (lv_at hl 0 rfl) ?_
        refine va_get (D := D) (ci := 10) (v := .int (iZ ((kc + 1 : Nat) : Int))) (C := RX11) (T := TX11) (N := 26) hx hb hts hh_1 hown hK hP 0 rfl rfl 15 (by decide) hh_3 (fun _ h9 => h9) rfl dX11_compare_73 ?_
        refine zc_iconst (z := ((1 : Nat) : Int)) hx hb dX11_compare_76 (by decide) ?_
        refine zi_sub (z := ((kc : Nat) : Int)) hx hb dX11_compare_77 (by omega) ?_
        exact hret _ (kc + 1, nup U kc up, nup V kc down) _ _ _ _ _ _ (Nat.le_of_ble_eq_true rfl) (Nat.le_of_ble_eq_true rfl) rfl dX11_compare_78 (⟨fun _ _ => ⟨rfl, rfl⟩, fun h8 h9 => absurd (by omega) h9, fun h9 => absurd (by omega) h9⟩) hP hD hS
      · refine zc_bipush (z := (-2 : Int)) hx hb dX11_compare_39 (by decide) ?_
        exact hret _ (kc, U, V) _ _ _ _ _ _ (Nat.le_of_ble_eq_true rfl) (Nat.le_of_ble_eq_true rfl) rfl dX11_compare_41 (⟨fun h8 h9 => absurd h9 (by omega), fun _ _ => ⟨rfl, rfl⟩, fun h9 => absurd (by omega) h9⟩) hP hD hS
    · refine zc_iconst (z := (-1 : Int)) hx hb dX11_compare_28 (by decide) ?_
      exact hret _ (kc, U, V) _ _ _ _ _ _ (Nat.le_of_ble_eq_true rfl) (Nat.le_of_ble_eq_true rfl) rfl dX11_compare_29 (⟨fun h9 => absurd h9 (by omega), fun h9 => absurd h9 (by omega), fun _ => ⟨rfl, rfl⟩⟩) hP hD hS
def rmX11_placeOf : Room := { frames := 0, cells := 0, slots := 0, locals := 0 }
set_option maxHeartbeats 4000000 in
set_option maxRecDepth 100000 in
theorem c_X11_placeOf (l : Launch) (D : va_G) (cI cJ : ClassId) (mz sA sB gO xO yO dO zO wO mO aO bO uO vO : Nat) (th rn un mn kc hT tu td ta tb tt tk tj : Nat) (U V : Nat → Nat) (hc : cok kc U V) (j : Nat) (hj : j < kc) : Ci l D vwCl (tyT cI cJ) yX11_placeOf wsX11_placeOf rmX11_placeOf [.ref mz, .int (iZ ((j : Nat) : Int))] [(mz, .inr (10, [.int (iZ ((th : Nat) : Int)), .ref sA, .ref sB, .int (iZ ((rn : Nat) : Int)), .ref gO, .ref xO, .ref yO, .int (iZ ((un : Nat) : Int)), .ref dO, .ref zO, .ref wO, .ref mO, .int (iZ ((mn : Nat) : Int)), .ref aO, .ref bO, .int (iZ ((kc : Nat) : Int)), .ref uO, .ref vO, .int (iZ ((hT : Nat) : Int)), .int (iZ ((tu : Nat) : Int)), .int (iZ ((td : Nat) : Int)), .int (iZ ((ta : Nat) : Int)), .int (iZ ((tb : Nat) : Int)), .int (iZ ((tt : Nat) : Int)), .int (iZ ((tk : Nat) : Int)), .int (iZ ((tj : Nat) : Int))])), (uO, .inl (cI, 10, .inl (LI U))), (vO, .inl (cI, 10, .inl (LI V)))] (Unit) (fun r _ => r = iZ ((plc kc U V j : Nat) : Int)) (fun _ => [(mz, .inr (10, [.int (iZ ((th : Nat) : Int)), .ref sA, .ref sB, .int (iZ ((rn : Nat) : Int)), .ref gO, .ref xO, .ref yO, .int (iZ ((un : Nat) : Int)), .ref dO, .ref zO, .ref wO, .ref mO, .int (iZ ((mn : Nat) : Int)), .ref aO, .ref bO, .int (iZ ((kc : Nat) : Int)), .ref uO, .ref vO, .int (iZ ((hT : Nat) : Int)), .int (iZ ((tu : Nat) : Int)), .int (iZ ((td : Nat) : Int)), .int (iZ ((ta : Nat) : Int)), .int (iZ ((tb : Nat) : Int)), .int (iZ ((tt : Nat) : Int)), .int (iZ ((tk : Nat) : Int)), .int (iZ ((tj : Nat) : Int))])), (uO, .inl (cI, 10, .inl (LI U))), (vO, .inl (cI, 10, .inl (LI V)))]) := by
  have hk0 := hc.1
  have hbj := hc.2 j hj
  refine en_i (cc := cX11_placeOf) (maxL := 8) (by decide) rfl [(0, .ref mz), (1, .int (iZ ((j : Nat) : Int)))] (Nat.le_of_ble_eq_true rfl) rfl ?_
  intro p e s m args below meth c Q A hx hb hml hown hts hnm hK hP hD hA hS hret ls hl
  have hh_0 := hts (.fieldLink RX11 157 "BoundDrawsModel" "compares" "I") (by decide +kernel)
  have hh_1 := (show ∀ w ∈ wsX110, w ∈ wsX11_placeOf by decide +kernel)
  have hh_2 := hts (.fieldLink RX11 44 "BoundDrawsModel" "upOf" "[I") (by decide +kernel)
  have hh_3 := hts (.fieldLink RX11 47 "BoundDrawsModel" "downOf" "[I") (by decide +kernel)
  refine zc_iconst (z := ((1 : Nat) : Int)) hx hb dX11_placeOf_0 (by decide) ?_
  refine tp_i (y := (iZ ((1 + cnt (fun x => ahd U V x j) 0 : Nat) : Int))) (rfl) ?_
  refine lv_istore_n (lv' := [(2, .int (iZ ((1 + cnt (fun x => ahd U V x j) 0 : Nat) : Int))), (0, .ref mz), (1, .int (iZ ((j : Nat) : Int)))]) hx hb dX11_placeOf_1 rfl hl (by decide) rfl (fun ls hl => ?_)
  refine zc_iconst (z := ((0 : Nat) : Int)) hx hb dX11_placeOf_2 (by decide) ?_
  refine lv_istore_n (lv' := [(3, .int (iZ ((0 : Nat) : Int))), (2, .int (iZ ((1 + cnt (fun x => ahd U V x j) 0 : Nat) : Int))), (0, .ref mz), (1, .int (iZ ((j : Nat) : Int)))]) hx hb dX11_placeOf_3 rfl hl (by decide) rfl (fun ls hl => ?_)
  have pt_4 : ∀ f : Nat, ∀ (i : Nat), (hi : i ≤ kc) → (hf : kc < i + f) → (H : Heap) → (locs : List Loc) → va_P D vwCl [(mz, .inr (10, [.int (iZ ((th : Nat) : Int)), .ref sA, .ref sB, .int (iZ ((rn : Nat) : Int)), .ref gO, .ref xO, .ref yO, .int (iZ ((un : Nat) : Int)), .ref dO, .ref zO, .ref wO, .ref mO, .int (iZ ((mn : Nat) : Int)), .ref aO, .ref bO, .int (iZ ((kc : Nat) : Int)), .ref uO, .ref vO, .int (iZ ((hT : Nat) : Int)), .int (iZ ((tu : Nat) : Int)), .int (iZ ((td : Nat) : Int)), .int (iZ ((ta : Nat) : Int)), .int (iZ ((tb : Nat) : Int)), .int (iZ ((tt : Nat) : Int)), .int (iZ ((tk : Nat) : Int)), .int (iZ ((tj : Nat) : Int))])), (uO, .inl (cI, 10, .inl (LI U))), (vO, .inl (cI, 10, .inl (LI V)))] H → va_D A [(mz, .inr (10, [.int (iZ ((th : Nat) : Int)), .ref sA, .ref sB, .int (iZ ((rn : Nat) : Int)), .ref gO, .ref xO, .ref yO, .int (iZ ((un : Nat) : Int)), .ref dO, .ref zO, .ref wO, .ref mO, .int (iZ ((mn : Nat) : Int)), .ref aO, .ref bO, .int (iZ ((kc : Nat) : Int)), .ref uO, .ref vO, .int (iZ ((hT : Nat) : Int)), .int (iZ ((tu : Nat) : Int)), .int (iZ ((td : Nat) : Int)), .int (iZ ((ta : Nat) : Int)), .int (iZ ((tb : Nat) : Int)), .int (iZ ((tt : Nat) : Int)), .int (iZ ((tk : Nat) : Int)), .int (iZ ((tj : Nat) : Int))])), (uO, .inl (cI, 10, .inl (LI U))), (vO, .inl (cI, 10, .inl (LI V)))] → va_S A s.heap H locs → (ls : Array Slot) → lv_has ls 8 [(3, .int (iZ ((i : Nat) : Int))), (2, .int (iZ ((1 + cnt (fun x => ahd U V x j) i : Nat) : Int))), (0, .ref mz), (1, .int (iZ ((j : Nat) : Int)))] → W p l e rmX11_placeOf s m args below meth c H locs 0 0 Q (F0 m 4 ls []) := by
    intro f
    induction f with
    | zero =>
      intro i hi hf H locs hP hD hS ls hl
      exfalso; omega
    | succ f ih_4 =>
      intro i hi hf H locs hP hD hS ls hl
      refine lv_iload_n hx hb dX11_placeOf_4 rfl (lv_at hl 0 rfl) ?_
      refine lv_aload_n hx hb dX11_placeOf_5 rfl (lv_at hl 2 rfl) ?_
      refine va_get (D := D) (ci := 10) (v := .int (iZ ((kc : Nat) : Int))) (C := RX11) (T := TX11) (N := 26) hx hb hts hh_1 hown hK hP 0 rfl rfl 15 (by decide) hh_0 (fun _ h9 => h9) rfl dX11_placeOf_6 ?_
      refine zb_icmp_ge (x := ((i : Nat) : Int)) (y := ((kc : Nat) : Int)) (tgt := 81) hx hb dX11_placeOf_9 (by decide) ⟨by omega, by omega⟩ ⟨by omega, by omega⟩ (fun c_9 => ?_) (fun c_9 => ?_)
      · refine lv_iload_n hx hb dX11_placeOf_81 rfl (lv_at hl 1 rfl) ?_
        exact hret _ (()) _ _ _ _ _ _ (Nat.le_of_ble_eq_true rfl) (Nat.le_of_ble_eq_true rfl) rfl dX11_placeOf_82 (by have e9 : i = kc := (by omega); rw [e9]; rfl) hP hD hS
      · have hbi := hc.2 i (by omega)
        have hm1 : U i * V j ≤ 100000 * 100000 := Nat.mul_le_mul (by omega) (by omega)
        have hm2 : U j * V i ≤ 100000 * 100000 := Nat.mul_le_mul (by omega) (by omega)
        refine lv_aload_n hx hb dX11_placeOf_12 rfl (lv_at hl 2 rfl) ?_
        refine va_get (D := D) (ci := 10) (v := .ref uO) (C := RX11) (T := TX11) (N := 26) hx hb hts hh_1 hown hK hP 0 rfl rfl 16 (by decide) hh_2 (fun _ h9 => h9) rfl dX11_placeOf_13 ?_
        refine lv_iload_n hx hb dX11_placeOf_16 rfl (lv_at hl 0 rfl) ?_
        refine za_iald hx hb hK hP 1 0 rfl rfl (i) (v := ((U i : Nat) : Int)) (by decide) rfl (by omega) (rfl) dX11_placeOf_17 ?_
        refine z_i2l (z := ((U i : Nat) : Int)) hx hb dX11_placeOf_18 ⟨by omega, by omega⟩ rfl ?_
        refine lv_aload_n hx hb dX11_placeOf_19 rfl (lv_at hl 2 rfl) ?_
        refine va_get (D := D) (ci := 10) (v := .ref vO) (C := RX11) (T := TX11) (N := 26) hx hb hts hh_1 hown hK hP 0 rfl rfl 17 (by decide) hh_3 (fun _ h9 => h9) rfl dX11_placeOf_20 ?_
        refine lv_iload_n hx hb dX11_placeOf_23 rfl (lv_at hl 3 rfl) ?_
        refine za_iald hx hb hK hP 2 0 rfl rfl (j) (v := ((V j : Nat) : Int)) (by decide) rfl (by omega) (rfl) dX11_placeOf_24 ?_
        refine z_i2l (z := ((V j : Nat) : Int)) hx hb dX11_placeOf_25 ⟨by omega, by omega⟩ rfl ?_
        refine zl_mul (z := (((U i) * (V j) : Nat) : Int)) hx hb dX11_placeOf_26 (Int.natCast_mul _ _).symm ?_
        refine lv_lstore (lv' := [(4, .long (lZ (((U i) * (V j) : Nat) : Int))), (3, .int (iZ ((i : Nat) : Int))), (2, .int (iZ ((1 + cnt (fun x => ahd U V x j) i : Nat) : Int))), (0, .ref mz), (1, .int (iZ ((j : Nat) : Int)))]) hx hb dX11_placeOf_27 hl (by decide) rfl (fun ls hl => ?_)
        refine lv_aload_n hx hb dX11_placeOf_29 rfl (lv_at hl 3 rfl) ?_
        refine va_get (D := D) (ci := 10) (v := .ref uO) (C := RX11) (T := TX11) (N := 26) hx hb hts hh_1 hown hK hP 0 rfl rfl 16 (by decide) hh_2 (fun _ h9 => h9) rfl dX11_placeOf_30 ?_
        refine lv_iload_n hx hb dX11_placeOf_33 rfl (lv_at hl 4 rfl) ?_
        refine za_iald hx hb hK hP 1 0 rfl rfl (j) (v := ((U j : Nat) : Int)) (by decide) rfl (by omega) (rfl) dX11_placeOf_34 ?_
        refine z_i2l (z := ((U j : Nat) : Int)) hx hb dX11_placeOf_35 ⟨by omega, by omega⟩ rfl ?_
        refine lv_aload_n hx hb dX11_placeOf_36 rfl (lv_at hl 3 rfl) ?_
        refine va_get (D := D) (ci := 10) (v := .ref vO) (C := RX11) (T := TX11) (N := 26) hx hb hts hh_1 hown hK hP 0 rfl rfl 17 (by decide) hh_3 (fun _ h9 => h9) rfl dX11_placeOf_37 ?_
        refine lv_iload_n hx hb dX11_placeOf_40 rfl (lv_at hl 1 rfl) ?_
        refine za_iald hx hb hK hP 2 0 rfl rfl (i) (v := ((V i : Nat) : Int)) (by decide) rfl (by omega) (rfl) dX11_placeOf_41 ?_
        refine z_i2l (z := ((V i : Nat) : Int)) hx hb dX11_placeOf_42 ⟨by omega, by omega⟩ rfl ?_
        refine zl_mul (z := (((U j) * (V i) : Nat) : Int)) hx hb dX11_placeOf_43 (Int.natCast_mul _ _).symm ?_
        refine lv_lstore (lv' := [(6, .long (lZ (((U j) * (V i) : Nat) : Int))), (4, .long (lZ (((U i) * (V j) : Nat) : Int))), (3, .int (iZ ((i : Nat) : Int))), (2, .int (iZ ((1 + cnt (fun x => ahd U V x j) i : Nat) : Int))), (0, .ref mz), (1, .int (iZ ((j : Nat) : Int)))]) hx hb dX11_placeOf_44 hl (by decide) rfl (fun ls hl => ?_)
        refine lv_iload_n hx hb dX11_placeOf_46 rfl (lv_at hl 3 rfl) ?_
        refine lv_lload hx hb dX11_placeOf_47 (lv_at hl 1 rfl) ?_
        refine lv_lload hx hb dX11_placeOf_49 (lv_at hl 0 rfl) ?_
        refine zb_l_lt (x := (((U i) * (V j) : Nat) : Int)) (y := (((U j) * (V i) : Nat) : Int)) (tgt := 68) hx hb dX11_placeOf_51 dX11_placeOf_52 (by decide) ⟨by omega, by omega⟩ ⟨by omega, by omega⟩ (fun c_51 => ?_) (fun c_51 => ?_)
        · refine zc_iconst (z := ((1 : Nat) : Int)) hx hb dX11_placeOf_68 (by decide) ?_
          refine lv_goto (tgt := 73) hx hb dX11_placeOf_69 (by decide) ?_
          refine zi_add (z := ((1 + cnt (fun x => ahd U V x j) (i + 1) : Nat) : Int)) hx hb dX11_placeOf_73 (by first | (rw [cnt_t (p := fun x => ahd U V x j) (k := i) (show ahd U V i j = true by unfold ahd; rw [decide_eq_true_eq]; omega)]; omega) | (rw [cnt_f (p := fun x => ahd U V x j) (k := i) (show ahd U V i j = false by unfold ahd; rw [decide_eq_false_iff_not]; omega)]; omega)) ?_
          refine lv_istore_n (lv' := [(2, .int (iZ ((1 + cnt (fun x => ahd U V x j) (i + 1) : Nat) : Int))), (6, .long (lZ (((U j) * (V i) : Nat) : Int))), (4, .long (lZ (((U i) * (V j) : Nat) : Int))), (3, .int (iZ ((i : Nat) : Int))), (0, .ref mz), (1, .int (iZ ((j : Nat) : Int)))]) hx hb dX11_placeOf_74 rfl hl (by decide) rfl (fun ls hl => ?_)
          refine lv_iinc (v := iZ ((i + 1 : Nat) : Int)) (lv' := [(3, .int (iZ ((i + 1 : Nat) : Int))), (2, .int (iZ ((1 + cnt (fun x => ahd U V x j) (i + 1) : Nat) : Int))), (6, .long (lZ (((U j) * (V i) : Nat) : Int))), (4, .long (lZ (((U i) * (V j) : Nat) : Int))), (0, .ref mz), (1, .int (iZ ((j : Nat) : Int)))]) hx hb dX11_placeOf_75 hl (k := 3) rfl (zi_inc (by omega)) (by decide) rfl (fun ls hl => ?_)
          refine lv_goto (tgt := 4) hx hb dX11_placeOf_78 (by decide) ?_
          exact ih_4 (i + 1) (by omega) (by omega) _ _ hP hD hS ls (lv_sub hl [0, 1, 4, 5] rfl)
        · refine lv_lload hx hb dX11_placeOf_55 (lv_at hl 1 rfl) ?_
          refine lv_lload hx hb dX11_placeOf_57 (lv_at hl 0 rfl) ?_
          refine zb_l_ne (x := (((U i) * (V j) : Nat) : Int)) (y := (((U j) * (V i) : Nat) : Int)) (tgt := 72) hx hb dX11_placeOf_59 dX11_placeOf_60 (by decide) ⟨by omega, by omega⟩ ⟨by omega, by omega⟩ (fun c_59 => ?_) (fun c_59 => ?_)
          · refine zc_iconst (z := ((0 : Nat) : Int)) hx hb dX11_placeOf_72 (by decide) ?_
            refine zi_add (z := ((1 + cnt (fun x => ahd U V x j) (i + 1) : Nat) : Int)) hx hb dX11_placeOf_73 (by first | (rw [cnt_t (p := fun x => ahd U V x j) (k := i) (show ahd U V i j = true by unfold ahd; rw [decide_eq_true_eq]; omega)]; omega) | (rw [cnt_f (p := fun x => ahd U V x j) (k := i) (show ahd U V i j = false by unfold ahd; rw [decide_eq_false_iff_not]; omega)]; omega)) ?_
            refine lv_istore_n (lv' := [(2, .int (iZ ((1 + cnt (fun x => ahd U V x j) (i + 1) : Nat) : Int))), (6, .long (lZ (((U j) * (V i) : Nat) : Int))), (4, .long (lZ (((U i) * (V j) : Nat) : Int))), (3, .int (iZ ((i : Nat) : Int))), (0, .ref mz), (1, .int (iZ ((j : Nat) : Int)))]) hx hb dX11_placeOf_74 rfl hl (by decide) rfl (fun ls hl => ?_)
            refine lv_iinc (v := iZ ((i + 1 : Nat) : Int)) (lv' := [(3, .int (iZ ((i + 1 : Nat) : Int))), (2, .int (iZ ((1 + cnt (fun x => ahd U V x j) (i + 1) : Nat) : Int))), (6, .long (lZ (((U j) * (V i) : Nat) : Int))), (4, .long (lZ (((U i) * (V j) : Nat) : Int))), (0, .ref mz), (1, .int (iZ ((j : Nat) : Int)))]) hx hb dX11_placeOf_75 hl (k := 3) rfl (zi_inc (by omega)) (by decide) rfl (fun ls hl => ?_)
            refine lv_goto (tgt := 4) hx hb dX11_placeOf_78 (by decide) ?_
            exact ih_4 (i + 1) (by omega) (by omega) _ _ hP hD hS ls (lv_sub hl [0, 1, 4, 5] rfl)
          · refine lv_iload_n hx hb dX11_placeOf_63 rfl (lv_at hl 2 rfl) ?_
            refine lv_iload_n hx hb dX11_placeOf_64 rfl (lv_at hl 5 rfl) ?_
            refine zb_icmp_ge (x := ((i : Nat) : Int)) (y := ((j : Nat) : Int)) (tgt := 72) hx hb dX11_placeOf_65 (by decide) ⟨by omega, by omega⟩ ⟨by omega, by omega⟩ (fun c_65 => ?_) (fun c_65 => ?_)
            · refine zc_iconst (z := ((0 : Nat) : Int)) hx hb dX11_placeOf_72 (by decide) ?_
              refine zi_add (z := ((1 + cnt (fun x => ahd U V x j) (i + 1) : Nat) : Int)) hx hb dX11_placeOf_73 (by first | (rw [cnt_t (p := fun x => ahd U V x j) (k := i) (show ahd U V i j = true by unfold ahd; rw [decide_eq_true_eq]; omega)]; omega) | (rw [cnt_f (p := fun x => ahd U V x j) (k := i) (show ahd U V i j = false by unfold ahd; rw [decide_eq_false_iff_not]; omega)]; omega)) ?_
              refine lv_istore_n (lv' := [(2, .int (iZ ((1 + cnt (fun x => ahd U V x j) (i + 1) : Nat) : Int))), (6, .long (lZ (((U j) * (V i) : Nat) : Int))), (4, .long (lZ (((U i) * (V j) : Nat) : Int))), (3, .int (iZ ((i : Nat) : Int))), (0, .ref mz), (1, .int (iZ ((j : Nat) : Int)))]) hx hb dX11_placeOf_74 rfl hl (by decide) rfl (fun ls hl => ?_)
              refine lv_iinc (v := iZ ((i + 1 : Nat) : Int)) (lv' := [(3, .int (iZ ((i + 1 : Nat) : Int))), (2, .int (iZ ((1 + cnt (fun x => ahd U V x j) (i + 1) : Nat) : Int))), (6, .long (lZ (((U j) * (V i) : Nat) : Int))), (4, .long (lZ (((U i) * (V j) : Nat) : Int))), (0, .ref mz), (1, .int (iZ ((j : Nat) : Int)))]) hx hb dX11_placeOf_75 hl (k := 3) rfl (zi_inc (by omega)) (by decide) rfl (fun ls hl => ?_)
              refine lv_goto (tgt := 4) hx hb dX11_placeOf_78 (by decide) ?_
              exact ih_4 (i + 1) (by omega) (by omega) _ _ hP hD hS ls (lv_sub hl [0, 1, 4, 5] rfl)
            · refine zc_iconst (z := ((1 : Nat) : Int)) hx hb dX11_placeOf_68 (by decide) ?_
              refine lv_goto (tgt := 73) hx hb dX11_placeOf_69 (by decide) ?_
              refine zi_add (z := ((1 + cnt (fun x => ahd U V x j) (i + 1) : Nat) : Int)) hx hb dX11_placeOf_73 (by first | (rw [cnt_t (p := fun x => ahd U V x j) (k := i) (show ahd U V i j = true by unfold ahd; rw [decide_eq_true_eq]; omega)]; omega) | (rw [cnt_f (p := fun x => ahd U V x j) (k := i) (show ahd U V i j = false by unfold ahd; rw [decide_eq_false_iff_not]; omega)]; omega)) ?_
              refine lv_istore_n (lv' := [(2, .int (iZ ((1 + cnt (fun x => ahd U V x j) (i + 1) : Nat) : Int))), (6, .long (lZ (((U j) * (V i) : Nat) : Int))), (4, .long (lZ (((U i) * (V j) : Nat) : Int))), (3, .int (iZ ((i : Nat) : Int))), (0, .ref mz), (1, .int (iZ ((j : Nat) : Int)))]) hx hb dX11_placeOf_74 rfl hl (by decide) rfl (fun ls hl => ?_)
              refine lv_iinc (v := iZ ((i + 1 : Nat) : Int)) (lv' := [(3, .int (iZ ((i + 1 : Nat) : Int))), (2, .int (iZ ((1 + cnt (fun x => ahd U V x j) (i + 1) : Nat) : Int))), (6, .long (lZ (((U j) * (V i) : Nat) : Int))), (4, .long (lZ (((U i) * (V j) : Nat) : Int))), (0, .ref mz), (1, .int (iZ ((j : Nat) : Int)))]) hx hb dX11_placeOf_75 hl (k := 3) rfl (zi_inc (by omega)) (by decide) rfl (fun ls hl => ?_)
              refine lv_goto (tgt := 4) hx hb dX11_placeOf_78 (by decide) ?_
              exact ih_4 (i + 1) (by omega) (by omega) _ _ hP hD hS ls (lv_sub hl [0, 1, 4, 5] rfl)
  exact pt_4 (kc + 1) 0 (by omega) (by omega) _ _ hP hD hS ls (lv_sub hl [0, 1, 2, 3] rfl)
theorem red_cop {x y : Nat} (hy : 0 < y) : Nat.Coprime (x / x.gcd y) (y / x.gcd y) := Nat.coprime_div_gcd_div_gcd (Nat.gcd_pos_of_pos_right _ hy)
theorem red_nat (x y : Nat) : redU (x : Int) y = ((x / x.gcd y : Nat) : Int) ∧ redL (x : Int) y = y / x.gcd y := by
  unfold redU redL
  rw [Int.natAbs_natCast]
  exact ⟨(Int.natCast_ediv _ _).symm, rfl⟩
theorem red_eqN {x y X Y : Nat} (hy : 0 < y) (hY : 0 < Y) (h : x * Y = X * y) : x / x.gcd y = X / X.gcd Y ∧ y / x.gcd y = Y / X.gcd Y := by
  have c1 := red_cop (x := x) hy
  have c2 := red_cop (x := X) hY
  have g1 : 0 < x.gcd y := Nat.gcd_pos_of_pos_right _ hy
  have g2 : 0 < X.gcd Y := Nat.gcd_pos_of_pos_right _ hY
  have e1 : x = x / x.gcd y * x.gcd y := (Nat.div_mul_cancel (Nat.gcd_dvd_left _ _)).symm
  have e2 : y = y / x.gcd y * x.gcd y := (Nat.div_mul_cancel (Nat.gcd_dvd_right _ _)).symm
  have e3 : X = X / X.gcd Y * X.gcd Y := (Nat.div_mul_cancel (Nat.gcd_dvd_left _ _)).symm
  have e4 : Y = Y / X.gcd Y * X.gcd Y := (Nat.div_mul_cancel (Nat.gcd_dvd_right _ _)).symm
  have hb : 0 < y / x.gcd y := Nat.div_pos (Nat.le_of_dvd hy (Nat.gcd_dvd_right _ _)) g1
  generalize x / x.gcd y = a at *
  generalize y / x.gcd y = b at *
  generalize X / X.gcd Y = A at *
  generalize Y / X.gcd Y = B at *
  generalize x.gcd y = g at *
  generalize X.gcd Y = G at *
  have hh : a * B = A * b := by
    have : a * B * (g * G) = A * b * (g * G) := by
      rw [e1, e2, e3, e4] at h
      calc a * B * (g * G) = a * g * (B * G) := by rw [Nat.mul_mul_mul_comm]
        _ = A * G * (b * g) := h
        _ = A * b * (G * g) := by rw [Nat.mul_mul_mul_comm]
        _ = A * b * (g * G) := by rw [Nat.mul_comm G g]
    exact Nat.eq_of_mul_eq_mul_right (Nat.mul_pos g1 g2) this
  have d1 : b ∣ B := by
    have : b ∣ a * B := ⟨A, by rw [hh, Nat.mul_comm]⟩
    exact c1.symm.dvd_of_dvd_mul_left this
  have d2 : B ∣ b := by
    have : B ∣ A * b := ⟨a, by rw [← hh, Nat.mul_comm]⟩
    exact c2.symm.dvd_of_dvd_mul_left this
  have eb : b = B := Nat.dvd_antisymm d1 d2
  refine ⟨?_, eb⟩
  rw [eb] at hh
  exact Nat.eq_of_mul_eq_mul_right (by rw [← eb]; exact hb) hh
theorem capR_congr {x y X Y : Nat} (hy : 0 < y) (hY : 0 < Y) (h : x * Y = X * y) (sd : Int) : capR x y sd = capR X Y sd := by
  have hr := red_eqN hy hY h
  have hc : y < x ↔ Y < X := by
    constructor
    · intro h1
      have h2 : y * Y < x * Y := Nat.mul_lt_mul_of_pos_right h1 hY
      rw [h, Nat.mul_comm y Y] at h2
      exact Nat.lt_of_mul_lt_mul_right h2
    · intro h1
      have h2 : Y * y < X * y := Nat.mul_lt_mul_of_pos_right h1 hy
      rw [← h, Nat.mul_comm Y y] at h2
      exact Nat.lt_of_mul_lt_mul_right h2
  unfold capR
  rw [(red_nat x y).1, (red_nat x y).2, (red_nat X Y).1, (red_nat X Y).2, hr.1, hr.2]
  by_cases c : y < x
  · rw [if_pos c, if_pos (hc.mp c)]
  · rw [if_neg c, if_neg (fun h => c (hc.mpr h))]
/-- the reference's way through the compares -/
def rgI (k : Nat) (U V : Nat → Nat) (q i x y fs : Nat) : Prop := 1 ≤ y ∧ y ≤ 1100000 ∧ x ≤ 1100000 ∧ fs ≤ 1 ∧ (fs = 1 → (∀ j, j < i → ¬ plc k U V j ≤ q) ∧ rgr k U V q i = (0, 1)) ∧ (fs = 0 → x * (rgr k U V q i).2 = (rgr k U V q i).1 * y)
theorem rgI_skip {k : Nat} {U V : Nat → Nat} {q i x y fs : Nat} (h : rgI k U V q i x y fs) (hp : ¬ plc k U V i ≤ q) : rgI k U V q (i + 1) x y fs := by
  obtain ⟨h1, h2, h3, h4, h5, h6⟩ := h
  have e : rgr k U V q (i + 1) = rgr k U V q i := by rw [rgr, if_neg (fun h => hp h.1)]
  refine ⟨h1, h2, h3, h4, fun hf => ⟨fun j hj => ?_, by rw [e]; exact (h5 hf).2⟩, fun hf => by rw [e]; exact h6 hf⟩
  rcases (show j < i ∨ j = i by omega) with c | c
  · exact (h5 hf).1 j c
  · rw [c]; exact hp
theorem rgI_first {k : Nat} {U V : Nat → Nat} {q i x y : Nat} (hc : cok k U V) (hi : i < k) (h : rgI k U V q i x y 1) (hp : plc k U V i ≤ q) : rgI k U V q (i + 1) ((k + 1 - plc k U V i) * U i) (V i) 0 := by
  have hb := gr_b hc hi
  have hv := hc.2 i hi
  have e := (h.2.2.2.2.1 rfl).2
  refine ⟨hv.1, by omega, hb.1, by decide, fun hf => absurd hf (by decide), fun _ => ?_⟩
  rw [rgr, e]
  show (k + 1 - plc k U V i) * U i * (if plc k U V i ≤ q ∧ 0 * V i < (k + 1 - plc k U V i) * U i * 1 then ((k + 1 - plc k U V i) * U i, V i) else (0, 1)).2 = (if plc k U V i ≤ q ∧ 0 * V i < (k + 1 - plc k U V i) * U i * 1 then ((k + 1 - plc k U V i) * U i, V i) else (0, 1)).1 * V i
  generalize (k + 1 - plc k U V i) * U i = v at *
  rw [Nat.zero_mul, Nat.mul_one]
  by_cases c : plc k U V i ≤ q ∧ 0 < v
  · rw [if_pos c]
  · rw [if_neg c]
    have : v = 0 := by omega
    rw [this]; show 0 * 1 = 0 * V i; omega
theorem rg_iff {x y X Y v w : Nat} (hy : 0 < y) (hY : 0 < Y) (h : x * Y = X * y) : x * w < v * y ↔ X * w < v * Y := by
  constructor
  · intro h1
    have h2 : x * w * Y < v * y * Y := Nat.mul_lt_mul_of_pos_right h1 hY
    rw [Nat.mul_right_comm, h, Nat.mul_right_comm X, Nat.mul_right_comm v] at h2
    exact Nat.lt_of_mul_lt_mul_right h2
  · intro h1
    have h2 : X * w * y < v * Y * y := Nat.mul_lt_mul_of_pos_right h1 hy
    rw [Nat.mul_right_comm, ← h, Nat.mul_right_comm x, Nat.mul_right_comm v] at h2
    exact Nat.lt_of_mul_lt_mul_right h2
theorem rg_iff' {x y X Y v w : Nat} (hy : 0 < y) (hY : 0 < Y) (h : x * Y = X * y) : v * y < x * w ↔ v * Y < X * w := by
  constructor
  · intro h1
    have h2 : v * y * Y < x * w * Y := Nat.mul_lt_mul_of_pos_right h1 hY
    rw [Nat.mul_right_comm x, h, Nat.mul_right_comm X, Nat.mul_right_comm v] at h2
    exact Nat.lt_of_mul_lt_mul_right h2
  · intro h1
    have h2 : v * Y * y < X * w * y := Nat.mul_lt_mul_of_pos_right h1 hy
    rw [Nat.mul_right_comm X, ← h, Nat.mul_right_comm x, Nat.mul_right_comm v] at h2
    exact Nat.lt_of_mul_lt_mul_right h2
theorem rgI_take {k : Nat} {U V : Nat → Nat} {q i x y : Nat} (hc : cok k U V) (hi : i < k) (h : rgI k U V q i x y 0) (hp : plc k U V i ≤ q) (ht : x * V i < (k + 1 - plc k U V i) * U i * y) : rgI k U V q (i + 1) ((k + 1 - plc k U V i) * U i) (V i) 0 := by
  have hb := gr_b hc hi
  have hv := hc.2 i hi
  have hr := rgr_b hc q i (by omega)
  refine ⟨hv.1, by omega, hb.1, by decide, fun hf => absurd hf (by decide), fun _ => ?_⟩
  rw [rgr, if_pos ⟨hp, (rg_iff (by have := h.1; omega) (by have := hr.2.1; omega) (h.2.2.2.2.2 rfl)).mp ht⟩]
theorem rgI_keep {k : Nat} {U V : Nat → Nat} {q i x y : Nat} (hc : cok k U V) (hi : i < k) (h : rgI k U V q i x y 0) (ht : ¬ x * V i < (k + 1 - plc k U V i) * U i * y) : rgI k U V q (i + 1) x y 0 := by
  have hr := rgr_b hc q i (by omega)
  refine ⟨h.1, h.2.1, h.2.2.1, by decide, fun hf => absurd hf (by decide), fun _ => ?_⟩
  rw [rgr, if_neg (fun h9 => ht ((rg_iff (by have := h.1; omega) (by have := hr.2.1; omega) (h.2.2.2.2.2 rfl)).mpr h9.2))]
  exact h.2.2.2.2.2 rfl
def rlI (k : Nat) (U V : Nat → Nat) (q i x y fs : Nat) : Prop := 1 ≤ y ∧ y ≤ 1100000 ∧ x ≤ 1100000 ∧ fs ≤ 1 ∧ (fs = 1 → (∀ j, j < i → ¬ q ≤ plc k U V j) ∧ rls k U V q i = (k, 1)) ∧ (fs = 0 → x * (rls k U V q i).2 = (rls k U V q i).1 * y)
theorem rlI_skip {k : Nat} {U V : Nat → Nat} {q i x y fs : Nat} (h : rlI k U V q i x y fs) (hp : ¬ q ≤ plc k U V i) : rlI k U V q (i + 1) x y fs := by
  obtain ⟨h1, h2, h3, h4, h5, h6⟩ := h
  have e : rls k U V q (i + 1) = rls k U V q i := by rw [rls, if_neg (fun h => hp h.1)]
  refine ⟨h1, h2, h3, h4, fun hf => ⟨fun j hj => ?_, by rw [e]; exact (h5 hf).2⟩, fun hf => by rw [e]; exact h6 hf⟩
  rcases (show j < i ∨ j = i by omega) with c | c
  · exact (h5 hf).1 j c
  · rw [c]; exact hp
theorem rlI_first {k : Nat} {U V : Nat → Nat} {q i x y : Nat} (hc : cok k U V) (hi : i < k) (h : rlI k U V q i x y 1) (hp : q ≤ plc k U V i) : rlI k U V q (i + 1) (k * U i) (plc k U V i * V i) 0 := by
  have hb := gr_b hc hi
  have hv := hc.2 i hi
  have h1 := plc_1 k U V i
  have e := (h.2.2.2.2.1 rfl).2
  refine ⟨hb.2.2.2, hb.2.2.1, hb.2.1, by decide, fun hf => absurd hf (by decide), fun _ => ?_⟩
  have hle : k * U i ≤ k * (plc k U V i * V i) := by
    apply Nat.mul_le_mul_left
    have : 1 * V i ≤ plc k U V i * V i := Nat.mul_le_mul_right _ h1
    omega
  rw [rls, e]
  show k * U i * (if q ≤ plc k U V i ∧ k * U i * 1 < k * (plc k U V i * V i) then (k * U i, plc k U V i * V i) else (k, 1)).2 = (if q ≤ plc k U V i ∧ k * U i * 1 < k * (plc k U V i * V i) then (k * U i, plc k U V i * V i) else (k, 1)).1 * (plc k U V i * V i)
  generalize plc k U V i * V i = w at *
  generalize k * U i = v at *
  rw [Nat.mul_one]
  by_cases c : q ≤ plc k U V i ∧ v < k * w
  · rw [if_pos c]
  · rw [if_neg c]
    show v * 1 = k * w
    have : ¬ v < k * w := fun h9 => c ⟨hp, h9⟩
    omega
theorem rlI_take {k : Nat} {U V : Nat → Nat} {q i x y : Nat} (hc : cok k U V) (hi : i < k) (h : rlI k U V q i x y 0) (hp : q ≤ plc k U V i) (ht : k * U i * y < x * (plc k U V i * V i)) : rlI k U V q (i + 1) (k * U i) (plc k U V i * V i) 0 := by
  have hb := gr_b hc hi
  have hr := rls_b hc q i (by omega)
  refine ⟨hb.2.2.2, hb.2.2.1, hb.2.1, by decide, fun hf => absurd hf (by decide), fun _ => ?_⟩
  have hf : (rls k U V q i).1 * y = x * (rls k U V q i).2 := (h.2.2.2.2.2 rfl).symm
  rw [rls, if_pos ⟨hp, (rg_iff' (by have := h.1; omega) (by have := hr.2.1; omega) (h.2.2.2.2.2 rfl)).mp ht⟩]
theorem rlI_keep {k : Nat} {U V : Nat → Nat} {q i x y : Nat} (hc : cok k U V) (hi : i < k) (h : rlI k U V q i x y 0) (ht : ¬ k * U i * y < x * (plc k U V i * V i)) : rlI k U V q (i + 1) x y 0 := by
  have hr := rls_b hc q i (by omega)
  refine ⟨h.1, h.2.1, h.2.2.1, by decide, fun hf => absurd hf (by decide), fun _ => ?_⟩
  rw [rls, if_neg (fun h9 => ht ((rg_iff' (by have := h.1; omega) (by have := hr.2.1; omega) (h.2.2.2.2.2 rfl)).mpr h9.2))]
  exact h.2.2.2.2.2 rfl
theorem rg_b {a b : Nat} (ha : a ≤ 1100000) (hb : b ≤ 1100000) : a * b ≤ 1210000000000 := by
  have : a * b ≤ 1100000 * 1100000 := Nat.mul_le_mul ha hb
  omega
def rmX11_raised : Room := { frames := 2, cells := 0, slots := 0, locals := 55 }
set_option maxHeartbeats 4000000 in
set_option maxRecDepth 100000 in
theorem c_X11_raised (l : Launch) (D : va_G) (cI cJ : ClassId) (mz sA sB gO xO yO dO zO wO mO aO bO uO vO : Nat) (th rn un mn kc hT tu td ta tb tt tk tj : Nat) (U V : Nat → Nat) (hc : cok kc U V) (zw : Int) (izw : iR zw) (zn : Int) (izn : iR zn) (zs : Int) (izs : iR zs) : Cl l D vwCl (tyT cI cJ) yX11_raised wsX11_raised rmX11_raised [.ref mz, .int (iZ (zw)), .int (iZ (zn)), .int (iZ (zs))] [(mz, .inr (10, [.int (iZ ((th : Nat) : Int)), .ref sA, .ref sB, .int (iZ ((rn : Nat) : Int)), .ref gO, .ref xO, .ref yO, .int (iZ ((un : Nat) : Int)), .ref dO, .ref zO, .ref wO, .ref mO, .int (iZ ((mn : Nat) : Int)), .ref aO, .ref bO, .int (iZ ((kc : Nat) : Int)), .ref uO, .ref vO, .int (iZ ((hT : Nat) : Int)), .int (iZ ((tu : Nat) : Int)), .int (iZ ((td : Nat) : Int)), .int (iZ ((ta : Nat) : Int)), .int (iZ ((tb : Nat) : Int)), .int (iZ ((tt : Nat) : Int)), .int (iZ ((tk : Nat) : Int)), .int (iZ ((tj : Nat) : Int))])), (uO, .inl (cI, 10, .inl (LI U))), (vO, .inl (cI, 10, .inl (LI V)))] (Unit) (fun r _ => sRaised kc U V zw zn zs r) (fun _ => [(mz, .inr (10, [.int (iZ ((0 : Nat) : Int)), .ref sA, .ref sB, .int (iZ ((rn : Nat) : Int)), .ref gO, .ref xO, .ref yO, .int (iZ ((un : Nat) : Int)), .ref dO, .ref zO, .ref wO, .ref mO, .int (iZ ((mn : Nat) : Int)), .ref aO, .ref bO, .int (iZ ((kc : Nat) : Int)), .ref uO, .ref vO, .int (iZ ((hT : Nat) : Int)), .int (iZ ((tu : Nat) : Int)), .int (iZ ((td : Nat) : Int)), .int (iZ ((ta : Nat) : Int)), .int (iZ ((tb : Nat) : Int)), .int (iZ ((tt : Nat) : Int)), .int (iZ ((tk : Nat) : Int)), .int (iZ ((tj : Nat) : Int))])), (uO, .inl (cI, 10, .inl (LI U))), (vO, .inl (cI, 10, .inl (LI V)))]) := by
  have hk0 := hc.1
  refine en_l (cc := cX11_raised) (maxL := 17) (by decide) rfl [(0, .ref mz), (1, .int (iZ (zw))), (2, .int (iZ (zn))), (3, .int (iZ (zs)))] (Nat.le_of_ble_eq_true rfl) rfl ?_
  intro p e s m args below meth c Q A hx hb hml hown hts hnm hK hP hD hA hS hret ls hl
  have hh_0 := hts (.fieldLink RX11 50 "BoundDrawsModel" "thrown" "I") (by decide +kernel)
  have hh_1 := (show ∀ w ∈ wsX110, w ∈ wsX11_raised by decide +kernel)
  have hh_2 := hts (.constantLong RX11 108 (2)) (by decide +kernel)
  have hh_3 := hts (.constantLong RX11 90 (-1)) (by decide +kernel)
  have hh_4 := hts (.fieldLink RX11 157 "BoundDrawsModel" "compares" "I") (by decide +kernel)
  have hh_5 := hts (.fieldLink RX11 44 "BoundDrawsModel" "upOf" "[I") (by decide +kernel)
  have hh_6 := hts (.fieldLink RX11 47 "BoundDrawsModel" "downOf" "[I") (by decide +kernel)
  have hh_7 := hts (.constantLong RX11 153 (-3)) (by decide +kernel)
  refine lv_aload_n hx hb dX11_raised_0 rfl (lv_at hl 0 rfl) ?_
  refine zc_iconst (z := ((0 : Nat) : Int)) hx hb dX11_raised_1 (by decide) ?_
  refine va_put (D := D) (ci := 10) (v := .int (iZ ((0 : Nat) : Int))) (ty := .int) (C := RX11) (T := TX11) (N := 26) hx hb hts hh_1 tyX11 tyX11_ok nmX11 hown hK hP hD hS 0 rfl rfl 0 (by decide) hh_0 (fun _ h9 => h9) rfl (by decide +kernel) rfl rfl (Nat.le_of_ble_eq_true rfl) dX11_raised_2 (fun H locs hP hD hS => ?_)
  have hP : va_P D vwCl [(mz, .inr (10, [.int (iZ ((0 : Nat) : Int)), .ref sA, .ref sB, .int (iZ ((rn : Nat) : Int)), .ref gO, .ref xO, .ref yO, .int (iZ ((un : Nat) : Int)), .ref dO, .ref zO, .ref wO, .ref mO, .int (iZ ((mn : Nat) : Int)), .ref aO, .ref bO, .int (iZ ((kc : Nat) : Int)), .ref uO, .ref vO, .int (iZ ((hT : Nat) : Int)), .int (iZ ((tu : Nat) : Int)), .int (iZ ((td : Nat) : Int)), .int (iZ ((ta : Nat) : Int)), .int (iZ ((tb : Nat) : Int)), .int (iZ ((tt : Nat) : Int)), .int (iZ ((tk : Nat) : Int)), .int (iZ ((tj : Nat) : Int))])), (uO, .inl (cI, 10, .inl (LI U))), (vO, .inl (cI, 10, .inl (LI V)))] H := hP
  have hD : va_D A [(mz, .inr (10, [.int (iZ ((0 : Nat) : Int)), .ref sA, .ref sB, .int (iZ ((rn : Nat) : Int)), .ref gO, .ref xO, .ref yO, .int (iZ ((un : Nat) : Int)), .ref dO, .ref zO, .ref wO, .ref mO, .int (iZ ((mn : Nat) : Int)), .ref aO, .ref bO, .int (iZ ((kc : Nat) : Int)), .ref uO, .ref vO, .int (iZ ((hT : Nat) : Int)), .int (iZ ((tu : Nat) : Int)), .int (iZ ((td : Nat) : Int)), .int (iZ ((ta : Nat) : Int)), .int (iZ ((tb : Nat) : Int)), .int (iZ ((tt : Nat) : Int)), .int (iZ ((tk : Nat) : Int)), .int (iZ ((tj : Nat) : Int))])), (uO, .inl (cI, 10, .inl (LI U))), (vO, .inl (cI, 10, .inl (LI V)))] := hD
  refine lv_iload_n hx hb dX11_raised_5 rfl (lv_at hl 1 rfl) ?_
  refine z_i2l (z := (zw)) hx hb dX11_raised_6 ⟨by omega, by omega⟩ rfl ?_
  refine zc_lconst (z := ((0 : Nat) : Int)) hx hb dX11_raised_7 (by decide) ?_
  refine lv_ldc2 hx hb hown hh_2 dX11_raised_8 (tp_l (y := lZ ((2 : Nat) : Int)) (by decide) ?_)
  refine ca_iS [.long (lZ (zw)), .long (lZ ((0 : Nat) : Int)), .long (lZ ((2 : Nat) : Int))] [] [(mz, .inr (10, [.int (iZ ((0 : Nat) : Int)), .ref sA, .ref sB, .int (iZ ((rn : Nat) : Int)), .ref gO, .ref xO, .ref yO, .int (iZ ((un : Nat) : Int)), .ref dO, .ref zO, .ref wO, .ref mO, .int (iZ ((mn : Nat) : Int)), .ref aO, .ref bO, .int (iZ ((kc : Nat) : Int)), .ref uO, .ref vO, .int (iZ ((hT : Nat) : Int)), .int (iZ ((tu : Nat) : Int)), .int (iZ ((td : Nat) : Int)), .int (iZ ((ta : Nat) : Int)), .int (iZ ((tb : Nat) : Int)), .int (iZ ((tt : Nat) : Int)), .int (iZ ((tk : Nat) : Int)), .int (iZ ((tj : Nat) : Int))])), (uO, .inl (cI, 10, .inl (LI U))), (vO, .inl (cI, 10, .inl (LI V)))] 0 0 ⟨hx, hb, hml, hown, hts⟩ (c_X11_in l D cI cJ zw ((0 : Nat) : Int) ((2 : Nat) : Int) ⟨by omega, by omega⟩ ⟨by omega, by omega⟩ ⟨by omega, by omega⟩) (va_cwS 3 hts gX11_raised_X11_in rfl rfl rfl (by decide +kernel) ⟨(Nat.le_of_ble_eq_true rfl), (Nat.le_of_ble_eq_true rfl)⟩) hK hP hD hS hA [] [0, 1, 2] rfl rfl rfl rfl (by decide) rfl hl.1 rfl (Nat.le_of_ble_eq_true rfl) dX11_raised_11 ⟨(Nat.le_of_ble_eq_true rfl), (Nat.le_of_ble_eq_true rfl)⟩ (Nat.le_of_ble_eq_true rfl) (Nat.le_of_ble_eq_true rfl) (fun r_11 u9 H locs hw hP hD hS => ?_)
  obtain u9 := u9
  try dsimp only at hw
  obtain ⟨b1, wa1, wb1, wc1⟩ := hw
  have hP : va_P D vwCl [(mz, .inr (10, [.int (iZ ((0 : Nat) : Int)), .ref sA, .ref sB, .int (iZ ((rn : Nat) : Int)), .ref gO, .ref xO, .ref yO, .int (iZ ((un : Nat) : Int)), .ref dO, .ref zO, .ref wO, .ref mO, .int (iZ ((mn : Nat) : Int)), .ref aO, .ref bO, .int (iZ ((kc : Nat) : Int)), .ref uO, .ref vO, .int (iZ ((hT : Nat) : Int)), .int (iZ ((tu : Nat) : Int)), .int (iZ ((td : Nat) : Int)), .int (iZ ((ta : Nat) : Int)), .int (iZ ((tb : Nat) : Int)), .int (iZ ((tt : Nat) : Int)), .int (iZ ((tk : Nat) : Int)), .int (iZ ((tj : Nat) : Int))])), (uO, .inl (cI, 10, .inl (LI U))), (vO, .inl (cI, 10, .inl (LI V)))] H := hP
  have hD : va_D A [(mz, .inr (10, [.int (iZ ((0 : Nat) : Int)), .ref sA, .ref sB, .int (iZ ((rn : Nat) : Int)), .ref gO, .ref xO, .ref yO, .int (iZ ((un : Nat) : Int)), .ref dO, .ref zO, .ref wO, .ref mO, .int (iZ ((mn : Nat) : Int)), .ref aO, .ref bO, .int (iZ ((kc : Nat) : Int)), .ref uO, .ref vO, .int (iZ ((hT : Nat) : Int)), .int (iZ ((tu : Nat) : Int)), .int (iZ ((td : Nat) : Int)), .int (iZ ((ta : Nat) : Int)), .int (iZ ((tb : Nat) : Int)), .int (iZ ((tt : Nat) : Int)), .int (iZ ((tk : Nat) : Int)), .int (iZ ((tj : Nat) : Int))])), (uO, .inl (cI, 10, .inl (LI U))), (vO, .inl (cI, 10, .inl (LI V)))] := hD
  refine tp_i (y := (iZ (b1))) (wa1) ?_
  refine zb_if_eq (x := (b1)) (tgt := 27) hx hb dX11_raised_14 (by decide) ⟨by omega, by omega⟩ (fun c_14 => ?_) (fun c_14 => ?_)
  · refine lv_ldc2 hx hb hown hh_3 dX11_raised_27 (tp_l (y := lZ (-1 : Int)) (by decide) ?_)
    exact hret _ (()) _ _ _ _ _ _ (Nat.le_of_ble_eq_true rfl) (Nat.le_of_ble_eq_true rfl) dX11_raised_30 (⟨fun h9 => absurd h9 (by omega), fun h9 => absurd h9 (by omega), fun _ => rfl⟩) hP hD hS
  · refine lv_iload_n hx hb dX11_raised_17 rfl (lv_at hl 3 rfl) ?_
    refine z_i2l (z := (zs)) hx hb dX11_raised_18 ⟨by omega, by omega⟩ rfl ?_
    refine zc_lconst (z := ((0 : Nat) : Int)) hx hb dX11_raised_19 (by decide) ?_
    refine zc_lconst (z := ((1 : Nat) : Int)) hx hb dX11_raised_20 (by decide) ?_
    refine ca_iS [.long (lZ (zs)), .long (lZ ((0 : Nat) : Int)), .long (lZ ((1 : Nat) : Int))] [] [(mz, .inr (10, [.int (iZ ((0 : Nat) : Int)), .ref sA, .ref sB, .int (iZ ((rn : Nat) : Int)), .ref gO, .ref xO, .ref yO, .int (iZ ((un : Nat) : Int)), .ref dO, .ref zO, .ref wO, .ref mO, .int (iZ ((mn : Nat) : Int)), .ref aO, .ref bO, .int (iZ ((kc : Nat) : Int)), .ref uO, .ref vO, .int (iZ ((hT : Nat) : Int)), .int (iZ ((tu : Nat) : Int)), .int (iZ ((td : Nat) : Int)), .int (iZ ((ta : Nat) : Int)), .int (iZ ((tb : Nat) : Int)), .int (iZ ((tt : Nat) : Int)), .int (iZ ((tk : Nat) : Int)), .int (iZ ((tj : Nat) : Int))])), (uO, .inl (cI, 10, .inl (LI U))), (vO, .inl (cI, 10, .inl (LI V)))] 0 0 ⟨hx, hb, hml, hown, hts⟩ (c_X11_in l D cI cJ zs ((0 : Nat) : Int) ((1 : Nat) : Int) ⟨by omega, by omega⟩ ⟨by omega, by omega⟩ ⟨by omega, by omega⟩) (va_cwS 3 hts gX11_raised_X11_in rfl rfl rfl (by decide +kernel) ⟨(Nat.le_of_ble_eq_true rfl), (Nat.le_of_ble_eq_true rfl)⟩) hK hP hD hS hA [] [0, 1, 2] rfl rfl rfl rfl (by decide) rfl hl.1 rfl (Nat.le_of_ble_eq_true rfl) dX11_raised_21 ⟨(Nat.le_of_ble_eq_true rfl), (Nat.le_of_ble_eq_true rfl)⟩ (Nat.le_of_ble_eq_true rfl) (Nat.le_of_ble_eq_true rfl) (fun r_21 u9 H locs hw hP hD hS => ?_)
    obtain u9 := u9
    try dsimp only at hw
    obtain ⟨b2, wa2, wb2, wc2⟩ := hw
    have hP : va_P D vwCl [(mz, .inr (10, [.int (iZ ((0 : Nat) : Int)), .ref sA, .ref sB, .int (iZ ((rn : Nat) : Int)), .ref gO, .ref xO, .ref yO, .int (iZ ((un : Nat) : Int)), .ref dO, .ref zO, .ref wO, .ref mO, .int (iZ ((mn : Nat) : Int)), .ref aO, .ref bO, .int (iZ ((kc : Nat) : Int)), .ref uO, .ref vO, .int (iZ ((hT : Nat) : Int)), .int (iZ ((tu : Nat) : Int)), .int (iZ ((td : Nat) : Int)), .int (iZ ((ta : Nat) : Int)), .int (iZ ((tb : Nat) : Int)), .int (iZ ((tt : Nat) : Int)), .int (iZ ((tk : Nat) : Int)), .int (iZ ((tj : Nat) : Int))])), (uO, .inl (cI, 10, .inl (LI U))), (vO, .inl (cI, 10, .inl (LI V)))] H := hP
    have hD : va_D A [(mz, .inr (10, [.int (iZ ((0 : Nat) : Int)), .ref sA, .ref sB, .int (iZ ((rn : Nat) : Int)), .ref gO, .ref xO, .ref yO, .int (iZ ((un : Nat) : Int)), .ref dO, .ref zO, .ref wO, .ref mO, .int (iZ ((mn : Nat) : Int)), .ref aO, .ref bO, .int (iZ ((kc : Nat) : Int)), .ref uO, .ref vO, .int (iZ ((hT : Nat) : Int)), .int (iZ ((tu : Nat) : Int)), .int (iZ ((td : Nat) : Int)), .int (iZ ((ta : Nat) : Int)), .int (iZ ((tb : Nat) : Int)), .int (iZ ((tt : Nat) : Int)), .int (iZ ((tk : Nat) : Int)), .int (iZ ((tj : Nat) : Int))])), (uO, .inl (cI, 10, .inl (LI U))), (vO, .inl (cI, 10, .inl (LI V)))] := hD
    refine tp_i (y := (iZ (b2))) (wa2) ?_
    refine zb_if_ne (x := (b2)) (tgt := 31) hx hb dX11_raised_24 (by decide) ⟨by omega, by omega⟩ (fun c_24 => ?_) (fun c_24 => ?_)
    · refine lv_iload_n hx hb dX11_raised_31 rfl (lv_at hl 2 rfl) ?_
      refine z_i2l (z := (zn)) hx hb dX11_raised_32 ⟨by omega, by omega⟩ rfl ?_
      refine zc_lconst (z := ((0 : Nat) : Int)) hx hb dX11_raised_33 (by decide) ?_
      refine lv_aload_n hx hb dX11_raised_34 rfl (lv_at hl 0 rfl) ?_
      refine va_get (D := D) (ci := 10) (v := .int (iZ ((kc : Nat) : Int))) (C := RX11) (T := TX11) (N := 26) hx hb hts hh_1 hown hK hP 0 rfl rfl 15 (by decide) hh_4 (fun _ h9 => h9) rfl dX11_raised_35 ?_
      refine zc_iconst (z := ((1 : Nat) : Int)) hx hb dX11_raised_38 (by decide) ?_
      refine zi_sub (z := (((kc : Nat) : Int) - ((1 : Nat) : Int))) hx hb dX11_raised_39 rfl ?_
      refine z_i2l (z := (((kc : Nat) : Int) - ((1 : Nat) : Int))) hx hb dX11_raised_40 ⟨by omega, by omega⟩ rfl ?_
      refine ca_iS [.long (lZ (zn)), .long (lZ ((0 : Nat) : Int)), .long (lZ (((kc : Nat) : Int) - ((1 : Nat) : Int)))] [] [(mz, .inr (10, [.int (iZ ((0 : Nat) : Int)), .ref sA, .ref sB, .int (iZ ((rn : Nat) : Int)), .ref gO, .ref xO, .ref yO, .int (iZ ((un : Nat) : Int)), .ref dO, .ref zO, .ref wO, .ref mO, .int (iZ ((mn : Nat) : Int)), .ref aO, .ref bO, .int (iZ ((kc : Nat) : Int)), .ref uO, .ref vO, .int (iZ ((hT : Nat) : Int)), .int (iZ ((tu : Nat) : Int)), .int (iZ ((td : Nat) : Int)), .int (iZ ((ta : Nat) : Int)), .int (iZ ((tb : Nat) : Int)), .int (iZ ((tt : Nat) : Int)), .int (iZ ((tk : Nat) : Int)), .int (iZ ((tj : Nat) : Int))])), (uO, .inl (cI, 10, .inl (LI U))), (vO, .inl (cI, 10, .inl (LI V)))] 0 0 ⟨hx, hb, hml, hown, hts⟩ (c_X11_in l D cI cJ zn ((0 : Nat) : Int) (((kc : Nat) : Int) - ((1 : Nat) : Int)) ⟨by omega, by omega⟩ ⟨by omega, by omega⟩ ⟨by omega, by omega⟩) (va_cwS 3 hts gX11_raised_X11_in rfl rfl rfl (by decide +kernel) ⟨(Nat.le_of_ble_eq_true rfl), (Nat.le_of_ble_eq_true rfl)⟩) hK hP hD hS hA [] [0, 1, 2] rfl rfl rfl rfl (by decide) rfl hl.1 rfl (Nat.le_of_ble_eq_true rfl) dX11_raised_41 ⟨(Nat.le_of_ble_eq_true rfl), (Nat.le_of_ble_eq_true rfl)⟩ (Nat.le_of_ble_eq_true rfl) (Nat.le_of_ble_eq_true rfl) (fun r_41 u9 H locs hw hP hD hS => ?_)
      obtain u9 := u9
      try dsimp only at hw
      obtain ⟨b3, wa3, wb3, wc3⟩ := hw
      have hP : va_P D vwCl [(mz, .inr (10, [.int (iZ ((0 : Nat) : Int)), .ref sA, .ref sB, .int (iZ ((rn : Nat) : Int)), .ref gO, .ref xO, .ref yO, .int (iZ ((un : Nat) : Int)), .ref dO, .ref zO, .ref wO, .ref mO, .int (iZ ((mn : Nat) : Int)), .ref aO, .ref bO, .int (iZ ((kc : Nat) : Int)), .ref uO, .ref vO, .int (iZ ((hT : Nat) : Int)), .int (iZ ((tu : Nat) : Int)), .int (iZ ((td : Nat) : Int)), .int (iZ ((ta : Nat) : Int)), .int (iZ ((tb : Nat) : Int)), .int (iZ ((tt : Nat) : Int)), .int (iZ ((tk : Nat) : Int)), .int (iZ ((tj : Nat) : Int))])), (uO, .inl (cI, 10, .inl (LI U))), (vO, .inl (cI, 10, .inl (LI V)))] H := hP
      have hD : va_D A [(mz, .inr (10, [.int (iZ ((0 : Nat) : Int)), .ref sA, .ref sB, .int (iZ ((rn : Nat) : Int)), .ref gO, .ref xO, .ref yO, .int (iZ ((un : Nat) : Int)), .ref dO, .ref zO, .ref wO, .ref mO, .int (iZ ((mn : Nat) : Int)), .ref aO, .ref bO, .int (iZ ((kc : Nat) : Int)), .ref uO, .ref vO, .int (iZ ((hT : Nat) : Int)), .int (iZ ((tu : Nat) : Int)), .int (iZ ((td : Nat) : Int)), .int (iZ ((ta : Nat) : Int)), .int (iZ ((tb : Nat) : Int)), .int (iZ ((tt : Nat) : Int)), .int (iZ ((tk : Nat) : Int)), .int (iZ ((tj : Nat) : Int))])), (uO, .inl (cI, 10, .inl (LI U))), (vO, .inl (cI, 10, .inl (LI V)))] := hD
      refine tp_i (y := (iZ (b3))) (wa3) ?_
      refine zb_if_ne (x := (b3)) (tgt := 51) hx hb dX11_raised_44 (by decide) ⟨by omega, by omega⟩ (fun c_44 => ?_) (fun c_44 => ?_)
      · obtain ⟨way, rfl⟩ : ∃ x9 : Nat, zw = (x9 : Int) := ⟨zw.toNat, by omega⟩
        obtain ⟨j, rfl⟩ : ∃ x9 : Nat, zn = (x9 : Int) := ⟨zn.toNat, by omega⟩
        have hgb := gr_b hc (show j < kc by omega)
        have hcj := hc.2 j (by omega)
        have hw2 : way ≤ 2 := (by omega)
        have hjk : j < kc := (by omega)
        have hzs : 0 ≤ zs ∧ zs ≤ 1 := (by omega)
        clear wc1 wc2 wc3
        rcases (show way = 0 ∨ way = 1 ∨ way = 2 by omega) with rfl | rfl | rfl
        · refine lv_aload_n hx hb dX11_raised_51 rfl (lv_at hl 0 rfl) ?_
          refine lv_iload_n hx hb dX11_raised_52 rfl (lv_at hl 2 rfl) ?_
          refine ca_iV [.int (iZ ((j : Nat) : Int))] [] [] 0 0 ⟨hx, hb, hml, hown, hts⟩ (c_X11_placeOf l D cI cJ mz sA sB gO xO yO dO zO wO mO aO bO uO vO 0 rn un mn kc hT tu td ta tb tt tk tj U V hc j (by omega)) (cwV 1 hts gX11_raised_X11_placeOf rfl rfl rfl (by decide +kernel) ⟨(Nat.le_of_ble_eq_true rfl), (Nat.le_of_ble_eq_true rfl)⟩) hK hP hD hS hA [0, 1, 2] [] rfl rfl rfl rfl (by decide) 0 rfl rfl rfl hl.1 rfl (Nat.le_of_ble_eq_true rfl) dX11_raised_53 ⟨(Nat.le_of_ble_eq_true rfl), (Nat.le_of_ble_eq_true rfl)⟩ (Nat.le_of_ble_eq_true rfl) (Nat.le_of_ble_eq_true rfl) (fun r_53 u9 H locs hw hP hD hS => ?_)
          obtain u9 := u9
          try dsimp only at hw
          have hP : va_P D vwCl [(mz, .inr (10, [.int (iZ ((0 : Nat) : Int)), .ref sA, .ref sB, .int (iZ ((rn : Nat) : Int)), .ref gO, .ref xO, .ref yO, .int (iZ ((un : Nat) : Int)), .ref dO, .ref zO, .ref wO, .ref mO, .int (iZ ((mn : Nat) : Int)), .ref aO, .ref bO, .int (iZ ((kc : Nat) : Int)), .ref uO, .ref vO, .int (iZ ((hT : Nat) : Int)), .int (iZ ((tu : Nat) : Int)), .int (iZ ((td : Nat) : Int)), .int (iZ ((ta : Nat) : Int)), .int (iZ ((tb : Nat) : Int)), .int (iZ ((tt : Nat) : Int)), .int (iZ ((tk : Nat) : Int)), .int (iZ ((tj : Nat) : Int))])), (uO, .inl (cI, 10, .inl (LI U))), (vO, .inl (cI, 10, .inl (LI V)))] H := hP
          have hD : va_D A [(mz, .inr (10, [.int (iZ ((0 : Nat) : Int)), .ref sA, .ref sB, .int (iZ ((rn : Nat) : Int)), .ref gO, .ref xO, .ref yO, .int (iZ ((un : Nat) : Int)), .ref dO, .ref zO, .ref wO, .ref mO, .int (iZ ((mn : Nat) : Int)), .ref aO, .ref bO, .int (iZ ((kc : Nat) : Int)), .ref uO, .ref vO, .int (iZ ((hT : Nat) : Int)), .int (iZ ((tu : Nat) : Int)), .int (iZ ((td : Nat) : Int)), .int (iZ ((ta : Nat) : Int)), .int (iZ ((tb : Nat) : Int)), .int (iZ ((tt : Nat) : Int)), .int (iZ ((tk : Nat) : Int)), .int (iZ ((tj : Nat) : Int))])), (uO, .inl (cI, 10, .inl (LI U))), (vO, .inl (cI, 10, .inl (LI V)))] := hD
          refine tp_i (y := (iZ ((plc kc U V j : Nat) : Int))) (hw) ?_
          refine lv_istore (lv' := [(4, .int (iZ ((plc kc U V j : Nat) : Int))), (0, .ref mz), (1, .int (iZ ((0 : Nat) : Int))), (2, .int (iZ ((j : Nat) : Int))), (3, .int (iZ (zs)))]) hx hb dX11_raised_56 hl (by decide) rfl (fun ls hl => ?_)
          refine lv_aload_n hx hb dX11_raised_58 rfl (lv_at hl 1 rfl) ?_
          refine va_get (D := D) (ci := 10) (v := .int (iZ ((kc : Nat) : Int))) (C := RX11) (T := TX11) (N := 26) hx hb hts hh_1 hown hK hP 0 rfl rfl 15 (by decide) hh_4 (fun _ h9 => h9) rfl dX11_raised_59 ?_
          refine z_i2l (z := ((kc : Nat) : Int)) hx hb dX11_raised_62 ⟨by omega, by omega⟩ rfl ?_
          refine lv_aload_n hx hb dX11_raised_63 rfl (lv_at hl 1 rfl) ?_
          refine va_get (D := D) (ci := 10) (v := .ref uO) (C := RX11) (T := TX11) (N := 26) hx hb hts hh_1 hown hK hP 0 rfl rfl 16 (by decide) hh_5 (fun _ h9 => h9) rfl dX11_raised_64 ?_
          refine lv_iload_n hx hb dX11_raised_67 rfl (lv_at hl 3 rfl) ?_
          refine za_iald hx hb hK hP 1 0 rfl rfl (j) (v := ((U j : Nat) : Int)) (by decide) rfl (by omega) (rfl) dX11_raised_68 ?_
          refine z_i2l (z := ((U j : Nat) : Int)) hx hb dX11_raised_69 ⟨by omega, by omega⟩ rfl ?_
          refine zl_mul (z := ((kc * (U j) : Nat) : Int)) hx hb dX11_raised_70 (Int.natCast_mul _ _).symm ?_
          refine lv_lstore (lv' := [(5, .long (lZ ((kc * (U j) : Nat) : Int))), (4, .int (iZ ((plc kc U V j : Nat) : Int))), (0, .ref mz), (1, .int (iZ ((0 : Nat) : Int))), (2, .int (iZ ((j : Nat) : Int))), (3, .int (iZ (zs)))]) hx hb dX11_raised_71 hl (by decide) rfl (fun ls hl => ?_)
          refine lv_aload_n hx hb dX11_raised_73 rfl (lv_at hl 2 rfl) ?_
          refine va_get (D := D) (ci := 10) (v := .ref vO) (C := RX11) (T := TX11) (N := 26) hx hb hts hh_1 hown hK hP 0 rfl rfl 17 (by decide) hh_6 (fun _ h9 => h9) rfl dX11_raised_74 ?_
          refine lv_iload_n hx hb dX11_raised_77 rfl (lv_at hl 4 rfl) ?_
          refine za_iald hx hb hK hP 2 0 rfl rfl (j) (v := ((V j : Nat) : Int)) (by decide) rfl (by omega) (rfl) dX11_raised_78 ?_
          refine z_i2l (z := ((V j : Nat) : Int)) hx hb dX11_raised_79 ⟨by omega, by omega⟩ rfl ?_
          refine lv_lstore (lv' := [(7, .long (lZ ((V j : Nat) : Int))), (5, .long (lZ ((kc * (U j) : Nat) : Int))), (4, .int (iZ ((plc kc U V j : Nat) : Int))), (0, .ref mz), (1, .int (iZ ((0 : Nat) : Int))), (2, .int (iZ ((j : Nat) : Int))), (3, .int (iZ (zs)))]) hx hb dX11_raised_80 hl (by decide) rfl (fun ls hl => ?_)
          refine lv_iload_n hx hb dX11_raised_82 rfl (lv_at hl 4 rfl) ?_
          refine zb_if_le (x := ((0 : Nat) : Int)) (tgt := 90) hx hb dX11_raised_83 (by decide) ⟨by decide, by decide⟩ (fun c_83 => ?_) (fun c_83 => ?_)
          · refine zc_iconst (z := ((0 : Nat) : Int)) hx hb dX11_raised_90 (by decide) ?_
            refine lv_istore (lv' := [(9, .int (iZ ((0 : Nat) : Int))), (7, .long (lZ ((V j : Nat) : Int))), (5, .long (lZ ((kc * (U j) : Nat) : Int))), (4, .int (iZ ((plc kc U V j : Nat) : Int))), (0, .ref mz), (1, .int (iZ ((0 : Nat) : Int))), (2, .int (iZ ((j : Nat) : Int))), (3, .int (iZ (zs)))]) hx hb dX11_raised_91 hl (by decide) rfl (fun ls hl => ?_)
            refine zc_iconst (z := ((0 : Nat) : Int)) hx hb dX11_raised_93 (by decide) ?_
            refine lv_istore (lv' := [(10, .int (iZ ((0 : Nat) : Int))), (9, .int (iZ ((0 : Nat) : Int))), (7, .long (lZ ((V j : Nat) : Int))), (5, .long (lZ ((kc * (U j) : Nat) : Int))), (4, .int (iZ ((plc kc U V j : Nat) : Int))), (0, .ref mz), (1, .int (iZ ((0 : Nat) : Int))), (2, .int (iZ ((j : Nat) : Int))), (3, .int (iZ (zs)))]) hx hb dX11_raised_94 hl (by decide) rfl (fun ls hl => ?_)
            refine lv_iload hx hb dX11_raised_96 (lv_at hl 0 rfl) ?_
            refine lv_aload_n hx hb dX11_raised_98 rfl (lv_at hl 5 rfl) ?_
            refine va_get (D := D) (ci := 10) (v := .int (iZ ((kc : Nat) : Int))) (C := RX11) (T := TX11) (N := 26) hx hb hts hh_1 hown hK hP 0 rfl rfl 15 (by decide) hh_4 (fun _ h9 => h9) rfl dX11_raised_99 ?_
            refine zb_icmp_ge (x := ((0 : Nat) : Int)) (y := ((kc : Nat) : Int)) (tgt := 298) hx hb dX11_raised_102 (by decide) ⟨by decide, by decide⟩ ⟨by omega, by omega⟩ (fun c_102 => ?_) (fun c_102 => ?_)
            · exfalso; omega
            · refine lv_iload_n hx hb dX11_raised_105 rfl (lv_at hl 6 rfl) ?_
              refine zb_if_le (x := ((0 : Nat) : Int)) (tgt := 298) hx hb dX11_raised_106 (by decide) ⟨by decide, by decide⟩ (fun c_106 => ?_) (fun c_106 => ?_)
              · refine lv_lload hx hb dX11_raised_298 (lv_at hl 3 rfl) ?_
                refine lv_lload hx hb dX11_raised_300 (lv_at hl 2 rfl) ?_
                refine zb_l_le (x := ((kc * (U j) : Nat) : Int)) (y := ((V j : Nat) : Int)) (tgt := 310) hx hb dX11_raised_302 dX11_raised_303 (by decide) ⟨by omega, by omega⟩ ⟨by omega, by omega⟩ (fun c_302 => ?_) (fun c_302 => ?_)
                · refine lv_lload hx hb dX11_raised_310 (lv_at hl 3 rfl) ?_
                  refine lv_lload hx hb dX11_raised_312 (lv_at hl 2 rfl) ?_
                  refine lv_iload_n hx hb dX11_raised_314 rfl (lv_at hl 8 rfl) ?_
                  refine ca_lS [.long (lZ ((kc * (U j) : Nat) : Int)), .long (lZ ((V j : Nat) : Int)), .int (iZ (zs))] [] [(mz, .inr (10, [.int (iZ ((0 : Nat) : Int)), .ref sA, .ref sB, .int (iZ ((rn : Nat) : Int)), .ref gO, .ref xO, .ref yO, .int (iZ ((un : Nat) : Int)), .ref dO, .ref zO, .ref wO, .ref mO, .int (iZ ((mn : Nat) : Int)), .ref aO, .ref bO, .int (iZ ((kc : Nat) : Int)), .ref uO, .ref vO, .int (iZ ((hT : Nat) : Int)), .int (iZ ((tu : Nat) : Int)), .int (iZ ((td : Nat) : Int)), .int (iZ ((ta : Nat) : Int)), .int (iZ ((tb : Nat) : Int)), .int (iZ ((tt : Nat) : Int)), .int (iZ ((tk : Nat) : Int)), .int (iZ ((tj : Nat) : Int))])), (uO, .inl (cI, 10, .inl (LI U))), (vO, .inl (cI, 10, .inl (LI V)))] 0 0 ⟨hx, hb, hml, hown, hts⟩ (c_X11_told l D cI cJ ((kc * (U j) : Nat) : Int) (V j) zs (by omega) (by omega) (by omega) (by omega) ⟨by omega, by omega⟩) (va_cwS 3 hts gX11_raised_X11_told rfl rfl rfl (by decide +kernel) ⟨(Nat.le_of_ble_eq_true rfl), (Nat.le_of_ble_eq_true rfl)⟩) hK hP hD hS hA [] [0, 1, 2] rfl rfl rfl rfl (by decide) rfl hl.1 rfl (Nat.le_of_ble_eq_true rfl) dX11_raised_315 ⟨(Nat.le_of_ble_eq_true rfl), (Nat.le_of_ble_eq_true rfl)⟩ (Nat.le_of_ble_eq_true rfl) (Nat.le_of_ble_eq_true rfl) (fun r_315 u9 H locs hw hP hD hS => ?_)
                  obtain u9 := u9
                  try dsimp only at hw
                  have hP : va_P D vwCl [(mz, .inr (10, [.int (iZ ((0 : Nat) : Int)), .ref sA, .ref sB, .int (iZ ((rn : Nat) : Int)), .ref gO, .ref xO, .ref yO, .int (iZ ((un : Nat) : Int)), .ref dO, .ref zO, .ref wO, .ref mO, .int (iZ ((mn : Nat) : Int)), .ref aO, .ref bO, .int (iZ ((kc : Nat) : Int)), .ref uO, .ref vO, .int (iZ ((hT : Nat) : Int)), .int (iZ ((tu : Nat) : Int)), .int (iZ ((td : Nat) : Int)), .int (iZ ((ta : Nat) : Int)), .int (iZ ((tb : Nat) : Int)), .int (iZ ((tt : Nat) : Int)), .int (iZ ((tk : Nat) : Int)), .int (iZ ((tj : Nat) : Int))])), (uO, .inl (cI, 10, .inl (LI U))), (vO, .inl (cI, 10, .inl (LI V)))] H := hP
                  have hD : va_D A [(mz, .inr (10, [.int (iZ ((0 : Nat) : Int)), .ref sA, .ref sB, .int (iZ ((rn : Nat) : Int)), .ref gO, .ref xO, .ref yO, .int (iZ ((un : Nat) : Int)), .ref dO, .ref zO, .ref wO, .ref mO, .int (iZ ((mn : Nat) : Int)), .ref aO, .ref bO, .int (iZ ((kc : Nat) : Int)), .ref uO, .ref vO, .int (iZ ((hT : Nat) : Int)), .int (iZ ((tu : Nat) : Int)), .int (iZ ((td : Nat) : Int)), .int (iZ ((ta : Nat) : Int)), .int (iZ ((tb : Nat) : Int)), .int (iZ ((tt : Nat) : Int)), .int (iZ ((tk : Nat) : Int)), .int (iZ ((tj : Nat) : Int))])), (uO, .inl (cI, 10, .inl (LI U))), (vO, .inl (cI, 10, .inl (LI V)))] := hD
                  exact hret _ (()) _ _ _ _ _ _ (Nat.le_of_ble_eq_true rfl) (Nat.le_of_ble_eq_true rfl) dX11_raised_318 (⟨fun _ _ => by show _ = lZ (capR (rpr kc U V 0 j).1 (rpr kc U V 0 j).2 zs); have hrp : rpr kc U V 0 j = (kc * U j, V j) := rfl; rw [hrp]; rw [hw]; unfold capR; rw [if_neg (show ¬ V j < kc * U j by omega)], fun h8 h9 => absurd (by omega) h9, fun h9 => absurd (by omega) h9⟩) hP hD hS
                · refine zc_lconst (z := ((1 : Nat) : Int)) hx hb dX11_raised_306 (by decide) ?_
                  refine lv_goto (tgt := 318) hx hb dX11_raised_307 (by decide) ?_
                  exact hret _ (()) _ _ _ _ _ _ (Nat.le_of_ble_eq_true rfl) (Nat.le_of_ble_eq_true rfl) dX11_raised_318 (⟨fun _ _ => by show _ = lZ (capR (rpr kc U V 0 j).1 (rpr kc U V 0 j).2 zs); have hrp : rpr kc U V 0 j = (kc * U j, V j) := rfl; rw [hrp]; unfold capR; rw [if_pos (by show V j < kc * U j; omega)]; rfl, fun h8 h9 => absurd (by omega) h9, fun h9 => absurd (by omega) h9⟩) hP hD hS
              · exact absurd c_106 (by decide)
          · exact absurd c_83 (by decide)
        · refine lv_aload_n hx hb dX11_raised_51 rfl (lv_at hl 0 rfl) ?_
          refine lv_iload_n hx hb dX11_raised_52 rfl (lv_at hl 2 rfl) ?_
          refine ca_iV [.int (iZ ((j : Nat) : Int))] [] [] 0 0 ⟨hx, hb, hml, hown, hts⟩ (c_X11_placeOf l D cI cJ mz sA sB gO xO yO dO zO wO mO aO bO uO vO 0 rn un mn kc hT tu td ta tb tt tk tj U V hc j (by omega)) (cwV 1 hts gX11_raised_X11_placeOf rfl rfl rfl (by decide +kernel) ⟨(Nat.le_of_ble_eq_true rfl), (Nat.le_of_ble_eq_true rfl)⟩) hK hP hD hS hA [0, 1, 2] [] rfl rfl rfl rfl (by decide) 0 rfl rfl rfl hl.1 rfl (Nat.le_of_ble_eq_true rfl) dX11_raised_53 ⟨(Nat.le_of_ble_eq_true rfl), (Nat.le_of_ble_eq_true rfl)⟩ (Nat.le_of_ble_eq_true rfl) (Nat.le_of_ble_eq_true rfl) (fun r_53 u9 H locs hw hP hD hS => ?_)
          obtain u9 := u9
          try dsimp only at hw
          have hP : va_P D vwCl [(mz, .inr (10, [.int (iZ ((0 : Nat) : Int)), .ref sA, .ref sB, .int (iZ ((rn : Nat) : Int)), .ref gO, .ref xO, .ref yO, .int (iZ ((un : Nat) : Int)), .ref dO, .ref zO, .ref wO, .ref mO, .int (iZ ((mn : Nat) : Int)), .ref aO, .ref bO, .int (iZ ((kc : Nat) : Int)), .ref uO, .ref vO, .int (iZ ((hT : Nat) : Int)), .int (iZ ((tu : Nat) : Int)), .int (iZ ((td : Nat) : Int)), .int (iZ ((ta : Nat) : Int)), .int (iZ ((tb : Nat) : Int)), .int (iZ ((tt : Nat) : Int)), .int (iZ ((tk : Nat) : Int)), .int (iZ ((tj : Nat) : Int))])), (uO, .inl (cI, 10, .inl (LI U))), (vO, .inl (cI, 10, .inl (LI V)))] H := hP
          have hD : va_D A [(mz, .inr (10, [.int (iZ ((0 : Nat) : Int)), .ref sA, .ref sB, .int (iZ ((rn : Nat) : Int)), .ref gO, .ref xO, .ref yO, .int (iZ ((un : Nat) : Int)), .ref dO, .ref zO, .ref wO, .ref mO, .int (iZ ((mn : Nat) : Int)), .ref aO, .ref bO, .int (iZ ((kc : Nat) : Int)), .ref uO, .ref vO, .int (iZ ((hT : Nat) : Int)), .int (iZ ((tu : Nat) : Int)), .int (iZ ((td : Nat) : Int)), .int (iZ ((ta : Nat) : Int)), .int (iZ ((tb : Nat) : Int)), .int (iZ ((tt : Nat) : Int)), .int (iZ ((tk : Nat) : Int)), .int (iZ ((tj : Nat) : Int))])), (uO, .inl (cI, 10, .inl (LI U))), (vO, .inl (cI, 10, .inl (LI V)))] := hD
          refine tp_i (y := (iZ ((plc kc U V j : Nat) : Int))) (hw) ?_
          refine lv_istore (lv' := [(4, .int (iZ ((plc kc U V j : Nat) : Int))), (0, .ref mz), (1, .int (iZ ((1 : Nat) : Int))), (2, .int (iZ ((j : Nat) : Int))), (3, .int (iZ (zs)))]) hx hb dX11_raised_56 hl (by decide) rfl (fun ls hl => ?_)
          refine lv_aload_n hx hb dX11_raised_58 rfl (lv_at hl 1 rfl) ?_
          refine va_get (D := D) (ci := 10) (v := .int (iZ ((kc : Nat) : Int))) (C := RX11) (T := TX11) (N := 26) hx hb hts hh_1 hown hK hP 0 rfl rfl 15 (by decide) hh_4 (fun _ h9 => h9) rfl dX11_raised_59 ?_
          refine z_i2l (z := ((kc : Nat) : Int)) hx hb dX11_raised_62 ⟨by omega, by omega⟩ rfl ?_
          refine lv_aload_n hx hb dX11_raised_63 rfl (lv_at hl 1 rfl) ?_
          refine va_get (D := D) (ci := 10) (v := .ref uO) (C := RX11) (T := TX11) (N := 26) hx hb hts hh_1 hown hK hP 0 rfl rfl 16 (by decide) hh_5 (fun _ h9 => h9) rfl dX11_raised_64 ?_
          refine lv_iload_n hx hb dX11_raised_67 rfl (lv_at hl 3 rfl) ?_
          refine za_iald hx hb hK hP 1 0 rfl rfl (j) (v := ((U j : Nat) : Int)) (by decide) rfl (by omega) (rfl) dX11_raised_68 ?_
          refine z_i2l (z := ((U j : Nat) : Int)) hx hb dX11_raised_69 ⟨by omega, by omega⟩ rfl ?_
          refine zl_mul (z := ((kc * (U j) : Nat) : Int)) hx hb dX11_raised_70 (Int.natCast_mul _ _).symm ?_
          refine lv_lstore (lv' := [(5, .long (lZ ((kc * (U j) : Nat) : Int))), (4, .int (iZ ((plc kc U V j : Nat) : Int))), (0, .ref mz), (1, .int (iZ ((1 : Nat) : Int))), (2, .int (iZ ((j : Nat) : Int))), (3, .int (iZ (zs)))]) hx hb dX11_raised_71 hl (by decide) rfl (fun ls hl => ?_)
          refine lv_aload_n hx hb dX11_raised_73 rfl (lv_at hl 2 rfl) ?_
          refine va_get (D := D) (ci := 10) (v := .ref vO) (C := RX11) (T := TX11) (N := 26) hx hb hts hh_1 hown hK hP 0 rfl rfl 17 (by decide) hh_6 (fun _ h9 => h9) rfl dX11_raised_74 ?_
          refine lv_iload_n hx hb dX11_raised_77 rfl (lv_at hl 4 rfl) ?_
          refine za_iald hx hb hK hP 2 0 rfl rfl (j) (v := ((V j : Nat) : Int)) (by decide) rfl (by omega) (rfl) dX11_raised_78 ?_
          refine z_i2l (z := ((V j : Nat) : Int)) hx hb dX11_raised_79 ⟨by omega, by omega⟩ rfl ?_
          refine lv_lstore (lv' := [(7, .long (lZ ((V j : Nat) : Int))), (5, .long (lZ ((kc * (U j) : Nat) : Int))), (4, .int (iZ ((plc kc U V j : Nat) : Int))), (0, .ref mz), (1, .int (iZ ((1 : Nat) : Int))), (2, .int (iZ ((j : Nat) : Int))), (3, .int (iZ (zs)))]) hx hb dX11_raised_80 hl (by decide) rfl (fun ls hl => ?_)
          refine lv_iload_n hx hb dX11_raised_82 rfl (lv_at hl 4 rfl) ?_
          refine zb_if_le (x := ((1 : Nat) : Int)) (tgt := 90) hx hb dX11_raised_83 (by decide) ⟨by decide, by decide⟩ (fun c_83 => ?_) (fun c_83 => ?_)
          · exact absurd c_83 (by decide)
          · refine zc_iconst (z := ((1 : Nat) : Int)) hx hb dX11_raised_86 (by decide) ?_
            refine lv_goto (tgt := 91) hx hb dX11_raised_87 (by decide) ?_
            refine lv_istore (lv' := [(9, .int (iZ ((1 : Nat) : Int))), (7, .long (lZ ((V j : Nat) : Int))), (5, .long (lZ ((kc * (U j) : Nat) : Int))), (4, .int (iZ ((plc kc U V j : Nat) : Int))), (0, .ref mz), (1, .int (iZ ((1 : Nat) : Int))), (2, .int (iZ ((j : Nat) : Int))), (3, .int (iZ (zs)))]) hx hb dX11_raised_91 hl (by decide) rfl (fun ls hl => ?_)
            refine zc_iconst (z := ((0 : Nat) : Int)) hx hb dX11_raised_93 (by decide) ?_
            refine lv_istore (lv' := [(10, .int (iZ ((0 : Nat) : Int))), (9, .int (iZ ((1 : Nat) : Int))), (7, .long (lZ ((V j : Nat) : Int))), (5, .long (lZ ((kc * (U j) : Nat) : Int))), (4, .int (iZ ((plc kc U V j : Nat) : Int))), (0, .ref mz), (1, .int (iZ ((1 : Nat) : Int))), (2, .int (iZ ((j : Nat) : Int))), (3, .int (iZ (zs)))]) hx hb dX11_raised_94 hl (by decide) rfl (fun ls hl => ?_)
            have pt_96 : ∀ f : Nat, ∀ (i x y fs : Nat), (hi : i ≤ kc) → (hI : rgI kc U V (plc kc U V j) i x y fs) → (hf : kc < i + f) → (H : Heap) → (locs : List Loc) → va_P D vwCl [(mz, .inr (10, [.int (iZ ((0 : Nat) : Int)), .ref sA, .ref sB, .int (iZ ((rn : Nat) : Int)), .ref gO, .ref xO, .ref yO, .int (iZ ((un : Nat) : Int)), .ref dO, .ref zO, .ref wO, .ref mO, .int (iZ ((mn : Nat) : Int)), .ref aO, .ref bO, .int (iZ ((kc : Nat) : Int)), .ref uO, .ref vO, .int (iZ ((hT : Nat) : Int)), .int (iZ ((tu : Nat) : Int)), .int (iZ ((td : Nat) : Int)), .int (iZ ((ta : Nat) : Int)), .int (iZ ((tb : Nat) : Int)), .int (iZ ((tt : Nat) : Int)), .int (iZ ((tk : Nat) : Int)), .int (iZ ((tj : Nat) : Int))])), (uO, .inl (cI, 10, .inl (LI U))), (vO, .inl (cI, 10, .inl (LI V)))] H → va_D A [(mz, .inr (10, [.int (iZ ((0 : Nat) : Int)), .ref sA, .ref sB, .int (iZ ((rn : Nat) : Int)), .ref gO, .ref xO, .ref yO, .int (iZ ((un : Nat) : Int)), .ref dO, .ref zO, .ref wO, .ref mO, .int (iZ ((mn : Nat) : Int)), .ref aO, .ref bO, .int (iZ ((kc : Nat) : Int)), .ref uO, .ref vO, .int (iZ ((hT : Nat) : Int)), .int (iZ ((tu : Nat) : Int)), .int (iZ ((td : Nat) : Int)), .int (iZ ((ta : Nat) : Int)), .int (iZ ((tb : Nat) : Int)), .int (iZ ((tt : Nat) : Int)), .int (iZ ((tk : Nat) : Int)), .int (iZ ((tj : Nat) : Int))])), (uO, .inl (cI, 10, .inl (LI U))), (vO, .inl (cI, 10, .inl (LI V)))] → va_S A s.heap H locs → (ls : Array Slot) → lv_has ls 17 [(10, .int (iZ ((i : Nat) : Int))), (9, .int (iZ ((fs : Nat) : Int))), (7, .long (lZ ((y : Nat) : Int))), (5, .long (lZ ((x : Nat) : Int))), (0, .ref mz), (1, .int (iZ ((1 : Nat) : Int))), (2, .int (iZ ((j : Nat) : Int))), (3, .int (iZ (zs))), (4, .int (iZ ((plc kc U V j : Nat) : Int)))] → W p l e rmX11_raised s m args below meth c H locs 0 0 Q (F0 m 96 ls []) := by
              intro f
              induction f with
              | zero =>
                intro i x y fs hi hI hf H locs hP hD hS ls hl
                exfalso; omega
              | succ f ih_96 =>
                intro i x y fs hi hI hf H locs hP hD hS ls hl
                obtain ⟨d1, d2, d3, d4, d5, d6⟩ := id hI
                refine lv_iload hx hb dX11_raised_96 (lv_at hl 0 rfl) ?_
                refine lv_aload_n hx hb dX11_raised_98 rfl (lv_at hl 4 rfl) ?_
                refine va_get (D := D) (ci := 10) (v := .int (iZ ((kc : Nat) : Int))) (C := RX11) (T := TX11) (N := 26) hx hb hts hh_1 hown hK hP 0 rfl rfl 15 (by decide) hh_4 (fun _ h9 => h9) rfl dX11_raised_99 ?_
                refine zb_icmp_ge (x := ((i : Nat) : Int)) (y := ((kc : Nat) : Int)) (tgt := 298) hx hb dX11_raised_102 (by decide) ⟨by omega, by omega⟩ ⟨by omega, by omega⟩ (fun c_102 => ?_) (fun c_102 => ?_)
                · refine lv_lload hx hb dX11_raised_298 (lv_at hl 3 rfl) ?_
                  refine lv_lload hx hb dX11_raised_300 (lv_at hl 2 rfl) ?_
                  refine zb_l_le (x := ((x : Nat) : Int)) (y := ((y : Nat) : Int)) (tgt := 310) hx hb dX11_raised_302 dX11_raised_303 (by decide) ⟨by omega, by omega⟩ ⟨by omega, by omega⟩ (fun c_302 => ?_) (fun c_302 => ?_)
                  · refine lv_lload hx hb dX11_raised_310 (lv_at hl 3 rfl) ?_
                    refine lv_lload hx hb dX11_raised_312 (lv_at hl 2 rfl) ?_
                    refine lv_iload_n hx hb dX11_raised_314 rfl (lv_at hl 7 rfl) ?_
                    refine ca_lS [.long (lZ ((x : Nat) : Int)), .long (lZ ((y : Nat) : Int)), .int (iZ (zs))] [] [(mz, .inr (10, [.int (iZ ((0 : Nat) : Int)), .ref sA, .ref sB, .int (iZ ((rn : Nat) : Int)), .ref gO, .ref xO, .ref yO, .int (iZ ((un : Nat) : Int)), .ref dO, .ref zO, .ref wO, .ref mO, .int (iZ ((mn : Nat) : Int)), .ref aO, .ref bO, .int (iZ ((kc : Nat) : Int)), .ref uO, .ref vO, .int (iZ ((hT : Nat) : Int)), .int (iZ ((tu : Nat) : Int)), .int (iZ ((td : Nat) : Int)), .int (iZ ((ta : Nat) : Int)), .int (iZ ((tb : Nat) : Int)), .int (iZ ((tt : Nat) : Int)), .int (iZ ((tk : Nat) : Int)), .int (iZ ((tj : Nat) : Int))])), (uO, .inl (cI, 10, .inl (LI U))), (vO, .inl (cI, 10, .inl (LI V)))] 0 0 ⟨hx, hb, hml, hown, hts⟩ (c_X11_told l D cI cJ ((x : Nat) : Int) y zs (by omega) (by omega) (by omega) (by omega) ⟨by omega, by omega⟩) (va_cwS 3 hts gX11_raised_X11_told rfl rfl rfl (by decide +kernel) ⟨(Nat.le_of_ble_eq_true rfl), (Nat.le_of_ble_eq_true rfl)⟩) hK hP hD hS hA [] [0, 1, 2] rfl rfl rfl rfl (by decide) rfl hl.1 rfl (Nat.le_of_ble_eq_true rfl) dX11_raised_315 ⟨(Nat.le_of_ble_eq_true rfl), (Nat.le_of_ble_eq_true rfl)⟩ (Nat.le_of_ble_eq_true rfl) (Nat.le_of_ble_eq_true rfl) (fun r_315 u9 H locs hw hP hD hS => ?_)
                    obtain u9 := u9
                    try dsimp only at hw
                    have hP : va_P D vwCl [(mz, .inr (10, [.int (iZ ((0 : Nat) : Int)), .ref sA, .ref sB, .int (iZ ((rn : Nat) : Int)), .ref gO, .ref xO, .ref yO, .int (iZ ((un : Nat) : Int)), .ref dO, .ref zO, .ref wO, .ref mO, .int (iZ ((mn : Nat) : Int)), .ref aO, .ref bO, .int (iZ ((kc : Nat) : Int)), .ref uO, .ref vO, .int (iZ ((hT : Nat) : Int)), .int (iZ ((tu : Nat) : Int)), .int (iZ ((td : Nat) : Int)), .int (iZ ((ta : Nat) : Int)), .int (iZ ((tb : Nat) : Int)), .int (iZ ((tt : Nat) : Int)), .int (iZ ((tk : Nat) : Int)), .int (iZ ((tj : Nat) : Int))])), (uO, .inl (cI, 10, .inl (LI U))), (vO, .inl (cI, 10, .inl (LI V)))] H := hP
                    have hD : va_D A [(mz, .inr (10, [.int (iZ ((0 : Nat) : Int)), .ref sA, .ref sB, .int (iZ ((rn : Nat) : Int)), .ref gO, .ref xO, .ref yO, .int (iZ ((un : Nat) : Int)), .ref dO, .ref zO, .ref wO, .ref mO, .int (iZ ((mn : Nat) : Int)), .ref aO, .ref bO, .int (iZ ((kc : Nat) : Int)), .ref uO, .ref vO, .int (iZ ((hT : Nat) : Int)), .int (iZ ((tu : Nat) : Int)), .int (iZ ((td : Nat) : Int)), .int (iZ ((ta : Nat) : Int)), .int (iZ ((tb : Nat) : Int)), .int (iZ ((tt : Nat) : Int)), .int (iZ ((tk : Nat) : Int)), .int (iZ ((tj : Nat) : Int))])), (uO, .inl (cI, 10, .inl (LI U))), (vO, .inl (cI, 10, .inl (LI V)))] := hD
                    exact hret _ (()) _ _ _ _ _ _ (Nat.le_of_ble_eq_true rfl) (Nat.le_of_ble_eq_true rfl) dX11_raised_318 (⟨fun _ _ => by have e9 : i = kc := (by omega); have hfs : fs = 0 := (by rcases (show fs = 0 ∨ fs = 1 by omega) with c | c; (· exact c); (· exact absurd (Nat.le_refl _) ((d5 c).1 j (by omega)))); have hfr := d6 hfs; rw [e9] at hfr; show _ = lZ (capR (rpr kc U V 1 j).1 (rpr kc U V 1 j).2 zs); have hrp : rpr kc U V 1 j = rgr kc U V (plc kc U V j) kc := rfl; rw [hrp, ← capR_congr (by omega) (by have h8 := rgr_b hc (plc kc U V j) kc (Nat.le_refl kc); exact h8.2.1) hfr]; rw [hw]; unfold capR; rw [if_neg (show ¬ y < x by omega)], fun h8 h9 => absurd (by omega) h9, fun h9 => absurd (by omega) h9⟩) hP hD hS
                  · refine zc_lconst (z := ((1 : Nat) : Int)) hx hb dX11_raised_306 (by decide) ?_
                    refine lv_goto (tgt := 318) hx hb dX11_raised_307 (by decide) ?_
                    exact hret _ (()) _ _ _ _ _ _ (Nat.le_of_ble_eq_true rfl) (Nat.le_of_ble_eq_true rfl) dX11_raised_318 (⟨fun _ _ => by have e9 : i = kc := (by omega); have hfs : fs = 0 := (by rcases (show fs = 0 ∨ fs = 1 by omega) with c | c; (· exact c); (· exact absurd (Nat.le_refl _) ((d5 c).1 j (by omega)))); have hfr := d6 hfs; rw [e9] at hfr; show _ = lZ (capR (rpr kc U V 1 j).1 (rpr kc U V 1 j).2 zs); have hrp : rpr kc U V 1 j = rgr kc U V (plc kc U V j) kc := rfl; rw [hrp, ← capR_congr (by omega) (by have h8 := rgr_b hc (plc kc U V j) kc (Nat.le_refl kc); exact h8.2.1) hfr]; unfold capR; rw [if_pos (by omega)]; rfl, fun h8 h9 => absurd (by omega) h9, fun h9 => absurd (by omega) h9⟩) hP hD hS
                · refine lv_iload_n hx hb dX11_raised_105 rfl (lv_at hl 5 rfl) ?_
                  refine zb_if_le (x := ((1 : Nat) : Int)) (tgt := 298) hx hb dX11_raised_106 (by decide) ⟨by decide, by decide⟩ (fun c_106 => ?_) (fun c_106 => ?_)
                  · exact absurd c_106 (by decide)
                  · have hgi := gr_b hc (show i < kc by omega)
                    have hci := hc.2 i (by omega)
                    have hpi := plc_le kc U V i
                    have hpj := plc_le kc U V j
                    have hp1 := plc_1 kc U V i
                    have m1 := rg_b (a := x) (b := V i) (by omega) (by omega)
                    have m2 := rg_b (a := (kc + 1 - plc kc U V i) * U i) (b := y) (by omega) (by omega)
                    have m3 := rg_b (a := kc * U i) (b := y) (by omega) (by omega)
                    have m4 := rg_b (a := x) (b := plc kc U V i * V i) (by omega) (by omega)
                    refine lv_aload_n hx hb dX11_raised_109 rfl (lv_at hl 4 rfl) ?_
                    refine lv_iload hx hb dX11_raised_110 (lv_at hl 0 rfl) ?_
                    refine ca_iV [.int (iZ ((i : Nat) : Int))] [] [] 0 0 ⟨hx, hb, hml, hown, hts⟩ (c_X11_placeOf l D cI cJ mz sA sB gO xO yO dO zO wO mO aO bO uO vO 0 rn un mn kc hT tu td ta tb tt tk tj U V hc i (by omega)) (cwV 1 hts gX11_raised_X11_placeOf rfl rfl rfl (by decide +kernel) ⟨(Nat.le_of_ble_eq_true rfl), (Nat.le_of_ble_eq_true rfl)⟩) hK hP hD hS hA [0, 1, 2] [] rfl rfl rfl rfl (by decide) 0 rfl rfl rfl hl.1 rfl (Nat.le_of_ble_eq_true rfl) dX11_raised_112 ⟨(Nat.le_of_ble_eq_true rfl), (Nat.le_of_ble_eq_true rfl)⟩ (Nat.le_of_ble_eq_true rfl) (Nat.le_of_ble_eq_true rfl) (fun r_112 u9 H locs hw hP hD hS => ?_)
                    obtain u9 := u9
                    try dsimp only at hw
                    have hP : va_P D vwCl [(mz, .inr (10, [.int (iZ ((0 : Nat) : Int)), .ref sA, .ref sB, .int (iZ ((rn : Nat) : Int)), .ref gO, .ref xO, .ref yO, .int (iZ ((un : Nat) : Int)), .ref dO, .ref zO, .ref wO, .ref mO, .int (iZ ((mn : Nat) : Int)), .ref aO, .ref bO, .int (iZ ((kc : Nat) : Int)), .ref uO, .ref vO, .int (iZ ((hT : Nat) : Int)), .int (iZ ((tu : Nat) : Int)), .int (iZ ((td : Nat) : Int)), .int (iZ ((ta : Nat) : Int)), .int (iZ ((tb : Nat) : Int)), .int (iZ ((tt : Nat) : Int)), .int (iZ ((tk : Nat) : Int)), .int (iZ ((tj : Nat) : Int))])), (uO, .inl (cI, 10, .inl (LI U))), (vO, .inl (cI, 10, .inl (LI V)))] H := hP
                    have hD : va_D A [(mz, .inr (10, [.int (iZ ((0 : Nat) : Int)), .ref sA, .ref sB, .int (iZ ((rn : Nat) : Int)), .ref gO, .ref xO, .ref yO, .int (iZ ((un : Nat) : Int)), .ref dO, .ref zO, .ref wO, .ref mO, .int (iZ ((mn : Nat) : Int)), .ref aO, .ref bO, .int (iZ ((kc : Nat) : Int)), .ref uO, .ref vO, .int (iZ ((hT : Nat) : Int)), .int (iZ ((tu : Nat) : Int)), .int (iZ ((td : Nat) : Int)), .int (iZ ((ta : Nat) : Int)), .int (iZ ((tb : Nat) : Int)), .int (iZ ((tt : Nat) : Int)), .int (iZ ((tk : Nat) : Int)), .int (iZ ((tj : Nat) : Int))])), (uO, .inl (cI, 10, .inl (LI U))), (vO, .inl (cI, 10, .inl (LI V)))] := hD
                    refine tp_i (y := (iZ ((plc kc U V i : Nat) : Int))) (hw) ?_
                    refine lv_istore (lv' := [(11, .int (iZ ((plc kc U V i : Nat) : Int))), (10, .int (iZ ((i : Nat) : Int))), (9, .int (iZ ((fs : Nat) : Int))), (7, .long (lZ ((y : Nat) : Int))), (5, .long (lZ ((x : Nat) : Int))), (0, .ref mz), (1, .int (iZ ((1 : Nat) : Int))), (2, .int (iZ ((j : Nat) : Int))), (3, .int (iZ (zs))), (4, .int (iZ ((plc kc U V j : Nat) : Int)))]) hx hb dX11_raised_115 hl (by decide) rfl (fun ls hl => ?_)
                    refine lv_iload_n hx hb dX11_raised_117 rfl (lv_at hl 6 rfl) ?_
                    refine zc_iconst (z := ((1 : Nat) : Int)) hx hb dX11_raised_118 (by decide) ?_
                    refine zb_icmp_ne (x := ((1 : Nat) : Int)) (y := ((1 : Nat) : Int)) (tgt := 132) hx hb dX11_raised_119 (by decide) ⟨by decide, by decide⟩ ⟨by decide, by decide⟩ (fun c_119 => ?_) (fun c_119 => ?_)
                    · exact absurd c_119 (by decide)
                    · refine lv_iload hx hb dX11_raised_122 (lv_at hl 0 rfl) ?_
                      refine lv_iload hx hb dX11_raised_124 (lv_at hl 9 rfl) ?_
                      refine zb_icmp_gt (x := ((plc kc U V i : Nat) : Int)) (y := ((plc kc U V j : Nat) : Int)) (tgt := 292) hx hb dX11_raised_126 (by decide) ⟨by omega, by omega⟩ ⟨by omega, by omega⟩ (fun c_126 => ?_) (fun c_126 => ?_)
                      · refine lv_iinc (v := iZ ((i + 1 : Nat) : Int)) (lv' := [(10, .int (iZ ((i + 1 : Nat) : Int))), (11, .int (iZ ((plc kc U V i : Nat) : Int))), (9, .int (iZ ((fs : Nat) : Int))), (7, .long (lZ ((y : Nat) : Int))), (5, .long (lZ ((x : Nat) : Int))), (0, .ref mz), (1, .int (iZ ((1 : Nat) : Int))), (2, .int (iZ ((j : Nat) : Int))), (3, .int (iZ (zs))), (4, .int (iZ ((plc kc U V j : Nat) : Int)))]) hx hb dX11_raised_292 hl (k := 1) rfl (zi_inc (by omega)) (by decide) rfl (fun ls hl => ?_)
                        refine lv_goto (tgt := 96) hx hb dX11_raised_295 (by decide) ?_
                        exact ih_96 (i + 1) x y fs (by omega) (rgI_skip hI (by omega)) (by omega) _ _ hP hD hS ls (lv_sub hl [0, 2, 3, 4, 5, 6, 7, 8, 9] rfl)
                      · refine lv_goto (tgt := 139) hx hb dX11_raised_129 (by decide) ?_
                        refine lv_iload_n hx hb dX11_raised_139 rfl (lv_at hl 6 rfl) ?_
                        refine zc_iconst (z := ((1 : Nat) : Int)) hx hb dX11_raised_140 (by decide) ?_
                        refine zb_icmp_ne (x := ((1 : Nat) : Int)) (y := ((1 : Nat) : Int)) (tgt := 167) hx hb dX11_raised_141 (by decide) ⟨by decide, by decide⟩ ⟨by decide, by decide⟩ (fun c_141 => ?_) (fun c_141 => ?_)
                        · exact absurd c_141 (by decide)
                        · refine lv_aload_n hx hb dX11_raised_144 rfl (lv_at hl 5 rfl) ?_
                          refine va_get (D := D) (ci := 10) (v := .int (iZ ((kc : Nat) : Int))) (C := RX11) (T := TX11) (N := 26) hx hb hts hh_1 hown hK hP 0 rfl rfl 15 (by decide) hh_4 (fun _ h9 => h9) rfl dX11_raised_145 ?_
                          refine z_i2l (z := ((kc : Nat) : Int)) hx hb dX11_raised_148 ⟨by omega, by omega⟩ rfl ?_
                          refine zc_lconst (z := ((1 : Nat) : Int)) hx hb dX11_raised_149 (by decide) ?_
                          refine zl_add (z := ((kc + 1 : Nat) : Int)) hx hb dX11_raised_150 (by omega) ?_
                          refine lv_iload hx hb dX11_raised_151 (lv_at hl 0 rfl) ?_
                          refine z_i2l (z := ((plc kc U V i : Nat) : Int)) hx hb dX11_raised_153 ⟨by omega, by omega⟩ rfl ?_
                          refine zl_sub (z := ((kc + 1 - plc kc U V i : Nat) : Int)) hx hb dX11_raised_154 (by omega) ?_
                          refine lv_aload_n hx hb dX11_raised_155 rfl (lv_at hl 5 rfl) ?_
                          refine va_get (D := D) (ci := 10) (v := .ref uO) (C := RX11) (T := TX11) (N := 26) hx hb hts hh_1 hown hK hP 0 rfl rfl 16 (by decide) hh_5 (fun _ h9 => h9) rfl dX11_raised_156 ?_
                          refine lv_iload hx hb dX11_raised_159 (lv_at hl 1 rfl) ?_
                          refine za_iald hx hb hK hP 1 0 rfl rfl (i) (v := ((U i : Nat) : Int)) (by decide) rfl (by omega) (rfl) dX11_raised_161 ?_
                          refine z_i2l (z := ((U i : Nat) : Int)) hx hb dX11_raised_162 ⟨by omega, by omega⟩ rfl ?_
                          refine zl_mul (z := (((kc + 1 - plc kc U V i) * (U i) : Nat) : Int)) hx hb dX11_raised_163 (Int.natCast_mul _ _).symm ?_
                          refine lv_goto (tgt := 181) hx hb dX11_raised_164 (by decide) ?_
                          refine lv_lstore (lv' := [(12, .long (lZ (((kc + 1 - plc kc U V i) * (U i) : Nat) : Int))), (11, .int (iZ ((plc kc U V i : Nat) : Int))), (10, .int (iZ ((i : Nat) : Int))), (9, .int (iZ ((fs : Nat) : Int))), (7, .long (lZ ((y : Nat) : Int))), (5, .long (lZ ((x : Nat) : Int))), (0, .ref mz), (1, .int (iZ ((1 : Nat) : Int))), (2, .int (iZ ((j : Nat) : Int))), (3, .int (iZ (zs))), (4, .int (iZ ((plc kc U V j : Nat) : Int)))]) hx hb dX11_raised_181 hl (by decide) rfl (fun ls hl => ?_)
                          refine lv_iload_n hx hb dX11_raised_183 rfl (lv_at hl 7 rfl) ?_
                          refine zc_iconst (z := ((1 : Nat) : Int)) hx hb dX11_raised_184 (by decide) ?_
                          refine zb_icmp_ne (x := ((1 : Nat) : Int)) (y := ((1 : Nat) : Int)) (tgt := 199) hx hb dX11_raised_185 (by decide) ⟨by decide, by decide⟩ ⟨by decide, by decide⟩ (fun c_185 => ?_) (fun c_185 => ?_)
                          · exact absurd c_185 (by decide)
                          · refine lv_aload_n hx hb dX11_raised_188 rfl (lv_at hl 6 rfl) ?_
                            refine va_get (D := D) (ci := 10) (v := .ref vO) (C := RX11) (T := TX11) (N := 26) hx hb hts hh_1 hown hK hP 0 rfl rfl 17 (by decide) hh_6 (fun _ h9 => h9) rfl dX11_raised_189 ?_
                            refine lv_iload hx hb dX11_raised_192 (lv_at hl 2 rfl) ?_
                            refine za_iald hx hb hK hP 2 0 rfl rfl (i) (v := ((V i : Nat) : Int)) (by decide) rfl (by omega) (rfl) dX11_raised_194 ?_
                            refine z_i2l (z := ((V i : Nat) : Int)) hx hb dX11_raised_195 ⟨by omega, by omega⟩ rfl ?_
                            refine lv_goto (tgt := 211) hx hb dX11_raised_196 (by decide) ?_
                            refine lv_lstore (lv' := [(14, .long (lZ ((V i : Nat) : Int))), (12, .long (lZ (((kc + 1 - plc kc U V i) * (U i) : Nat) : Int))), (11, .int (iZ ((plc kc U V i : Nat) : Int))), (10, .int (iZ ((i : Nat) : Int))), (9, .int (iZ ((fs : Nat) : Int))), (7, .long (lZ ((y : Nat) : Int))), (5, .long (lZ ((x : Nat) : Int))), (0, .ref mz), (1, .int (iZ ((1 : Nat) : Int))), (2, .int (iZ ((j : Nat) : Int))), (3, .int (iZ (zs))), (4, .int (iZ ((plc kc U V j : Nat) : Int)))]) hx hb dX11_raised_211 hl (by decide) rfl (fun ls hl => ?_)
                            refine lv_iload hx hb dX11_raised_213 (lv_at hl 4 rfl) ?_
                            refine zb_if_ne (x := ((fs : Nat) : Int)) (tgt := 254) hx hb dX11_raised_215 (by decide) ⟨by omega, by omega⟩ (fun c_215 => ?_) (fun c_215 => ?_)
                            · refine zc_iconst (z := ((1 : Nat) : Int)) hx hb dX11_raised_254 (by decide) ?_
                              refine lv_goto (tgt := 259) hx hb dX11_raised_255 (by decide) ?_
                              refine lv_istore (lv' := [(16, .int (iZ ((1 : Nat) : Int))), (14, .long (lZ ((V i : Nat) : Int))), (12, .long (lZ (((kc + 1 - plc kc U V i) * (U i) : Nat) : Int))), (11, .int (iZ ((plc kc U V i : Nat) : Int))), (10, .int (iZ ((i : Nat) : Int))), (9, .int (iZ ((fs : Nat) : Int))), (7, .long (lZ ((y : Nat) : Int))), (5, .long (lZ ((x : Nat) : Int))), (0, .ref mz), (1, .int (iZ ((1 : Nat) : Int))), (2, .int (iZ ((j : Nat) : Int))), (3, .int (iZ (zs))), (4, .int (iZ ((plc kc U V j : Nat) : Int)))]) hx hb dX11_raised_259 hl (by decide) rfl (fun ls hl => ?_)
                              refine lv_iload hx hb dX11_raised_261 (lv_at hl 0 rfl) ?_
                              refine zb_if_eq (x := ((1 : Nat) : Int)) (tgt := 271) hx hb dX11_raised_263 (by decide) ⟨by decide, by decide⟩ (fun c_263 => ?_) (fun c_263 => ?_)
                              · exact absurd c_263 (by decide)
                              · refine lv_lload hx hb dX11_raised_266 (lv_at hl 2 rfl) ?_
                                refine lv_goto (tgt := 273) hx hb dX11_raised_268 (by decide) ?_
                                refine lv_lstore (lv' := [(5, .long (lZ (((kc + 1 - plc kc U V i) * (U i) : Nat) : Int))), (16, .int (iZ ((1 : Nat) : Int))), (14, .long (lZ ((V i : Nat) : Int))), (12, .long (lZ (((kc + 1 - plc kc U V i) * (U i) : Nat) : Int))), (11, .int (iZ ((plc kc U V i : Nat) : Int))), (10, .int (iZ ((i : Nat) : Int))), (9, .int (iZ ((fs : Nat) : Int))), (7, .long (lZ ((y : Nat) : Int))), (0, .ref mz), (1, .int (iZ ((1 : Nat) : Int))), (2, .int (iZ ((j : Nat) : Int))), (3, .int (iZ (zs))), (4, .int (iZ ((plc kc U V j : Nat) : Int)))]) hx hb dX11_raised_273 hl (by decide) rfl (fun ls hl => ?_)
                                refine lv_iload hx hb dX11_raised_275 (lv_at hl 1 rfl) ?_
                                refine zb_if_eq (x := ((1 : Nat) : Int)) (tgt := 285) hx hb dX11_raised_277 (by decide) ⟨by decide, by decide⟩ (fun c_277 => ?_) (fun c_277 => ?_)
                                · exact absurd c_277 (by decide)
                                · refine lv_lload hx hb dX11_raised_280 (lv_at hl 2 rfl) ?_
                                  refine lv_goto (tgt := 287) hx hb dX11_raised_282 (by decide) ?_
                                  refine lv_lstore (lv' := [(7, .long (lZ ((V i : Nat) : Int))), (5, .long (lZ (((kc + 1 - plc kc U V i) * (U i) : Nat) : Int))), (16, .int (iZ ((1 : Nat) : Int))), (14, .long (lZ ((V i : Nat) : Int))), (12, .long (lZ (((kc + 1 - plc kc U V i) * (U i) : Nat) : Int))), (11, .int (iZ ((plc kc U V i : Nat) : Int))), (10, .int (iZ ((i : Nat) : Int))), (9, .int (iZ ((fs : Nat) : Int))), (0, .ref mz), (1, .int (iZ ((1 : Nat) : Int))), (2, .int (iZ ((j : Nat) : Int))), (3, .int (iZ (zs))), (4, .int (iZ ((plc kc U V j : Nat) : Int)))]) hx hb dX11_raised_287 hl (by decide) rfl (fun ls hl => ?_)
                                  refine zc_iconst (z := ((0 : Nat) : Int)) hx hb dX11_raised_289 (by decide) ?_
                                  refine lv_istore (lv' := [(9, .int (iZ ((0 : Nat) : Int))), (7, .long (lZ ((V i : Nat) : Int))), (5, .long (lZ (((kc + 1 - plc kc U V i) * (U i) : Nat) : Int))), (16, .int (iZ ((1 : Nat) : Int))), (14, .long (lZ ((V i : Nat) : Int))), (12, .long (lZ (((kc + 1 - plc kc U V i) * (U i) : Nat) : Int))), (11, .int (iZ ((plc kc U V i : Nat) : Int))), (10, .int (iZ ((i : Nat) : Int))), (0, .ref mz), (1, .int (iZ ((1 : Nat) : Int))), (2, .int (iZ ((j : Nat) : Int))), (3, .int (iZ (zs))), (4, .int (iZ ((plc kc U V j : Nat) : Int)))]) hx hb dX11_raised_290 hl (by decide) rfl (fun ls hl => ?_)
                                  refine lv_iinc (v := iZ ((i + 1 : Nat) : Int)) (lv' := [(10, .int (iZ ((i + 1 : Nat) : Int))), (9, .int (iZ ((0 : Nat) : Int))), (7, .long (lZ ((V i : Nat) : Int))), (5, .long (lZ (((kc + 1 - plc kc U V i) * (U i) : Nat) : Int))), (16, .int (iZ ((1 : Nat) : Int))), (14, .long (lZ ((V i : Nat) : Int))), (12, .long (lZ (((kc + 1 - plc kc U V i) * (U i) : Nat) : Int))), (11, .int (iZ ((plc kc U V i : Nat) : Int))), (0, .ref mz), (1, .int (iZ ((1 : Nat) : Int))), (2, .int (iZ ((j : Nat) : Int))), (3, .int (iZ (zs))), (4, .int (iZ ((plc kc U V j : Nat) : Int)))]) hx hb dX11_raised_292 hl (k := 7) rfl (zi_inc (by omega)) (by decide) rfl (fun ls hl => ?_)
                                  refine lv_goto (tgt := 96) hx hb dX11_raised_295 (by decide) ?_
                                  exact ih_96 (i + 1) ((kc + 1 - plc kc U V i) * U i) (V i) 0 (by omega) (by rcases (show fs = 1 ∨ fs = 0 by omega) with e8 | e8; (· rw [e8] at hI; exact rgI_first hc (by omega) hI (by omega)); (· rw [e8] at hI; exact rgI_take hc (by omega) hI (by omega) (by omega))) (by omega) _ _ hP hD hS ls (lv_sub hl [0, 1, 2, 3, 8, 9, 10, 11, 12] rfl)
                            · refine lv_iload_n hx hb dX11_raised_218 rfl (lv_at hl 8 rfl) ?_
                              refine zc_iconst (z := ((1 : Nat) : Int)) hx hb dX11_raised_219 (by decide) ?_
                              refine zb_icmp_ne (x := ((1 : Nat) : Int)) (y := ((1 : Nat) : Int)) (tgt := 240) hx hb dX11_raised_220 (by decide) ⟨by decide, by decide⟩ ⟨by decide, by decide⟩ (fun c_220 => ?_) (fun c_220 => ?_)
                              · exact absurd c_220 (by decide)
                              · refine lv_lload hx hb dX11_raised_223 (lv_at hl 1 rfl) ?_
                                refine lv_lload hx hb dX11_raised_225 (lv_at hl 5 rfl) ?_
                                refine zl_mul (z := ((((kc + 1 - plc kc U V i) * (U i)) * y : Nat) : Int)) hx hb dX11_raised_227 (Int.natCast_mul _ _).symm ?_
                                refine lv_lload hx hb dX11_raised_228 (lv_at hl 6 rfl) ?_
                                refine lv_lload hx hb dX11_raised_230 (lv_at hl 0 rfl) ?_
                                refine zl_mul (z := ((x * (V i) : Nat) : Int)) hx hb dX11_raised_232 (Int.natCast_mul _ _).symm ?_
                                refine zb_l_le (x := ((((kc + 1 - plc kc U V i) * (U i)) * y : Nat) : Int)) (y := ((x * (V i) : Nat) : Int)) (tgt := 258) hx hb dX11_raised_233 dX11_raised_234 (by decide) ⟨by omega, by omega⟩ ⟨by omega, by omega⟩ (fun c_233 => ?_) (fun c_233 => ?_)
                                · refine zc_iconst (z := ((0 : Nat) : Int)) hx hb dX11_raised_258 (by decide) ?_
                                  refine lv_istore (lv' := [(16, .int (iZ ((0 : Nat) : Int))), (14, .long (lZ ((V i : Nat) : Int))), (12, .long (lZ (((kc + 1 - plc kc U V i) * (U i) : Nat) : Int))), (11, .int (iZ ((plc kc U V i : Nat) : Int))), (10, .int (iZ ((i : Nat) : Int))), (9, .int (iZ ((fs : Nat) : Int))), (7, .long (lZ ((y : Nat) : Int))), (5, .long (lZ ((x : Nat) : Int))), (0, .ref mz), (1, .int (iZ ((1 : Nat) : Int))), (2, .int (iZ ((j : Nat) : Int))), (3, .int (iZ (zs))), (4, .int (iZ ((plc kc U V j : Nat) : Int)))]) hx hb dX11_raised_259 hl (by decide) rfl (fun ls hl => ?_)
                                  refine lv_iload hx hb dX11_raised_261 (lv_at hl 0 rfl) ?_
                                  refine zb_if_eq (x := ((0 : Nat) : Int)) (tgt := 271) hx hb dX11_raised_263 (by decide) ⟨by decide, by decide⟩ (fun c_263 => ?_) (fun c_263 => ?_)
                                  · refine lv_lload hx hb dX11_raised_271 (lv_at hl 7 rfl) ?_
                                    refine lv_lstore (lv' := [(5, .long (lZ ((x : Nat) : Int))), (16, .int (iZ ((0 : Nat) : Int))), (14, .long (lZ ((V i : Nat) : Int))), (12, .long (lZ (((kc + 1 - plc kc U V i) * (U i) : Nat) : Int))), (11, .int (iZ ((plc kc U V i : Nat) : Int))), (10, .int (iZ ((i : Nat) : Int))), (9, .int (iZ ((fs : Nat) : Int))), (7, .long (lZ ((y : Nat) : Int))), (0, .ref mz), (1, .int (iZ ((1 : Nat) : Int))), (2, .int (iZ ((j : Nat) : Int))), (3, .int (iZ (zs))), (4, .int (iZ ((plc kc U V j : Nat) : Int)))]) hx hb dX11_raised_273 hl (by decide) rfl (fun ls hl => ?_)
                                    refine lv_iload hx hb dX11_raised_275 (lv_at hl 1 rfl) ?_
                                    refine zb_if_eq (x := ((0 : Nat) : Int)) (tgt := 285) hx hb dX11_raised_277 (by decide) ⟨by decide, by decide⟩ (fun c_277 => ?_) (fun c_277 => ?_)
                                    · refine lv_lload hx hb dX11_raised_285 (lv_at hl 7 rfl) ?_
                                      refine lv_lstore (lv' := [(7, .long (lZ ((y : Nat) : Int))), (5, .long (lZ ((x : Nat) : Int))), (16, .int (iZ ((0 : Nat) : Int))), (14, .long (lZ ((V i : Nat) : Int))), (12, .long (lZ (((kc + 1 - plc kc U V i) * (U i) : Nat) : Int))), (11, .int (iZ ((plc kc U V i : Nat) : Int))), (10, .int (iZ ((i : Nat) : Int))), (9, .int (iZ ((fs : Nat) : Int))), (0, .ref mz), (1, .int (iZ ((1 : Nat) : Int))), (2, .int (iZ ((j : Nat) : Int))), (3, .int (iZ (zs))), (4, .int (iZ ((plc kc U V j : Nat) : Int)))]) hx hb dX11_raised_287 hl (by decide) rfl (fun ls hl => ?_)
                                      refine zc_iconst (z := ((0 : Nat) : Int)) hx hb dX11_raised_289 (by decide) ?_
                                      refine lv_istore (lv' := [(9, .int (iZ ((0 : Nat) : Int))), (7, .long (lZ ((y : Nat) : Int))), (5, .long (lZ ((x : Nat) : Int))), (16, .int (iZ ((0 : Nat) : Int))), (14, .long (lZ ((V i : Nat) : Int))), (12, .long (lZ (((kc + 1 - plc kc U V i) * (U i) : Nat) : Int))), (11, .int (iZ ((plc kc U V i : Nat) : Int))), (10, .int (iZ ((i : Nat) : Int))), (0, .ref mz), (1, .int (iZ ((1 : Nat) : Int))), (2, .int (iZ ((j : Nat) : Int))), (3, .int (iZ (zs))), (4, .int (iZ ((plc kc U V j : Nat) : Int)))]) hx hb dX11_raised_290 hl (by decide) rfl (fun ls hl => ?_)
                                      refine lv_iinc (v := iZ ((i + 1 : Nat) : Int)) (lv' := [(10, .int (iZ ((i + 1 : Nat) : Int))), (9, .int (iZ ((0 : Nat) : Int))), (7, .long (lZ ((y : Nat) : Int))), (5, .long (lZ ((x : Nat) : Int))), (16, .int (iZ ((0 : Nat) : Int))), (14, .long (lZ ((V i : Nat) : Int))), (12, .long (lZ (((kc + 1 - plc kc U V i) * (U i) : Nat) : Int))), (11, .int (iZ ((plc kc U V i : Nat) : Int))), (0, .ref mz), (1, .int (iZ ((1 : Nat) : Int))), (2, .int (iZ ((j : Nat) : Int))), (3, .int (iZ (zs))), (4, .int (iZ ((plc kc U V j : Nat) : Int)))]) hx hb dX11_raised_292 hl (k := 7) rfl (zi_inc (by omega)) (by decide) rfl (fun ls hl => ?_)
                                      refine lv_goto (tgt := 96) hx hb dX11_raised_295 (by decide) ?_
                                      exact ih_96 (i + 1) x y 0 (by omega) (by have e8 : fs = 0 := (by omega); rw [e8] at hI; exact rgI_keep hc (by omega) hI (by omega)) (by omega) _ _ hP hD hS ls (lv_sub hl [0, 1, 2, 3, 8, 9, 10, 11, 12] rfl)
                                    · exact absurd c_277 (by decide)
                                  · exact absurd c_263 (by decide)
                                · refine lv_goto (tgt := 254) hx hb dX11_raised_237 (by decide) ?_
                                  refine zc_iconst (z := ((1 : Nat) : Int)) hx hb dX11_raised_254 (by decide) ?_
                                  refine lv_goto (tgt := 259) hx hb dX11_raised_255 (by decide) ?_
                                  refine lv_istore (lv' := [(16, .int (iZ ((1 : Nat) : Int))), (14, .long (lZ ((V i : Nat) : Int))), (12, .long (lZ (((kc + 1 - plc kc U V i) * (U i) : Nat) : Int))), (11, .int (iZ ((plc kc U V i : Nat) : Int))), (10, .int (iZ ((i : Nat) : Int))), (9, .int (iZ ((fs : Nat) : Int))), (7, .long (lZ ((y : Nat) : Int))), (5, .long (lZ ((x : Nat) : Int))), (0, .ref mz), (1, .int (iZ ((1 : Nat) : Int))), (2, .int (iZ ((j : Nat) : Int))), (3, .int (iZ (zs))), (4, .int (iZ ((plc kc U V j : Nat) : Int)))]) hx hb dX11_raised_259 hl (by decide) rfl (fun ls hl => ?_)
                                  refine lv_iload hx hb dX11_raised_261 (lv_at hl 0 rfl) ?_
                                  refine zb_if_eq (x := ((1 : Nat) : Int)) (tgt := 271) hx hb dX11_raised_263 (by decide) ⟨by decide, by decide⟩ (fun c_263 => ?_) (fun c_263 => ?_)
                                  · exact absurd c_263 (by decide)
                                  · refine lv_lload hx hb dX11_raised_266 (lv_at hl 2 rfl) ?_
                                    refine lv_goto (tgt := 273) hx hb dX11_raised_268 (by decide) ?_
                                    refine lv_lstore (lv' := [(5, .long (lZ (((kc + 1 - plc kc U V i) * (U i) : Nat) : Int))), (16, .int (iZ ((1 : Nat) : Int))), (14, .long (lZ ((V i : Nat) : Int))), (12, .long (lZ (((kc + 1 - plc kc U V i) * (U i) : Nat) : Int))), (11, .int (iZ ((plc kc U V i : Nat) : Int))), (10, .int (iZ ((i : Nat) : Int))), (9, .int (iZ ((fs : Nat) : Int))), (7, .long (lZ ((y : Nat) : Int))), (0, .ref mz), (1, .int (iZ ((1 : Nat) : Int))), (2, .int (iZ ((j : Nat) : Int))), (3, .int (iZ (zs))), (4, .int (iZ ((plc kc U V j : Nat) : Int)))]) hx hb dX11_raised_273 hl (by decide) rfl (fun ls hl => ?_)
                                    refine lv_iload hx hb dX11_raised_275 (lv_at hl 1 rfl) ?_
                                    refine zb_if_eq (x := ((1 : Nat) : Int)) (tgt := 285) hx hb dX11_raised_277 (by decide) ⟨by decide, by decide⟩ (fun c_277 => ?_) (fun c_277 => ?_)
                                    · exact absurd c_277 (by decide)
                                    · refine lv_lload hx hb dX11_raised_280 (lv_at hl 2 rfl) ?_
                                      refine lv_goto (tgt := 287) hx hb dX11_raised_282 (by decide) ?_
                                      refine lv_lstore (lv' := [(7, .long (lZ ((V i : Nat) : Int))), (5, .long (lZ (((kc + 1 - plc kc U V i) * (U i) : Nat) : Int))), (16, .int (iZ ((1 : Nat) : Int))), (14, .long (lZ ((V i : Nat) : Int))), (12, .long (lZ (((kc + 1 - plc kc U V i) * (U i) : Nat) : Int))), (11, .int (iZ ((plc kc U V i : Nat) : Int))), (10, .int (iZ ((i : Nat) : Int))), (9, .int (iZ ((fs : Nat) : Int))), (0, .ref mz), (1, .int (iZ ((1 : Nat) : Int))), (2, .int (iZ ((j : Nat) : Int))), (3, .int (iZ (zs))), (4, .int (iZ ((plc kc U V j : Nat) : Int)))]) hx hb dX11_raised_287 hl (by decide) rfl (fun ls hl => ?_)
                                      refine zc_iconst (z := ((0 : Nat) : Int)) hx hb dX11_raised_289 (by decide) ?_
                                      refine lv_istore (lv' := [(9, .int (iZ ((0 : Nat) : Int))), (7, .long (lZ ((V i : Nat) : Int))), (5, .long (lZ (((kc + 1 - plc kc U V i) * (U i) : Nat) : Int))), (16, .int (iZ ((1 : Nat) : Int))), (14, .long (lZ ((V i : Nat) : Int))), (12, .long (lZ (((kc + 1 - plc kc U V i) * (U i) : Nat) : Int))), (11, .int (iZ ((plc kc U V i : Nat) : Int))), (10, .int (iZ ((i : Nat) : Int))), (0, .ref mz), (1, .int (iZ ((1 : Nat) : Int))), (2, .int (iZ ((j : Nat) : Int))), (3, .int (iZ (zs))), (4, .int (iZ ((plc kc U V j : Nat) : Int)))]) hx hb dX11_raised_290 hl (by decide) rfl (fun ls hl => ?_)
                                      refine lv_iinc (v := iZ ((i + 1 : Nat) : Int)) (lv' := [(10, .int (iZ ((i + 1 : Nat) : Int))), (9, .int (iZ ((0 : Nat) : Int))), (7, .long (lZ ((V i : Nat) : Int))), (5, .long (lZ (((kc + 1 - plc kc U V i) * (U i) : Nat) : Int))), (16, .int (iZ ((1 : Nat) : Int))), (14, .long (lZ ((V i : Nat) : Int))), (12, .long (lZ (((kc + 1 - plc kc U V i) * (U i) : Nat) : Int))), (11, .int (iZ ((plc kc U V i : Nat) : Int))), (0, .ref mz), (1, .int (iZ ((1 : Nat) : Int))), (2, .int (iZ ((j : Nat) : Int))), (3, .int (iZ (zs))), (4, .int (iZ ((plc kc U V j : Nat) : Int)))]) hx hb dX11_raised_292 hl (k := 7) rfl (zi_inc (by omega)) (by decide) rfl (fun ls hl => ?_)
                                      refine lv_goto (tgt := 96) hx hb dX11_raised_295 (by decide) ?_
                                      exact ih_96 (i + 1) ((kc + 1 - plc kc U V i) * U i) (V i) 0 (by omega) (by rcases (show fs = 1 ∨ fs = 0 by omega) with e8 | e8; (· rw [e8] at hI; exact rgI_first hc (by omega) hI (by omega)); (· rw [e8] at hI; exact rgI_take hc (by omega) hI (by omega) (by omega))) (by omega) _ _ hP hD hS ls (lv_sub hl [0, 1, 2, 3, 8, 9, 10, 11, 12] rfl)
            exact pt_96 (kc + 1) 0 (kc * U j) (V j) 1 (by omega) ⟨by omega, by omega, by omega, by decide, fun _ => ⟨fun j9 h9 => by omega, rfl⟩, fun h9 => absurd h9 (by decide)⟩ (by omega) _ _ hP hD hS ls (lv_sub hl [0, 1, 2, 3, 5, 6, 7, 8, 4] rfl)
        · refine lv_aload_n hx hb dX11_raised_51 rfl (lv_at hl 0 rfl) ?_
          refine lv_iload_n hx hb dX11_raised_52 rfl (lv_at hl 2 rfl) ?_
          refine ca_iV [.int (iZ ((j : Nat) : Int))] [] [] 0 0 ⟨hx, hb, hml, hown, hts⟩ (c_X11_placeOf l D cI cJ mz sA sB gO xO yO dO zO wO mO aO bO uO vO 0 rn un mn kc hT tu td ta tb tt tk tj U V hc j (by omega)) (cwV 1 hts gX11_raised_X11_placeOf rfl rfl rfl (by decide +kernel) ⟨(Nat.le_of_ble_eq_true rfl), (Nat.le_of_ble_eq_true rfl)⟩) hK hP hD hS hA [0, 1, 2] [] rfl rfl rfl rfl (by decide) 0 rfl rfl rfl hl.1 rfl (Nat.le_of_ble_eq_true rfl) dX11_raised_53 ⟨(Nat.le_of_ble_eq_true rfl), (Nat.le_of_ble_eq_true rfl)⟩ (Nat.le_of_ble_eq_true rfl) (Nat.le_of_ble_eq_true rfl) (fun r_53 u9 H locs hw hP hD hS => ?_)
          obtain u9 := u9
          try dsimp only at hw
          have hP : va_P D vwCl [(mz, .inr (10, [.int (iZ ((0 : Nat) : Int)), .ref sA, .ref sB, .int (iZ ((rn : Nat) : Int)), .ref gO, .ref xO, .ref yO, .int (iZ ((un : Nat) : Int)), .ref dO, .ref zO, .ref wO, .ref mO, .int (iZ ((mn : Nat) : Int)), .ref aO, .ref bO, .int (iZ ((kc : Nat) : Int)), .ref uO, .ref vO, .int (iZ ((hT : Nat) : Int)), .int (iZ ((tu : Nat) : Int)), .int (iZ ((td : Nat) : Int)), .int (iZ ((ta : Nat) : Int)), .int (iZ ((tb : Nat) : Int)), .int (iZ ((tt : Nat) : Int)), .int (iZ ((tk : Nat) : Int)), .int (iZ ((tj : Nat) : Int))])), (uO, .inl (cI, 10, .inl (LI U))), (vO, .inl (cI, 10, .inl (LI V)))] H := hP
          have hD : va_D A [(mz, .inr (10, [.int (iZ ((0 : Nat) : Int)), .ref sA, .ref sB, .int (iZ ((rn : Nat) : Int)), .ref gO, .ref xO, .ref yO, .int (iZ ((un : Nat) : Int)), .ref dO, .ref zO, .ref wO, .ref mO, .int (iZ ((mn : Nat) : Int)), .ref aO, .ref bO, .int (iZ ((kc : Nat) : Int)), .ref uO, .ref vO, .int (iZ ((hT : Nat) : Int)), .int (iZ ((tu : Nat) : Int)), .int (iZ ((td : Nat) : Int)), .int (iZ ((ta : Nat) : Int)), .int (iZ ((tb : Nat) : Int)), .int (iZ ((tt : Nat) : Int)), .int (iZ ((tk : Nat) : Int)), .int (iZ ((tj : Nat) : Int))])), (uO, .inl (cI, 10, .inl (LI U))), (vO, .inl (cI, 10, .inl (LI V)))] := hD
          refine tp_i (y := (iZ ((plc kc U V j : Nat) : Int))) (hw) ?_
          refine lv_istore (lv' := [(4, .int (iZ ((plc kc U V j : Nat) : Int))), (0, .ref mz), (1, .int (iZ ((2 : Nat) : Int))), (2, .int (iZ ((j : Nat) : Int))), (3, .int (iZ (zs)))]) hx hb dX11_raised_56 hl (by decide) rfl (fun ls hl => ?_)
          refine lv_aload_n hx hb dX11_raised_58 rfl (lv_at hl 1 rfl) ?_
          refine va_get (D := D) (ci := 10) (v := .int (iZ ((kc : Nat) : Int))) (C := RX11) (T := TX11) (N := 26) hx hb hts hh_1 hown hK hP 0 rfl rfl 15 (by decide) hh_4 (fun _ h9 => h9) rfl dX11_raised_59 ?_
          refine z_i2l (z := ((kc : Nat) : Int)) hx hb dX11_raised_62 ⟨by omega, by omega⟩ rfl ?_
          refine lv_aload_n hx hb dX11_raised_63 rfl (lv_at hl 1 rfl) ?_
          refine va_get (D := D) (ci := 10) (v := .ref uO) (C := RX11) (T := TX11) (N := 26) hx hb hts hh_1 hown hK hP 0 rfl rfl 16 (by decide) hh_5 (fun _ h9 => h9) rfl dX11_raised_64 ?_
          refine lv_iload_n hx hb dX11_raised_67 rfl (lv_at hl 3 rfl) ?_
          refine za_iald hx hb hK hP 1 0 rfl rfl (j) (v := ((U j : Nat) : Int)) (by decide) rfl (by omega) (rfl) dX11_raised_68 ?_
          refine z_i2l (z := ((U j : Nat) : Int)) hx hb dX11_raised_69 ⟨by omega, by omega⟩ rfl ?_
          refine zl_mul (z := ((kc * (U j) : Nat) : Int)) hx hb dX11_raised_70 (Int.natCast_mul _ _).symm ?_
          refine lv_lstore (lv' := [(5, .long (lZ ((kc * (U j) : Nat) : Int))), (4, .int (iZ ((plc kc U V j : Nat) : Int))), (0, .ref mz), (1, .int (iZ ((2 : Nat) : Int))), (2, .int (iZ ((j : Nat) : Int))), (3, .int (iZ (zs)))]) hx hb dX11_raised_71 hl (by decide) rfl (fun ls hl => ?_)
          refine lv_aload_n hx hb dX11_raised_73 rfl (lv_at hl 2 rfl) ?_
          refine va_get (D := D) (ci := 10) (v := .ref vO) (C := RX11) (T := TX11) (N := 26) hx hb hts hh_1 hown hK hP 0 rfl rfl 17 (by decide) hh_6 (fun _ h9 => h9) rfl dX11_raised_74 ?_
          refine lv_iload_n hx hb dX11_raised_77 rfl (lv_at hl 4 rfl) ?_
          refine za_iald hx hb hK hP 2 0 rfl rfl (j) (v := ((V j : Nat) : Int)) (by decide) rfl (by omega) (rfl) dX11_raised_78 ?_
          refine z_i2l (z := ((V j : Nat) : Int)) hx hb dX11_raised_79 ⟨by omega, by omega⟩ rfl ?_
          refine lv_lstore (lv' := [(7, .long (lZ ((V j : Nat) : Int))), (5, .long (lZ ((kc * (U j) : Nat) : Int))), (4, .int (iZ ((plc kc U V j : Nat) : Int))), (0, .ref mz), (1, .int (iZ ((2 : Nat) : Int))), (2, .int (iZ ((j : Nat) : Int))), (3, .int (iZ (zs)))]) hx hb dX11_raised_80 hl (by decide) rfl (fun ls hl => ?_)
          refine lv_iload_n hx hb dX11_raised_82 rfl (lv_at hl 4 rfl) ?_
          refine zb_if_le (x := ((2 : Nat) : Int)) (tgt := 90) hx hb dX11_raised_83 (by decide) ⟨by decide, by decide⟩ (fun c_83 => ?_) (fun c_83 => ?_)
          · exact absurd c_83 (by decide)
          · refine zc_iconst (z := ((1 : Nat) : Int)) hx hb dX11_raised_86 (by decide) ?_
            refine lv_goto (tgt := 91) hx hb dX11_raised_87 (by decide) ?_
            refine lv_istore (lv' := [(9, .int (iZ ((1 : Nat) : Int))), (7, .long (lZ ((V j : Nat) : Int))), (5, .long (lZ ((kc * (U j) : Nat) : Int))), (4, .int (iZ ((plc kc U V j : Nat) : Int))), (0, .ref mz), (1, .int (iZ ((2 : Nat) : Int))), (2, .int (iZ ((j : Nat) : Int))), (3, .int (iZ (zs)))]) hx hb dX11_raised_91 hl (by decide) rfl (fun ls hl => ?_)
            refine zc_iconst (z := ((0 : Nat) : Int)) hx hb dX11_raised_93 (by decide) ?_
            refine lv_istore (lv' := [(10, .int (iZ ((0 : Nat) : Int))), (9, .int (iZ ((1 : Nat) : Int))), (7, .long (lZ ((V j : Nat) : Int))), (5, .long (lZ ((kc * (U j) : Nat) : Int))), (4, .int (iZ ((plc kc U V j : Nat) : Int))), (0, .ref mz), (1, .int (iZ ((2 : Nat) : Int))), (2, .int (iZ ((j : Nat) : Int))), (3, .int (iZ (zs)))]) hx hb dX11_raised_94 hl (by decide) rfl (fun ls hl => ?_)
            have pt_96 : ∀ f : Nat, ∀ (i x y fs : Nat), (hi : i ≤ kc) → (hI : rlI kc U V (plc kc U V j) i x y fs) → (hf : kc < i + f) → (H : Heap) → (locs : List Loc) → va_P D vwCl [(mz, .inr (10, [.int (iZ ((0 : Nat) : Int)), .ref sA, .ref sB, .int (iZ ((rn : Nat) : Int)), .ref gO, .ref xO, .ref yO, .int (iZ ((un : Nat) : Int)), .ref dO, .ref zO, .ref wO, .ref mO, .int (iZ ((mn : Nat) : Int)), .ref aO, .ref bO, .int (iZ ((kc : Nat) : Int)), .ref uO, .ref vO, .int (iZ ((hT : Nat) : Int)), .int (iZ ((tu : Nat) : Int)), .int (iZ ((td : Nat) : Int)), .int (iZ ((ta : Nat) : Int)), .int (iZ ((tb : Nat) : Int)), .int (iZ ((tt : Nat) : Int)), .int (iZ ((tk : Nat) : Int)), .int (iZ ((tj : Nat) : Int))])), (uO, .inl (cI, 10, .inl (LI U))), (vO, .inl (cI, 10, .inl (LI V)))] H → va_D A [(mz, .inr (10, [.int (iZ ((0 : Nat) : Int)), .ref sA, .ref sB, .int (iZ ((rn : Nat) : Int)), .ref gO, .ref xO, .ref yO, .int (iZ ((un : Nat) : Int)), .ref dO, .ref zO, .ref wO, .ref mO, .int (iZ ((mn : Nat) : Int)), .ref aO, .ref bO, .int (iZ ((kc : Nat) : Int)), .ref uO, .ref vO, .int (iZ ((hT : Nat) : Int)), .int (iZ ((tu : Nat) : Int)), .int (iZ ((td : Nat) : Int)), .int (iZ ((ta : Nat) : Int)), .int (iZ ((tb : Nat) : Int)), .int (iZ ((tt : Nat) : Int)), .int (iZ ((tk : Nat) : Int)), .int (iZ ((tj : Nat) : Int))])), (uO, .inl (cI, 10, .inl (LI U))), (vO, .inl (cI, 10, .inl (LI V)))] → va_S A s.heap H locs → (ls : Array Slot) → lv_has ls 17 [(10, .int (iZ ((i : Nat) : Int))), (9, .int (iZ ((fs : Nat) : Int))), (7, .long (lZ ((y : Nat) : Int))), (5, .long (lZ ((x : Nat) : Int))), (0, .ref mz), (1, .int (iZ ((2 : Nat) : Int))), (2, .int (iZ ((j : Nat) : Int))), (3, .int (iZ (zs))), (4, .int (iZ ((plc kc U V j : Nat) : Int)))] → W p l e rmX11_raised s m args below meth c H locs 0 0 Q (F0 m 96 ls []) := by
              intro f
              induction f with
              | zero =>
                intro i x y fs hi hI hf H locs hP hD hS ls hl
                exfalso; omega
              | succ f ih_96 =>
                intro i x y fs hi hI hf H locs hP hD hS ls hl
                obtain ⟨d1, d2, d3, d4, d5, d6⟩ := id hI
                refine lv_iload hx hb dX11_raised_96 (lv_at hl 0 rfl) ?_
                refine lv_aload_n hx hb dX11_raised_98 rfl (lv_at hl 4 rfl) ?_
                refine va_get (D := D) (ci := 10) (v := .int (iZ ((kc : Nat) : Int))) (C := RX11) (T := TX11) (N := 26) hx hb hts hh_1 hown hK hP 0 rfl rfl 15 (by decide) hh_4 (fun _ h9 => h9) rfl dX11_raised_99 ?_
                refine zb_icmp_ge (x := ((i : Nat) : Int)) (y := ((kc : Nat) : Int)) (tgt := 298) hx hb dX11_raised_102 (by decide) ⟨by omega, by omega⟩ ⟨by omega, by omega⟩ (fun c_102 => ?_) (fun c_102 => ?_)
                · refine lv_lload hx hb dX11_raised_298 (lv_at hl 3 rfl) ?_
                  refine lv_lload hx hb dX11_raised_300 (lv_at hl 2 rfl) ?_
                  refine zb_l_le (x := ((x : Nat) : Int)) (y := ((y : Nat) : Int)) (tgt := 310) hx hb dX11_raised_302 dX11_raised_303 (by decide) ⟨by omega, by omega⟩ ⟨by omega, by omega⟩ (fun c_302 => ?_) (fun c_302 => ?_)
                  · refine lv_lload hx hb dX11_raised_310 (lv_at hl 3 rfl) ?_
                    refine lv_lload hx hb dX11_raised_312 (lv_at hl 2 rfl) ?_
                    refine lv_iload_n hx hb dX11_raised_314 rfl (lv_at hl 7 rfl) ?_
                    refine ca_lS [.long (lZ ((x : Nat) : Int)), .long (lZ ((y : Nat) : Int)), .int (iZ (zs))] [] [(mz, .inr (10, [.int (iZ ((0 : Nat) : Int)), .ref sA, .ref sB, .int (iZ ((rn : Nat) : Int)), .ref gO, .ref xO, .ref yO, .int (iZ ((un : Nat) : Int)), .ref dO, .ref zO, .ref wO, .ref mO, .int (iZ ((mn : Nat) : Int)), .ref aO, .ref bO, .int (iZ ((kc : Nat) : Int)), .ref uO, .ref vO, .int (iZ ((hT : Nat) : Int)), .int (iZ ((tu : Nat) : Int)), .int (iZ ((td : Nat) : Int)), .int (iZ ((ta : Nat) : Int)), .int (iZ ((tb : Nat) : Int)), .int (iZ ((tt : Nat) : Int)), .int (iZ ((tk : Nat) : Int)), .int (iZ ((tj : Nat) : Int))])), (uO, .inl (cI, 10, .inl (LI U))), (vO, .inl (cI, 10, .inl (LI V)))] 0 0 ⟨hx, hb, hml, hown, hts⟩ (c_X11_told l D cI cJ ((x : Nat) : Int) y zs (by omega) (by omega) (by omega) (by omega) ⟨by omega, by omega⟩) (va_cwS 3 hts gX11_raised_X11_told rfl rfl rfl (by decide +kernel) ⟨(Nat.le_of_ble_eq_true rfl), (Nat.le_of_ble_eq_true rfl)⟩) hK hP hD hS hA [] [0, 1, 2] rfl rfl rfl rfl (by decide) rfl hl.1 rfl (Nat.le_of_ble_eq_true rfl) dX11_raised_315 ⟨(Nat.le_of_ble_eq_true rfl), (Nat.le_of_ble_eq_true rfl)⟩ (Nat.le_of_ble_eq_true rfl) (Nat.le_of_ble_eq_true rfl) (fun r_315 u9 H locs hw hP hD hS => ?_)
                    obtain u9 := u9
                    try dsimp only at hw
                    have hP : va_P D vwCl [(mz, .inr (10, [.int (iZ ((0 : Nat) : Int)), .ref sA, .ref sB, .int (iZ ((rn : Nat) : Int)), .ref gO, .ref xO, .ref yO, .int (iZ ((un : Nat) : Int)), .ref dO, .ref zO, .ref wO, .ref mO, .int (iZ ((mn : Nat) : Int)), .ref aO, .ref bO, .int (iZ ((kc : Nat) : Int)), .ref uO, .ref vO, .int (iZ ((hT : Nat) : Int)), .int (iZ ((tu : Nat) : Int)), .int (iZ ((td : Nat) : Int)), .int (iZ ((ta : Nat) : Int)), .int (iZ ((tb : Nat) : Int)), .int (iZ ((tt : Nat) : Int)), .int (iZ ((tk : Nat) : Int)), .int (iZ ((tj : Nat) : Int))])), (uO, .inl (cI, 10, .inl (LI U))), (vO, .inl (cI, 10, .inl (LI V)))] H := hP
                    have hD : va_D A [(mz, .inr (10, [.int (iZ ((0 : Nat) : Int)), .ref sA, .ref sB, .int (iZ ((rn : Nat) : Int)), .ref gO, .ref xO, .ref yO, .int (iZ ((un : Nat) : Int)), .ref dO, .ref zO, .ref wO, .ref mO, .int (iZ ((mn : Nat) : Int)), .ref aO, .ref bO, .int (iZ ((kc : Nat) : Int)), .ref uO, .ref vO, .int (iZ ((hT : Nat) : Int)), .int (iZ ((tu : Nat) : Int)), .int (iZ ((td : Nat) : Int)), .int (iZ ((ta : Nat) : Int)), .int (iZ ((tb : Nat) : Int)), .int (iZ ((tt : Nat) : Int)), .int (iZ ((tk : Nat) : Int)), .int (iZ ((tj : Nat) : Int))])), (uO, .inl (cI, 10, .inl (LI U))), (vO, .inl (cI, 10, .inl (LI V)))] := hD
                    exact hret _ (()) _ _ _ _ _ _ (Nat.le_of_ble_eq_true rfl) (Nat.le_of_ble_eq_true rfl) dX11_raised_318 (⟨fun _ _ => by have e9 : i = kc := (by omega); have hfs : fs = 0 := (by rcases (show fs = 0 ∨ fs = 1 by omega) with c | c; (· exact c); (· exact absurd (Nat.le_refl _) ((d5 c).1 j (by omega)))); have hfr := d6 hfs; rw [e9] at hfr; show _ = lZ (capR (rpr kc U V 2 j).1 (rpr kc U V 2 j).2 zs); have hrp : rpr kc U V 2 j = rls kc U V (plc kc U V j) kc := rfl; rw [hrp, ← capR_congr (by omega) (by have h8 := rls_b hc (plc kc U V j) kc (Nat.le_refl kc); exact h8.2.1) hfr]; rw [hw]; unfold capR; rw [if_neg (show ¬ y < x by omega)], fun h8 h9 => absurd (by omega) h9, fun h9 => absurd (by omega) h9⟩) hP hD hS
                  · refine zc_lconst (z := ((1 : Nat) : Int)) hx hb dX11_raised_306 (by decide) ?_
                    refine lv_goto (tgt := 318) hx hb dX11_raised_307 (by decide) ?_
                    exact hret _ (()) _ _ _ _ _ _ (Nat.le_of_ble_eq_true rfl) (Nat.le_of_ble_eq_true rfl) dX11_raised_318 (⟨fun _ _ => by have e9 : i = kc := (by omega); have hfs : fs = 0 := (by rcases (show fs = 0 ∨ fs = 1 by omega) with c | c; (· exact c); (· exact absurd (Nat.le_refl _) ((d5 c).1 j (by omega)))); have hfr := d6 hfs; rw [e9] at hfr; show _ = lZ (capR (rpr kc U V 2 j).1 (rpr kc U V 2 j).2 zs); have hrp : rpr kc U V 2 j = rls kc U V (plc kc U V j) kc := rfl; rw [hrp, ← capR_congr (by omega) (by have h8 := rls_b hc (plc kc U V j) kc (Nat.le_refl kc); exact h8.2.1) hfr]; unfold capR; rw [if_pos (by omega)]; rfl, fun h8 h9 => absurd (by omega) h9, fun h9 => absurd (by omega) h9⟩) hP hD hS
                · refine lv_iload_n hx hb dX11_raised_105 rfl (lv_at hl 5 rfl) ?_
                  refine zb_if_le (x := ((2 : Nat) : Int)) (tgt := 298) hx hb dX11_raised_106 (by decide) ⟨by decide, by decide⟩ (fun c_106 => ?_) (fun c_106 => ?_)
                  · exact absurd c_106 (by decide)
                  · have hgi := gr_b hc (show i < kc by omega)
                    have hci := hc.2 i (by omega)
                    have hpi := plc_le kc U V i
                    have hpj := plc_le kc U V j
                    have hp1 := plc_1 kc U V i
                    have m1 := rg_b (a := x) (b := V i) (by omega) (by omega)
                    have m2 := rg_b (a := (kc + 1 - plc kc U V i) * U i) (b := y) (by omega) (by omega)
                    have m3 := rg_b (a := kc * U i) (b := y) (by omega) (by omega)
                    have m4 := rg_b (a := x) (b := plc kc U V i * V i) (by omega) (by omega)
                    refine lv_aload_n hx hb dX11_raised_109 rfl (lv_at hl 4 rfl) ?_
                    refine lv_iload hx hb dX11_raised_110 (lv_at hl 0 rfl) ?_
                    refine ca_iV [.int (iZ ((i : Nat) : Int))] [] [] 0 0 ⟨hx, hb, hml, hown, hts⟩ (c_X11_placeOf l D cI cJ mz sA sB gO xO yO dO zO wO mO aO bO uO vO 0 rn un mn kc hT tu td ta tb tt tk tj U V hc i (by omega)) (cwV 1 hts gX11_raised_X11_placeOf rfl rfl rfl (by decide +kernel) ⟨(Nat.le_of_ble_eq_true rfl), (Nat.le_of_ble_eq_true rfl)⟩) hK hP hD hS hA [0, 1, 2] [] rfl rfl rfl rfl (by decide) 0 rfl rfl rfl hl.1 rfl (Nat.le_of_ble_eq_true rfl) dX11_raised_112 ⟨(Nat.le_of_ble_eq_true rfl), (Nat.le_of_ble_eq_true rfl)⟩ (Nat.le_of_ble_eq_true rfl) (Nat.le_of_ble_eq_true rfl) (fun r_112 u9 H locs hw hP hD hS => ?_)
                    obtain u9 := u9
                    try dsimp only at hw
                    have hP : va_P D vwCl [(mz, .inr (10, [.int (iZ ((0 : Nat) : Int)), .ref sA, .ref sB, .int (iZ ((rn : Nat) : Int)), .ref gO, .ref xO, .ref yO, .int (iZ ((un : Nat) : Int)), .ref dO, .ref zO, .ref wO, .ref mO, .int (iZ ((mn : Nat) : Int)), .ref aO, .ref bO, .int (iZ ((kc : Nat) : Int)), .ref uO, .ref vO, .int (iZ ((hT : Nat) : Int)), .int (iZ ((tu : Nat) : Int)), .int (iZ ((td : Nat) : Int)), .int (iZ ((ta : Nat) : Int)), .int (iZ ((tb : Nat) : Int)), .int (iZ ((tt : Nat) : Int)), .int (iZ ((tk : Nat) : Int)), .int (iZ ((tj : Nat) : Int))])), (uO, .inl (cI, 10, .inl (LI U))), (vO, .inl (cI, 10, .inl (LI V)))] H := hP
                    have hD : va_D A [(mz, .inr (10, [.int (iZ ((0 : Nat) : Int)), .ref sA, .ref sB, .int (iZ ((rn : Nat) : Int)), .ref gO, .ref xO, .ref yO, .int (iZ ((un : Nat) : Int)), .ref dO, .ref zO, .ref wO, .ref mO, .int (iZ ((mn : Nat) : Int)), .ref aO, .ref bO, .int (iZ ((kc : Nat) : Int)), .ref uO, .ref vO, .int (iZ ((hT : Nat) : Int)), .int (iZ ((tu : Nat) : Int)), .int (iZ ((td : Nat) : Int)), .int (iZ ((ta : Nat) : Int)), .int (iZ ((tb : Nat) : Int)), .int (iZ ((tt : Nat) : Int)), .int (iZ ((tk : Nat) : Int)), .int (iZ ((tj : Nat) : Int))])), (uO, .inl (cI, 10, .inl (LI U))), (vO, .inl (cI, 10, .inl (LI V)))] := hD
                    refine tp_i (y := (iZ ((plc kc U V i : Nat) : Int))) (hw) ?_
                    refine lv_istore (lv' := [(11, .int (iZ ((plc kc U V i : Nat) : Int))), (10, .int (iZ ((i : Nat) : Int))), (9, .int (iZ ((fs : Nat) : Int))), (7, .long (lZ ((y : Nat) : Int))), (5, .long (lZ ((x : Nat) : Int))), (0, .ref mz), (1, .int (iZ ((2 : Nat) : Int))), (2, .int (iZ ((j : Nat) : Int))), (3, .int (iZ (zs))), (4, .int (iZ ((plc kc U V j : Nat) : Int)))]) hx hb dX11_raised_115 hl (by decide) rfl (fun ls hl => ?_)
                    refine lv_iload_n hx hb dX11_raised_117 rfl (lv_at hl 6 rfl) ?_
                    refine zc_iconst (z := ((1 : Nat) : Int)) hx hb dX11_raised_118 (by decide) ?_
                    refine zb_icmp_ne (x := ((2 : Nat) : Int)) (y := ((1 : Nat) : Int)) (tgt := 132) hx hb dX11_raised_119 (by decide) ⟨by decide, by decide⟩ ⟨by decide, by decide⟩ (fun c_119 => ?_) (fun c_119 => ?_)
                    · refine lv_iload hx hb dX11_raised_132 (lv_at hl 0 rfl) ?_
                      refine lv_iload hx hb dX11_raised_134 (lv_at hl 9 rfl) ?_
                      refine zb_icmp_lt (x := ((plc kc U V i : Nat) : Int)) (y := ((plc kc U V j : Nat) : Int)) (tgt := 292) hx hb dX11_raised_136 (by decide) ⟨by omega, by omega⟩ ⟨by omega, by omega⟩ (fun c_136 => ?_) (fun c_136 => ?_)
                      · refine lv_iinc (v := iZ ((i + 1 : Nat) : Int)) (lv' := [(10, .int (iZ ((i + 1 : Nat) : Int))), (11, .int (iZ ((plc kc U V i : Nat) : Int))), (9, .int (iZ ((fs : Nat) : Int))), (7, .long (lZ ((y : Nat) : Int))), (5, .long (lZ ((x : Nat) : Int))), (0, .ref mz), (1, .int (iZ ((2 : Nat) : Int))), (2, .int (iZ ((j : Nat) : Int))), (3, .int (iZ (zs))), (4, .int (iZ ((plc kc U V j : Nat) : Int)))]) hx hb dX11_raised_292 hl (k := 1) rfl (zi_inc (by omega)) (by decide) rfl (fun ls hl => ?_)
                        refine lv_goto (tgt := 96) hx hb dX11_raised_295 (by decide) ?_
                        exact ih_96 (i + 1) x y fs (by omega) (rlI_skip hI (by omega)) (by omega) _ _ hP hD hS ls (lv_sub hl [0, 2, 3, 4, 5, 6, 7, 8, 9] rfl)
                      · refine lv_iload_n hx hb dX11_raised_139 rfl (lv_at hl 6 rfl) ?_
                        refine zc_iconst (z := ((1 : Nat) : Int)) hx hb dX11_raised_140 (by decide) ?_
                        refine zb_icmp_ne (x := ((2 : Nat) : Int)) (y := ((1 : Nat) : Int)) (tgt := 167) hx hb dX11_raised_141 (by decide) ⟨by decide, by decide⟩ ⟨by decide, by decide⟩ (fun c_141 => ?_) (fun c_141 => ?_)
                        · refine lv_aload_n hx hb dX11_raised_167 rfl (lv_at hl 5 rfl) ?_
                          refine va_get (D := D) (ci := 10) (v := .int (iZ ((kc : Nat) : Int))) (C := RX11) (T := TX11) (N := 26) hx hb hts hh_1 hown hK hP 0 rfl rfl 15 (by decide) hh_4 (fun _ h9 => h9) rfl dX11_raised_168 ?_
                          refine z_i2l (z := ((kc : Nat) : Int)) hx hb dX11_raised_171 ⟨by omega, by omega⟩ rfl ?_
                          refine lv_aload_n hx hb dX11_raised_172 rfl (lv_at hl 5 rfl) ?_
                          refine va_get (D := D) (ci := 10) (v := .ref uO) (C := RX11) (T := TX11) (N := 26) hx hb hts hh_1 hown hK hP 0 rfl rfl 16 (by decide) hh_5 (fun _ h9 => h9) rfl dX11_raised_173 ?_
                          refine lv_iload hx hb dX11_raised_176 (lv_at hl 1 rfl) ?_
                          refine za_iald hx hb hK hP 1 0 rfl rfl (i) (v := ((U i : Nat) : Int)) (by decide) rfl (by omega) (rfl) dX11_raised_178 ?_
                          refine z_i2l (z := ((U i : Nat) : Int)) hx hb dX11_raised_179 ⟨by omega, by omega⟩ rfl ?_
                          refine zl_mul (z := ((kc * (U i) : Nat) : Int)) hx hb dX11_raised_180 (Int.natCast_mul _ _).symm ?_
                          refine lv_lstore (lv' := [(12, .long (lZ ((kc * (U i) : Nat) : Int))), (11, .int (iZ ((plc kc U V i : Nat) : Int))), (10, .int (iZ ((i : Nat) : Int))), (9, .int (iZ ((fs : Nat) : Int))), (7, .long (lZ ((y : Nat) : Int))), (5, .long (lZ ((x : Nat) : Int))), (0, .ref mz), (1, .int (iZ ((2 : Nat) : Int))), (2, .int (iZ ((j : Nat) : Int))), (3, .int (iZ (zs))), (4, .int (iZ ((plc kc U V j : Nat) : Int)))]) hx hb dX11_raised_181 hl (by decide) rfl (fun ls hl => ?_)
                          refine lv_iload_n hx hb dX11_raised_183 rfl (lv_at hl 7 rfl) ?_
                          refine zc_iconst (z := ((1 : Nat) : Int)) hx hb dX11_raised_184 (by decide) ?_
                          refine zb_icmp_ne (x := ((2 : Nat) : Int)) (y := ((1 : Nat) : Int)) (tgt := 199) hx hb dX11_raised_185 (by decide) ⟨by decide, by decide⟩ ⟨by decide, by decide⟩ (fun c_185 => ?_) (fun c_185 => ?_)
                          · refine lv_iload hx hb dX11_raised_199 (lv_at hl 1 rfl) ?_
                            refine z_i2l (z := ((plc kc U V i : Nat) : Int)) hx hb dX11_raised_201 ⟨by omega, by omega⟩ rfl ?_
                            refine lv_aload_n hx hb dX11_raised_202 rfl (lv_at hl 6 rfl) ?_
                            refine va_get (D := D) (ci := 10) (v := .ref vO) (C := RX11) (T := TX11) (N := 26) hx hb hts hh_1 hown hK hP 0 rfl rfl 17 (by decide) hh_6 (fun _ h9 => h9) rfl dX11_raised_203 ?_
                            refine lv_iload hx hb dX11_raised_206 (lv_at hl 2 rfl) ?_
                            refine za_iald hx hb hK hP 2 0 rfl rfl (i) (v := ((V i : Nat) : Int)) (by decide) rfl (by omega) (rfl) dX11_raised_208 ?_
                            refine z_i2l (z := ((V i : Nat) : Int)) hx hb dX11_raised_209 ⟨by omega, by omega⟩ rfl ?_
                            refine zl_mul (z := (((plc kc U V i) * (V i) : Nat) : Int)) hx hb dX11_raised_210 (Int.natCast_mul _ _).symm ?_
                            refine lv_lstore (lv' := [(14, .long (lZ (((plc kc U V i) * (V i) : Nat) : Int))), (12, .long (lZ ((kc * (U i) : Nat) : Int))), (11, .int (iZ ((plc kc U V i : Nat) : Int))), (10, .int (iZ ((i : Nat) : Int))), (9, .int (iZ ((fs : Nat) : Int))), (7, .long (lZ ((y : Nat) : Int))), (5, .long (lZ ((x : Nat) : Int))), (0, .ref mz), (1, .int (iZ ((2 : Nat) : Int))), (2, .int (iZ ((j : Nat) : Int))), (3, .int (iZ (zs))), (4, .int (iZ ((plc kc U V j : Nat) : Int)))]) hx hb dX11_raised_211 hl (by decide) rfl (fun ls hl => ?_)
                            refine lv_iload hx hb dX11_raised_213 (lv_at hl 4 rfl) ?_
                            refine zb_if_ne (x := ((fs : Nat) : Int)) (tgt := 254) hx hb dX11_raised_215 (by decide) ⟨by omega, by omega⟩ (fun c_215 => ?_) (fun c_215 => ?_)
                            · refine zc_iconst (z := ((1 : Nat) : Int)) hx hb dX11_raised_254 (by decide) ?_
                              refine lv_goto (tgt := 259) hx hb dX11_raised_255 (by decide) ?_
                              refine lv_istore (lv' := [(16, .int (iZ ((1 : Nat) : Int))), (14, .long (lZ (((plc kc U V i) * (V i) : Nat) : Int))), (12, .long (lZ ((kc * (U i) : Nat) : Int))), (11, .int (iZ ((plc kc U V i : Nat) : Int))), (10, .int (iZ ((i : Nat) : Int))), (9, .int (iZ ((fs : Nat) : Int))), (7, .long (lZ ((y : Nat) : Int))), (5, .long (lZ ((x : Nat) : Int))), (0, .ref mz), (1, .int (iZ ((2 : Nat) : Int))), (2, .int (iZ ((j : Nat) : Int))), (3, .int (iZ (zs))), (4, .int (iZ ((plc kc U V j : Nat) : Int)))]) hx hb dX11_raised_259 hl (by decide) rfl (fun ls hl => ?_)
                              refine lv_iload hx hb dX11_raised_261 (lv_at hl 0 rfl) ?_
                              refine zb_if_eq (x := ((1 : Nat) : Int)) (tgt := 271) hx hb dX11_raised_263 (by decide) ⟨by decide, by decide⟩ (fun c_263 => ?_) (fun c_263 => ?_)
                              · exact absurd c_263 (by decide)
                              · refine lv_lload hx hb dX11_raised_266 (lv_at hl 2 rfl) ?_
                                refine lv_goto (tgt := 273) hx hb dX11_raised_268 (by decide) ?_
                                refine lv_lstore (lv' := [(5, .long (lZ ((kc * (U i) : Nat) : Int))), (16, .int (iZ ((1 : Nat) : Int))), (14, .long (lZ (((plc kc U V i) * (V i) : Nat) : Int))), (12, .long (lZ ((kc * (U i) : Nat) : Int))), (11, .int (iZ ((plc kc U V i : Nat) : Int))), (10, .int (iZ ((i : Nat) : Int))), (9, .int (iZ ((fs : Nat) : Int))), (7, .long (lZ ((y : Nat) : Int))), (0, .ref mz), (1, .int (iZ ((2 : Nat) : Int))), (2, .int (iZ ((j : Nat) : Int))), (3, .int (iZ (zs))), (4, .int (iZ ((plc kc U V j : Nat) : Int)))]) hx hb dX11_raised_273 hl (by decide) rfl (fun ls hl => ?_)
                                refine lv_iload hx hb dX11_raised_275 (lv_at hl 1 rfl) ?_
                                refine zb_if_eq (x := ((1 : Nat) : Int)) (tgt := 285) hx hb dX11_raised_277 (by decide) ⟨by decide, by decide⟩ (fun c_277 => ?_) (fun c_277 => ?_)
                                · exact absurd c_277 (by decide)
                                · refine lv_lload hx hb dX11_raised_280 (lv_at hl 2 rfl) ?_
                                  refine lv_goto (tgt := 287) hx hb dX11_raised_282 (by decide) ?_
                                  refine lv_lstore (lv' := [(7, .long (lZ (((plc kc U V i) * (V i) : Nat) : Int))), (5, .long (lZ ((kc * (U i) : Nat) : Int))), (16, .int (iZ ((1 : Nat) : Int))), (14, .long (lZ (((plc kc U V i) * (V i) : Nat) : Int))), (12, .long (lZ ((kc * (U i) : Nat) : Int))), (11, .int (iZ ((plc kc U V i : Nat) : Int))), (10, .int (iZ ((i : Nat) : Int))), (9, .int (iZ ((fs : Nat) : Int))), (0, .ref mz), (1, .int (iZ ((2 : Nat) : Int))), (2, .int (iZ ((j : Nat) : Int))), (3, .int (iZ (zs))), (4, .int (iZ ((plc kc U V j : Nat) : Int)))]) hx hb dX11_raised_287 hl (by decide) rfl (fun ls hl => ?_)
                                  refine zc_iconst (z := ((0 : Nat) : Int)) hx hb dX11_raised_289 (by decide) ?_
                                  refine lv_istore (lv' := [(9, .int (iZ ((0 : Nat) : Int))), (7, .long (lZ (((plc kc U V i) * (V i) : Nat) : Int))), (5, .long (lZ ((kc * (U i) : Nat) : Int))), (16, .int (iZ ((1 : Nat) : Int))), (14, .long (lZ (((plc kc U V i) * (V i) : Nat) : Int))), (12, .long (lZ ((kc * (U i) : Nat) : Int))), (11, .int (iZ ((plc kc U V i : Nat) : Int))), (10, .int (iZ ((i : Nat) : Int))), (0, .ref mz), (1, .int (iZ ((2 : Nat) : Int))), (2, .int (iZ ((j : Nat) : Int))), (3, .int (iZ (zs))), (4, .int (iZ ((plc kc U V j : Nat) : Int)))]) hx hb dX11_raised_290 hl (by decide) rfl (fun ls hl => ?_)
                                  refine lv_iinc (v := iZ ((i + 1 : Nat) : Int)) (lv' := [(10, .int (iZ ((i + 1 : Nat) : Int))), (9, .int (iZ ((0 : Nat) : Int))), (7, .long (lZ (((plc kc U V i) * (V i) : Nat) : Int))), (5, .long (lZ ((kc * (U i) : Nat) : Int))), (16, .int (iZ ((1 : Nat) : Int))), (14, .long (lZ (((plc kc U V i) * (V i) : Nat) : Int))), (12, .long (lZ ((kc * (U i) : Nat) : Int))), (11, .int (iZ ((plc kc U V i : Nat) : Int))), (0, .ref mz), (1, .int (iZ ((2 : Nat) : Int))), (2, .int (iZ ((j : Nat) : Int))), (3, .int (iZ (zs))), (4, .int (iZ ((plc kc U V j : Nat) : Int)))]) hx hb dX11_raised_292 hl (k := 7) rfl (zi_inc (by omega)) (by decide) rfl (fun ls hl => ?_)
                                  refine lv_goto (tgt := 96) hx hb dX11_raised_295 (by decide) ?_
                                  exact ih_96 (i + 1) (kc * U i) (plc kc U V i * V i) 0 (by omega) (by rcases (show fs = 1 ∨ fs = 0 by omega) with e8 | e8; (· rw [e8] at hI; exact rlI_first hc (by omega) hI (by omega)); (· rw [e8] at hI; exact rlI_take hc (by omega) hI (by omega) (by omega))) (by omega) _ _ hP hD hS ls (lv_sub hl [0, 1, 2, 3, 8, 9, 10, 11, 12] rfl)
                            · refine lv_iload_n hx hb dX11_raised_218 rfl (lv_at hl 8 rfl) ?_
                              refine zc_iconst (z := ((1 : Nat) : Int)) hx hb dX11_raised_219 (by decide) ?_
                              refine zb_icmp_ne (x := ((2 : Nat) : Int)) (y := ((1 : Nat) : Int)) (tgt := 240) hx hb dX11_raised_220 (by decide) ⟨by decide, by decide⟩ ⟨by decide, by decide⟩ (fun c_220 => ?_) (fun c_220 => ?_)
                              · refine lv_lload hx hb dX11_raised_240 (lv_at hl 1 rfl) ?_
                                refine lv_lload hx hb dX11_raised_242 (lv_at hl 5 rfl) ?_
                                refine zl_mul (z := (((kc * (U i)) * y : Nat) : Int)) hx hb dX11_raised_244 (Int.natCast_mul _ _).symm ?_
                                refine lv_lload hx hb dX11_raised_245 (lv_at hl 6 rfl) ?_
                                refine lv_lload hx hb dX11_raised_247 (lv_at hl 0 rfl) ?_
                                refine zl_mul (z := ((x * ((plc kc U V i) * (V i)) : Nat) : Int)) hx hb dX11_raised_249 (Int.natCast_mul _ _).symm ?_
                                refine zb_l_ge (x := (((kc * (U i)) * y : Nat) : Int)) (y := ((x * ((plc kc U V i) * (V i)) : Nat) : Int)) (tgt := 258) hx hb dX11_raised_250 dX11_raised_251 (by decide) ⟨by omega, by omega⟩ ⟨by omega, by omega⟩ (fun c_250 => ?_) (fun c_250 => ?_)
                                · refine zc_iconst (z := ((0 : Nat) : Int)) hx hb dX11_raised_258 (by decide) ?_
                                  refine lv_istore (lv' := [(16, .int (iZ ((0 : Nat) : Int))), (14, .long (lZ (((plc kc U V i) * (V i) : Nat) : Int))), (12, .long (lZ ((kc * (U i) : Nat) : Int))), (11, .int (iZ ((plc kc U V i : Nat) : Int))), (10, .int (iZ ((i : Nat) : Int))), (9, .int (iZ ((fs : Nat) : Int))), (7, .long (lZ ((y : Nat) : Int))), (5, .long (lZ ((x : Nat) : Int))), (0, .ref mz), (1, .int (iZ ((2 : Nat) : Int))), (2, .int (iZ ((j : Nat) : Int))), (3, .int (iZ (zs))), (4, .int (iZ ((plc kc U V j : Nat) : Int)))]) hx hb dX11_raised_259 hl (by decide) rfl (fun ls hl => ?_)
                                  refine lv_iload hx hb dX11_raised_261 (lv_at hl 0 rfl) ?_
                                  refine zb_if_eq (x := ((0 : Nat) : Int)) (tgt := 271) hx hb dX11_raised_263 (by decide) ⟨by decide, by decide⟩ (fun c_263 => ?_) (fun c_263 => ?_)
                                  · refine lv_lload hx hb dX11_raised_271 (lv_at hl 7 rfl) ?_
                                    refine lv_lstore (lv' := [(5, .long (lZ ((x : Nat) : Int))), (16, .int (iZ ((0 : Nat) : Int))), (14, .long (lZ (((plc kc U V i) * (V i) : Nat) : Int))), (12, .long (lZ ((kc * (U i) : Nat) : Int))), (11, .int (iZ ((plc kc U V i : Nat) : Int))), (10, .int (iZ ((i : Nat) : Int))), (9, .int (iZ ((fs : Nat) : Int))), (7, .long (lZ ((y : Nat) : Int))), (0, .ref mz), (1, .int (iZ ((2 : Nat) : Int))), (2, .int (iZ ((j : Nat) : Int))), (3, .int (iZ (zs))), (4, .int (iZ ((plc kc U V j : Nat) : Int)))]) hx hb dX11_raised_273 hl (by decide) rfl (fun ls hl => ?_)
                                    refine lv_iload hx hb dX11_raised_275 (lv_at hl 1 rfl) ?_
                                    refine zb_if_eq (x := ((0 : Nat) : Int)) (tgt := 285) hx hb dX11_raised_277 (by decide) ⟨by decide, by decide⟩ (fun c_277 => ?_) (fun c_277 => ?_)
                                    · refine lv_lload hx hb dX11_raised_285 (lv_at hl 7 rfl) ?_
                                      refine lv_lstore (lv' := [(7, .long (lZ ((y : Nat) : Int))), (5, .long (lZ ((x : Nat) : Int))), (16, .int (iZ ((0 : Nat) : Int))), (14, .long (lZ (((plc kc U V i) * (V i) : Nat) : Int))), (12, .long (lZ ((kc * (U i) : Nat) : Int))), (11, .int (iZ ((plc kc U V i : Nat) : Int))), (10, .int (iZ ((i : Nat) : Int))), (9, .int (iZ ((fs : Nat) : Int))), (0, .ref mz), (1, .int (iZ ((2 : Nat) : Int))), (2, .int (iZ ((j : Nat) : Int))), (3, .int (iZ (zs))), (4, .int (iZ ((plc kc U V j : Nat) : Int)))]) hx hb dX11_raised_287 hl (by decide) rfl (fun ls hl => ?_)
                                      refine zc_iconst (z := ((0 : Nat) : Int)) hx hb dX11_raised_289 (by decide) ?_
                                      refine lv_istore (lv' := [(9, .int (iZ ((0 : Nat) : Int))), (7, .long (lZ ((y : Nat) : Int))), (5, .long (lZ ((x : Nat) : Int))), (16, .int (iZ ((0 : Nat) : Int))), (14, .long (lZ (((plc kc U V i) * (V i) : Nat) : Int))), (12, .long (lZ ((kc * (U i) : Nat) : Int))), (11, .int (iZ ((plc kc U V i : Nat) : Int))), (10, .int (iZ ((i : Nat) : Int))), (0, .ref mz), (1, .int (iZ ((2 : Nat) : Int))), (2, .int (iZ ((j : Nat) : Int))), (3, .int (iZ (zs))), (4, .int (iZ ((plc kc U V j : Nat) : Int)))]) hx hb dX11_raised_290 hl (by decide) rfl (fun ls hl => ?_)
                                      refine lv_iinc (v := iZ ((i + 1 : Nat) : Int)) (lv' := [(10, .int (iZ ((i + 1 : Nat) : Int))), (9, .int (iZ ((0 : Nat) : Int))), (7, .long (lZ ((y : Nat) : Int))), (5, .long (lZ ((x : Nat) : Int))), (16, .int (iZ ((0 : Nat) : Int))), (14, .long (lZ (((plc kc U V i) * (V i) : Nat) : Int))), (12, .long (lZ ((kc * (U i) : Nat) : Int))), (11, .int (iZ ((plc kc U V i : Nat) : Int))), (0, .ref mz), (1, .int (iZ ((2 : Nat) : Int))), (2, .int (iZ ((j : Nat) : Int))), (3, .int (iZ (zs))), (4, .int (iZ ((plc kc U V j : Nat) : Int)))]) hx hb dX11_raised_292 hl (k := 7) rfl (zi_inc (by omega)) (by decide) rfl (fun ls hl => ?_)
                                      refine lv_goto (tgt := 96) hx hb dX11_raised_295 (by decide) ?_
                                      exact ih_96 (i + 1) x y 0 (by omega) (by have e8 : fs = 0 := (by omega); rw [e8] at hI; exact rlI_keep hc (by omega) hI (by omega)) (by omega) _ _ hP hD hS ls (lv_sub hl [0, 1, 2, 3, 8, 9, 10, 11, 12] rfl)
                                    · exact absurd c_277 (by decide)
                                  · exact absurd c_263 (by decide)
                                · refine zc_iconst (z := ((1 : Nat) : Int)) hx hb dX11_raised_254 (by decide) ?_
                                  refine lv_goto (tgt := 259) hx hb dX11_raised_255 (by decide) ?_
                                  refine lv_istore (lv' := [(16, .int (iZ ((1 : Nat) : Int))), (14, .long (lZ (((plc kc U V i) * (V i) : Nat) : Int))), (12, .long (lZ ((kc * (U i) : Nat) : Int))), (11, .int (iZ ((plc kc U V i : Nat) : Int))), (10, .int (iZ ((i : Nat) : Int))), (9, .int (iZ ((fs : Nat) : Int))), (7, .long (lZ ((y : Nat) : Int))), (5, .long (lZ ((x : Nat) : Int))), (0, .ref mz), (1, .int (iZ ((2 : Nat) : Int))), (2, .int (iZ ((j : Nat) : Int))), (3, .int (iZ (zs))), (4, .int (iZ ((plc kc U V j : Nat) : Int)))]) hx hb dX11_raised_259 hl (by decide) rfl (fun ls hl => ?_)
                                  refine lv_iload hx hb dX11_raised_261 (lv_at hl 0 rfl) ?_
                                  refine zb_if_eq (x := ((1 : Nat) : Int)) (tgt := 271) hx hb dX11_raised_263 (by decide) ⟨by decide, by decide⟩ (fun c_263 => ?_) (fun c_263 => ?_)
                                  · exact absurd c_263 (by decide)
                                  · refine lv_lload hx hb dX11_raised_266 (lv_at hl 2 rfl) ?_
                                    refine lv_goto (tgt := 273) hx hb dX11_raised_268 (by decide) ?_
                                    refine lv_lstore (lv' := [(5, .long (lZ ((kc * (U i) : Nat) : Int))), (16, .int (iZ ((1 : Nat) : Int))), (14, .long (lZ (((plc kc U V i) * (V i) : Nat) : Int))), (12, .long (lZ ((kc * (U i) : Nat) : Int))), (11, .int (iZ ((plc kc U V i : Nat) : Int))), (10, .int (iZ ((i : Nat) : Int))), (9, .int (iZ ((fs : Nat) : Int))), (7, .long (lZ ((y : Nat) : Int))), (0, .ref mz), (1, .int (iZ ((2 : Nat) : Int))), (2, .int (iZ ((j : Nat) : Int))), (3, .int (iZ (zs))), (4, .int (iZ ((plc kc U V j : Nat) : Int)))]) hx hb dX11_raised_273 hl (by decide) rfl (fun ls hl => ?_)
                                    refine lv_iload hx hb dX11_raised_275 (lv_at hl 1 rfl) ?_
                                    refine zb_if_eq (x := ((1 : Nat) : Int)) (tgt := 285) hx hb dX11_raised_277 (by decide) ⟨by decide, by decide⟩ (fun c_277 => ?_) (fun c_277 => ?_)
                                    · exact absurd c_277 (by decide)
                                    · refine lv_lload hx hb dX11_raised_280 (lv_at hl 2 rfl) ?_
                                      refine lv_goto (tgt := 287) hx hb dX11_raised_282 (by decide) ?_
                                      refine lv_lstore (lv' := [(7, .long (lZ (((plc kc U V i) * (V i) : Nat) : Int))), (5, .long (lZ ((kc * (U i) : Nat) : Int))), (16, .int (iZ ((1 : Nat) : Int))), (14, .long (lZ (((plc kc U V i) * (V i) : Nat) : Int))), (12, .long (lZ ((kc * (U i) : Nat) : Int))), (11, .int (iZ ((plc kc U V i : Nat) : Int))), (10, .int (iZ ((i : Nat) : Int))), (9, .int (iZ ((fs : Nat) : Int))), (0, .ref mz), (1, .int (iZ ((2 : Nat) : Int))), (2, .int (iZ ((j : Nat) : Int))), (3, .int (iZ (zs))), (4, .int (iZ ((plc kc U V j : Nat) : Int)))]) hx hb dX11_raised_287 hl (by decide) rfl (fun ls hl => ?_)
                                      refine zc_iconst (z := ((0 : Nat) : Int)) hx hb dX11_raised_289 (by decide) ?_
                                      refine lv_istore (lv' := [(9, .int (iZ ((0 : Nat) : Int))), (7, .long (lZ (((plc kc U V i) * (V i) : Nat) : Int))), (5, .long (lZ ((kc * (U i) : Nat) : Int))), (16, .int (iZ ((1 : Nat) : Int))), (14, .long (lZ (((plc kc U V i) * (V i) : Nat) : Int))), (12, .long (lZ ((kc * (U i) : Nat) : Int))), (11, .int (iZ ((plc kc U V i : Nat) : Int))), (10, .int (iZ ((i : Nat) : Int))), (0, .ref mz), (1, .int (iZ ((2 : Nat) : Int))), (2, .int (iZ ((j : Nat) : Int))), (3, .int (iZ (zs))), (4, .int (iZ ((plc kc U V j : Nat) : Int)))]) hx hb dX11_raised_290 hl (by decide) rfl (fun ls hl => ?_)
                                      refine lv_iinc (v := iZ ((i + 1 : Nat) : Int)) (lv' := [(10, .int (iZ ((i + 1 : Nat) : Int))), (9, .int (iZ ((0 : Nat) : Int))), (7, .long (lZ (((plc kc U V i) * (V i) : Nat) : Int))), (5, .long (lZ ((kc * (U i) : Nat) : Int))), (16, .int (iZ ((1 : Nat) : Int))), (14, .long (lZ (((plc kc U V i) * (V i) : Nat) : Int))), (12, .long (lZ ((kc * (U i) : Nat) : Int))), (11, .int (iZ ((plc kc U V i : Nat) : Int))), (0, .ref mz), (1, .int (iZ ((2 : Nat) : Int))), (2, .int (iZ ((j : Nat) : Int))), (3, .int (iZ (zs))), (4, .int (iZ ((plc kc U V j : Nat) : Int)))]) hx hb dX11_raised_292 hl (k := 7) rfl (zi_inc (by omega)) (by decide) rfl (fun ls hl => ?_)
                                      refine lv_goto (tgt := 96) hx hb dX11_raised_295 (by decide) ?_
                                      exact ih_96 (i + 1) (kc * U i) (plc kc U V i * V i) 0 (by omega) (by rcases (show fs = 1 ∨ fs = 0 by omega) with e8 | e8; (· rw [e8] at hI; exact rlI_first hc (by omega) hI (by omega)); (· rw [e8] at hI; exact rlI_take hc (by omega) hI (by omega) (by omega))) (by omega) _ _ hP hD hS ls (lv_sub hl [0, 1, 2, 3, 8, 9, 10, 11, 12] rfl)
                              · exact absurd c_220 (by decide)
                          · exact absurd c_185 (by decide)
                        · exact absurd c_141 (by decide)
                    · exact absurd c_119 (by decide)
            exact pt_96 (kc + 1) 0 (kc * U j) (V j) 1 (by omega) ⟨by omega, by omega, by omega, by decide, fun _ => ⟨fun j9 h9 => by omega, rfl⟩, fun h9 => absurd h9 (by decide)⟩ (by omega) _ _ hP hD hS ls (lv_sub hl [0, 1, 2, 3, 5, 6, 7, 8, 4] rfl)
      · refine lv_ldc2 hx hb hown hh_7 dX11_raised_47 (tp_l (y := lZ (-3 : Int)) (by decide) ?_)
        exact hret _ (()) _ _ _ _ _ _ (Nat.le_of_ble_eq_true rfl) (Nat.le_of_ble_eq_true rfl) dX11_raised_50 (⟨fun h8 h9 => absurd h9 (by omega), fun _ _ => rfl, fun h9 => absurd (by omega) h9⟩) hP hD hS
    · refine lv_ldc2 hx hb hown hh_3 dX11_raised_27 (tp_l (y := lZ (-1 : Int)) (by decide) ?_)
      exact hret _ (()) _ _ _ _ _ _ (Nat.le_of_ble_eq_true rfl) (Nat.le_of_ble_eq_true rfl) dX11_raised_30 (⟨fun h9 => absurd h9 (by omega), fun h9 => absurd h9 (by omega), fun _ => rfl⟩) hP hD hS
def rmX11_forget : Room := { frames := 0, cells := 0, slots := 0, locals := 0 }
set_option maxHeartbeats 4000000 in
set_option maxRecDepth 100000 in
theorem c_X11_forget (l : Launch) (D : va_G) (cI cJ : ClassId) (mz sA sB gO xO yO dO zO wO mO aO bO uO vO : Nat) (th rn un mn kc hT tu td ta tb tt tk tj : Nat) : Ci l D vwCl (tyT cI cJ) yX11_forget wsX11_forget rmX11_forget [.ref mz] [(mz, .inr (10, [.int (iZ ((th : Nat) : Int)), .ref sA, .ref sB, .int (iZ ((rn : Nat) : Int)), .ref gO, .ref xO, .ref yO, .int (iZ ((un : Nat) : Int)), .ref dO, .ref zO, .ref wO, .ref mO, .int (iZ ((mn : Nat) : Int)), .ref aO, .ref bO, .int (iZ ((kc : Nat) : Int)), .ref uO, .ref vO, .int (iZ ((hT : Nat) : Int)), .int (iZ ((tu : Nat) : Int)), .int (iZ ((td : Nat) : Int)), .int (iZ ((ta : Nat) : Int)), .int (iZ ((tb : Nat) : Int)), .int (iZ ((tt : Nat) : Int)), .int (iZ ((tk : Nat) : Int)), .int (iZ ((tj : Nat) : Int))]))] (Unit) (fun r _ => r = iZ ((kc : Nat) : Int)) (fun _ => [(mz, .inr (10, [.int (iZ ((0 : Nat) : Int)), .ref sA, .ref sB, .int (iZ ((rn : Nat) : Int)), .ref gO, .ref xO, .ref yO, .int (iZ ((un : Nat) : Int)), .ref dO, .ref zO, .ref wO, .ref mO, .int (iZ ((mn : Nat) : Int)), .ref aO, .ref bO, .int (iZ ((0 : Nat) : Int)), .ref uO, .ref vO, .int (iZ ((hT : Nat) : Int)), .int (iZ ((tu : Nat) : Int)), .int (iZ ((td : Nat) : Int)), .int (iZ ((ta : Nat) : Int)), .int (iZ ((tb : Nat) : Int)), .int (iZ ((tt : Nat) : Int)), .int (iZ ((tk : Nat) : Int)), .int (iZ ((tj : Nat) : Int))]))]) := by
  refine en_i (cc := cX11_forget) (maxL := 2) (by decide) rfl [(0, .ref mz)] (Nat.le_of_ble_eq_true rfl) rfl ?_
  intro p e s m args below meth c Q A hx hb hml hown hts hnm hK hP hD hA hS hret ls hl
  have hh_0 := hts (.fieldLink RX11 50 "BoundDrawsModel" "thrown" "I") (by decide +kernel)
  have hh_1 := (show ∀ w ∈ wsX110, w ∈ wsX11_forget by decide +kernel)
  have hh_2 := hts (.fieldLink RX11 157 "BoundDrawsModel" "compares" "I") (by decide +kernel)
  refine lv_aload_n hx hb dX11_forget_0 rfl (lv_at hl 0 rfl) ?_
  refine zc_iconst (z := ((0 : Nat) : Int)) hx hb dX11_forget_1 (by decide) ?_
  refine va_put (D := D) (ci := 10) (v := .int (iZ ((0 : Nat) : Int))) (ty := .int) (C := RX11) (T := TX11) (N := 26) hx hb hts hh_1 tyX11 tyX11_ok nmX11 hown hK hP hD hS 0 rfl rfl 0 (by decide) hh_0 (fun _ h9 => h9) rfl (by decide +kernel) rfl rfl (Nat.le_of_ble_eq_true rfl) dX11_forget_2 (fun H locs hP hD hS => ?_)
  have hP : va_P D vwCl [(mz, .inr (10, [.int (iZ ((0 : Nat) : Int)), .ref sA, .ref sB, .int (iZ ((rn : Nat) : Int)), .ref gO, .ref xO, .ref yO, .int (iZ ((un : Nat) : Int)), .ref dO, .ref zO, .ref wO, .ref mO, .int (iZ ((mn : Nat) : Int)), .ref aO, .ref bO, .int (iZ ((kc : Nat) : Int)), .ref uO, .ref vO, .int (iZ ((hT : Nat) : Int)), .int (iZ ((tu : Nat) : Int)), .int (iZ ((td : Nat) : Int)), .int (iZ ((ta : Nat) : Int)), .int (iZ ((tb : Nat) : Int)), .int (iZ ((tt : Nat) : Int)), .int (iZ ((tk : Nat) : Int)), .int (iZ ((tj : Nat) : Int))]))] H := hP
  have hD : va_D A [(mz, .inr (10, [.int (iZ ((0 : Nat) : Int)), .ref sA, .ref sB, .int (iZ ((rn : Nat) : Int)), .ref gO, .ref xO, .ref yO, .int (iZ ((un : Nat) : Int)), .ref dO, .ref zO, .ref wO, .ref mO, .int (iZ ((mn : Nat) : Int)), .ref aO, .ref bO, .int (iZ ((kc : Nat) : Int)), .ref uO, .ref vO, .int (iZ ((hT : Nat) : Int)), .int (iZ ((tu : Nat) : Int)), .int (iZ ((td : Nat) : Int)), .int (iZ ((ta : Nat) : Int)), .int (iZ ((tb : Nat) : Int)), .int (iZ ((tt : Nat) : Int)), .int (iZ ((tk : Nat) : Int)), .int (iZ ((tj : Nat) : Int))]))] := hD
  refine lv_aload_n hx hb dX11_forget_5 rfl (lv_at hl 0 rfl) ?_
  refine va_get (D := D) (ci := 10) (v := .int (iZ ((kc : Nat) : Int))) (C := RX11) (T := TX11) (N := 26) hx hb hts hh_1 hown hK hP 0 rfl rfl 15 (by decide) hh_2 (fun _ h9 => h9) rfl dX11_forget_6 ?_
  refine lv_istore_n (lv' := [(1, .int (iZ ((kc : Nat) : Int))), (0, .ref mz)]) hx hb dX11_forget_9 rfl hl (by decide) rfl (fun ls hl => ?_)
  refine lv_aload_n hx hb dX11_forget_10 rfl (lv_at hl 1 rfl) ?_
  refine zc_iconst (z := ((0 : Nat) : Int)) hx hb dX11_forget_11 (by decide) ?_
  refine va_put (D := D) (ci := 10) (v := .int (iZ ((0 : Nat) : Int))) (ty := .int) (C := RX11) (T := TX11) (N := 26) hx hb hts hh_1 tyX11 tyX11_ok nmX11 hown hK hP hD hS 0 rfl rfl 15 (by decide) hh_2 (fun _ h9 => h9) rfl (by decide +kernel) rfl rfl (Nat.le_of_ble_eq_true rfl) dX11_forget_12 (fun H locs hP hD hS => ?_)
  have hP : va_P D vwCl [(mz, .inr (10, [.int (iZ ((0 : Nat) : Int)), .ref sA, .ref sB, .int (iZ ((rn : Nat) : Int)), .ref gO, .ref xO, .ref yO, .int (iZ ((un : Nat) : Int)), .ref dO, .ref zO, .ref wO, .ref mO, .int (iZ ((mn : Nat) : Int)), .ref aO, .ref bO, .int (iZ ((0 : Nat) : Int)), .ref uO, .ref vO, .int (iZ ((hT : Nat) : Int)), .int (iZ ((tu : Nat) : Int)), .int (iZ ((td : Nat) : Int)), .int (iZ ((ta : Nat) : Int)), .int (iZ ((tb : Nat) : Int)), .int (iZ ((tt : Nat) : Int)), .int (iZ ((tk : Nat) : Int)), .int (iZ ((tj : Nat) : Int))]))] H := hP
  have hD : va_D A [(mz, .inr (10, [.int (iZ ((0 : Nat) : Int)), .ref sA, .ref sB, .int (iZ ((rn : Nat) : Int)), .ref gO, .ref xO, .ref yO, .int (iZ ((un : Nat) : Int)), .ref dO, .ref zO, .ref wO, .ref mO, .int (iZ ((mn : Nat) : Int)), .ref aO, .ref bO, .int (iZ ((0 : Nat) : Int)), .ref uO, .ref vO, .int (iZ ((hT : Nat) : Int)), .int (iZ ((tu : Nat) : Int)), .int (iZ ((td : Nat) : Int)), .int (iZ ((ta : Nat) : Int)), .int (iZ ((tb : Nat) : Int)), .int (iZ ((tt : Nat) : Int)), .int (iZ ((tk : Nat) : Int)), .int (iZ ((tj : Nat) : Int))]))] := hD
  refine lv_iload_n hx hb dX11_forget_15 rfl (lv_at hl 0 rfl) ?_
  exact hret _ (()) _ _ _ _ _ _ (Nat.le_of_ble_eq_true rfl) (Nat.le_of_ble_eq_true rfl) rfl dX11_forget_16 (rfl) hP hD hS

abbrev vHits (zn zk zu zd zs : Int) : Prop := (0 ≤ zn ∧ zn ≤ 30) ∧ (0 ≤ zk ∧ zk ≤ zn) ∧ (1 ≤ zd ∧ zd ≤ 1000) ∧ (0 ≤ zu ∧ zu ≤ zd) ∧ (zs = 0 ∨ zs = 1)
abbrev vTrust (za zb : Int) : Prop := (2 ≤ zb ∧ zb ≤ 1000) ∧ (1 ≤ za ∧ za ≤ zb - 1)
/-- what the calls answer, class and reference alike -/
abbrev sAbove (zn zk zu zd zs zi : Int) (r : Int64) : Prop := (vHits zn zk zu zd zs ∧ 0 ≤ zi ∧ zi ≤ 10 → r = lZ ((habv zn.toNat zk.toNat zu.toNat zd.toNat zs.toNat / B32 ^ zi.toNat % B32 : Nat) : Int)) ∧ (¬ (vHits zn zk zu zd zs ∧ 0 ≤ zi ∧ zi ≤ 10) → r = lZ (-1))
abbrev sOdds (zn zk zu zd zs za zb : Int) (r : Int32) : Prop := (vHits zn zk zu zd zs ∧ (1 ≤ zb ∧ zb ≤ 1000) ∧ (0 ≤ za ∧ za ≤ zb) → r = iZ (1 + cmpZ (habv zn.toNat zk.toNat zu.toNat zd.toNat zs.toNat * zb.toNat) (za.toNat * zd.toNat ^ zn.toNat))) ∧ (¬ (vHits zn zk zu zd zs ∧ (1 ≤ zb ∧ zb ≤ 1000) ∧ (0 ≤ za ∧ za ≤ zb)) → r = iZ (-1))
abbrev vBound (zn zk zs : Int) : Prop := (1 ≤ zn ∧ zn ≤ 30) ∧ (0 ≤ zk ∧ zk ≤ zn) ∧ (zs = 0 ∨ zs = 1)
abbrev sBound (zn zk zs za zb : Int) (r : Int32) : Prop := (vBound zn zk zs → vTrust za zb → r = iZ ((if zs = 0 then upr zn.toNat zk.toNat za.toNat zb.toNat else 1000 - upr zn.toNat (zn.toNat - zk.toNat) za.toNat zb.toNat : Nat) : Int)) ∧ (¬ vBound zn zk zs → r = iZ (-1))
abbrev vRow (zg zx zy : Int) : Prop := (0 ≤ zg ∧ zg ≤ 7) ∧ (0 ≤ zx ∧ zx ≤ 100) ∧ (0 ≤ zy ∧ zy ≤ 100)
abbrev sTurned (L : List (Int × Nat)) (zw : Int) (r : Int64) : Prop := (0 ≤ zw ∧ zw ≤ 2 → r = lZ (trnV L zw.toNat)) ∧ (¬ (0 ≤ zw ∧ zw ≤ 2) → r = lZ (-1))
abbrev sWins (n : Nat) (X Y : Nat → Nat) (zt zw : Int) (r : Int32) : Prop := ((0 ≤ zt ∧ zt ≤ 101) ∧ (0 ≤ zw ∧ zw ≤ 1) → r = iZ ((if zw = 0 then won X Y zt.toNat n else won Y X zt.toNat n : Nat) : Int)) ∧ (¬ ((0 ≤ zt ∧ zt ≤ 101) ∧ (0 ≤ zw ∧ zw ≤ 1)) → r = iZ (-1))
abbrev sEven (n : Nat) (X Y : Nat → Nat) (zt zs : Int) (r : Int64) : Prop := ((0 ≤ zt ∧ zt ≤ 101) ∧ (zs = 0 ∨ zs = 1) → r = lZ (capR (evU (won X Y zt.toNat n) (won Y X zt.toNat n)) (2 ^ (won X Y zt.toNat n + won Y X zt.toNat n)) zs)) ∧ (¬ ((0 ≤ zt ∧ zt ≤ 101) ∧ (zs = 0 ∨ zs = 1)) → r = lZ (-1))
abbrev vPerc (zu zd zs : Int) : Prop := (1 ≤ zd ∧ zd ≤ 1000) ∧ (0 ≤ zu ∧ zu ≤ zd) ∧ (zs = 0 ∨ zs = 1)
abbrev sPerc (t : Nat) (A0 : Nat → Int) (B0 : Nat → Nat) (zu zd zs : Int) (r : Int64) : Prop := (vPerc zu zd zs → t = 0 → r = lZ (-3)) ∧ (vPerc zu zd zs → ¬ t = 0 → r = lZ (mnV A0 B0 (pcI t zu.toNat zd.toNat) zs)) ∧ (¬ vPerc zu zd zs → r = lZ (-1))
abbrev vComp (zu zd : Int) : Prop := (1 ≤ zd ∧ zd ≤ 100000) ∧ (0 ≤ zu ∧ zu ≤ zd)
abbrev sRaised (kc : Nat) (U V : Nat → Nat) (zw zn zs : Int) (r : Int64) : Prop := ((0 ≤ zw ∧ zw ≤ 2) ∧ (zs = 0 ∨ zs = 1) → (0 ≤ zn ∧ zn < kc) → r = lZ (capR (rpr kc U V zw.toNat zn.toNat).1 (rpr kc U V zw.toNat zn.toNat).2 zs)) ∧ ((0 ≤ zw ∧ zw ≤ 2) ∧ (zs = 0 ∨ zs = 1) → ¬ (0 ≤ zn ∧ zn < kc) → r = lZ (-3)) ∧ (¬ ((0 ≤ zw ∧ zw ≤ 2) ∧ (zs = 0 ∨ zs = 1)) → r = lZ (-1))
abbrev vBegin (zu zd : Int) : Prop := (2 ≤ zd ∧ zd ≤ 100) ∧ (1 ≤ zu ∧ zu ≤ zd - 1)
theorem rpr_b {k : Nat} {U V : Nat → Nat} (h : cok k U V) {way j : Nat} (hj : j < k) : rpb (rpr k U V way j) := by
  unfold rpr
  split
  · have h1 := gr_b h hj
    have h2 := h.2 j hj
    exact ⟨h1.2.1, h2.1, by show V j ≤ _; omega⟩
  · split
    · exact rgr_b h _ k (Nat.le_refl k)
    · exact rls_b h _ k (Nat.le_refl k)
theorem evU_b {w l : Nat} (h : w + l ≤ 30) : ∀ j, j ≤ 31 → sumN (ch (w + l)) j ≤ j * 268435456
  | 0, _ => Nat.le_refl _
  | j + 1, hj => by
    have := evU_b h j (by omega)
    have h2 := ch_b30 (n := w + l) (k := j) h
    rw [sumN_s]; omega
def rmX10_isSide : Room := { frames := 0, cells := 0, slots := 0, locals := 0 }
set_option maxHeartbeats 4000000 in
set_option maxRecDepth 100000 in
theorem c_X10_isSide (l : Launch) (D : va_G) (cI cJ : ClassId) (zs : Int) (izs : iR zs) : Ci l D vwCl (tyT cI cJ) yX10_isSide wsX10_isSide rmX10_isSide [.int (iZ (zs))] [] (Unit) (fun r _ => bres r (zs = 0 ∨ zs = 1)) (fun _ => []) := by
  refine en_i (cc := cX10_isSide) (maxL := 1) (by decide) rfl [(0, .int (iZ (zs)))] (Nat.le_of_ble_eq_true rfl) rfl ?_
  intro p e s m args below meth c Q A hx hb hml hown hts hnm hK hP hD hA hS hret ls hl
  refine lv_iload_n hx hb dX10_isSide_0 rfl (lv_at hl 0 rfl) ?_
  refine zb_if_eq (x := (zs)) (tgt := 9) hx hb dX10_isSide_1 (by decide) ⟨by omega, by omega⟩ (fun c_1 => ?_) (fun c_1 => ?_)
  · refine zc_iconst (z := ((1 : Nat) : Int)) hx hb dX10_isSide_9 (by decide) ?_
    refine lv_goto (tgt := 14) hx hb dX10_isSide_10 (by decide) ?_
    exact hret _ (()) _ _ _ _ _ _ (Nat.le_of_ble_eq_true rfl) (Nat.le_of_ble_eq_true rfl) rfl dX10_isSide_14 (bres_t (by omega)) hP hD hS
  · refine lv_iload_n hx hb dX10_isSide_4 rfl (lv_at hl 0 rfl) ?_
    refine zc_iconst (z := ((1 : Nat) : Int)) hx hb dX10_isSide_5 (by decide) ?_
    refine zb_icmp_ne (x := (zs)) (y := ((1 : Nat) : Int)) (tgt := 13) hx hb dX10_isSide_6 (by decide) ⟨by omega, by omega⟩ ⟨by decide, by decide⟩ (fun c_6 => ?_) (fun c_6 => ?_)
    · refine zc_iconst (z := ((0 : Nat) : Int)) hx hb dX10_isSide_13 (by decide) ?_
      exact hret _ (()) _ _ _ _ _ _ (Nat.le_of_ble_eq_true rfl) (Nat.le_of_ble_eq_true rfl) rfl dX10_isSide_14 (bres_f (by omega)) hP hD hS
    · refine zc_iconst (z := ((1 : Nat) : Int)) hx hb dX10_isSide_9 (by decide) ?_
      refine lv_goto (tgt := 14) hx hb dX10_isSide_10 (by decide) ?_
      exact hret _ (()) _ _ _ _ _ _ (Nat.le_of_ble_eq_true rfl) (Nat.le_of_ble_eq_true rfl) rfl dX10_isSide_14 (bres_t (by omega)) hP hD hS
def rmX10_isTrust : Room := { frames := 1, cells := 0, slots := 0, locals := 22 }
set_option maxHeartbeats 4000000 in
set_option maxRecDepth 100000 in
theorem c_X10_isTrust (l : Launch) (D : va_G) (cI cJ : ClassId) (za : Int) (iza : iR za) (zb : Int) (izb : iR zb) : Ci l D vwCl (tyT cI cJ) yX10_isTrust wsX10_isTrust rmX10_isTrust [.int (iZ (za)), .int (iZ (zb))] [] (Unit) (fun r _ => bres r (vTrust za zb)) (fun _ => []) := by
  refine en_i (cc := cX10_isTrust) (maxL := 2) (by decide) rfl [(0, .int (iZ (za))), (1, .int (iZ (zb)))] (Nat.le_of_ble_eq_true rfl) rfl ?_
  intro p e s m args below meth c Q A hx hb hml hown hts hnm hK hP hD hA hS hret ls hl
  refine lv_iload_n hx hb dX10_isTrust_0 rfl (lv_at hl 1 rfl) ?_
  refine zc_iconst (z := ((2 : Nat) : Int)) hx hb dX10_isTrust_1 (by decide) ?_
  refine zc_sipush (z := ((1000 : Nat) : Int)) hx hb dX10_isTrust_2 (by decide) ?_
  refine ca_iS [.int (iZ (zb)), .int (iZ ((2 : Nat) : Int)), .int (iZ ((1000 : Nat) : Int))] [] [] 0 0 ⟨hx, hb, hml, hown, hts⟩ (c_X3_within l D cI cJ zb ((2 : Nat) : Int) ((1000 : Nat) : Int) ⟨by omega, by omega⟩ ⟨by omega, by omega⟩ ⟨by omega, by omega⟩) (va_cwS 3 hts gX10_isTrust_X3_within rfl rfl rfl (by decide +kernel) ⟨(Nat.le_of_ble_eq_true rfl), (Nat.le_of_ble_eq_true rfl)⟩) hK hP hD hS hA [] [] rfl rfl rfl rfl (by decide) rfl hl.1 rfl (Nat.le_of_ble_eq_true rfl) dX10_isTrust_5 ⟨(Nat.le_of_ble_eq_true rfl), (Nat.le_of_ble_eq_true rfl)⟩ (Nat.le_of_ble_eq_true rfl) (Nat.le_of_ble_eq_true rfl) (fun r_5 u9 H locs hw hP hD hS => ?_)
  obtain u9 := u9
  try dsimp only at hw
  obtain ⟨b1, wa1, wb1, wc1⟩ := hw
  have hP : va_P D vwCl [] H := hP
  have hD : va_D A [] := hD
  refine tp_i (y := (iZ (b1))) (wa1) ?_
  refine zb_if_eq (x := (b1)) (tgt := 26) hx hb dX10_isTrust_8 (by decide) ⟨by omega, by omega⟩ (fun c_8 => ?_) (fun c_8 => ?_)
  · refine zc_iconst (z := ((0 : Nat) : Int)) hx hb dX10_isTrust_26 (by decide) ?_
    exact hret _ (()) _ _ _ _ _ _ (Nat.le_of_ble_eq_true rfl) (Nat.le_of_ble_eq_true rfl) rfl dX10_isTrust_27 (bres_f (by omega)) hP hD hS
  · refine lv_iload_n hx hb dX10_isTrust_11 rfl (lv_at hl 0 rfl) ?_
    refine zc_iconst (z := ((1 : Nat) : Int)) hx hb dX10_isTrust_12 (by decide) ?_
    refine lv_iload_n hx hb dX10_isTrust_13 rfl (lv_at hl 1 rfl) ?_
    refine zc_iconst (z := ((1 : Nat) : Int)) hx hb dX10_isTrust_14 (by decide) ?_
    refine zi_sub (z := (zb - ((1 : Nat) : Int))) hx hb dX10_isTrust_15 rfl ?_
    refine ca_iS [.int (iZ (za)), .int (iZ ((1 : Nat) : Int)), .int (iZ (zb - ((1 : Nat) : Int)))] [] [] 0 0 ⟨hx, hb, hml, hown, hts⟩ (c_X3_within l D cI cJ za ((1 : Nat) : Int) (zb - ((1 : Nat) : Int)) ⟨by omega, by omega⟩ ⟨by omega, by omega⟩ ⟨by omega, by omega⟩) (va_cwS 3 hts gX10_isTrust_X3_within rfl rfl rfl (by decide +kernel) ⟨(Nat.le_of_ble_eq_true rfl), (Nat.le_of_ble_eq_true rfl)⟩) hK hP hD hS hA [] [] rfl rfl rfl rfl (by decide) rfl hl.1 rfl (Nat.le_of_ble_eq_true rfl) dX10_isTrust_16 ⟨(Nat.le_of_ble_eq_true rfl), (Nat.le_of_ble_eq_true rfl)⟩ (Nat.le_of_ble_eq_true rfl) (Nat.le_of_ble_eq_true rfl) (fun r_16 u9 H locs hw hP hD hS => ?_)
    obtain u9 := u9
    try dsimp only at hw
    obtain ⟨b2, wa2, wb2, wc2⟩ := hw
    have hP : va_P D vwCl [] H := hP
    have hD : va_D A [] := hD
    refine tp_i (y := (iZ (b2))) (wa2) ?_
    refine zb_if_eq (x := (b2)) (tgt := 26) hx hb dX10_isTrust_19 (by decide) ⟨by omega, by omega⟩ (fun c_19 => ?_) (fun c_19 => ?_)
    · refine zc_iconst (z := ((0 : Nat) : Int)) hx hb dX10_isTrust_26 (by decide) ?_
      exact hret _ (()) _ _ _ _ _ _ (Nat.le_of_ble_eq_true rfl) (Nat.le_of_ble_eq_true rfl) rfl dX10_isTrust_27 (bres_f (by omega)) hP hD hS
    · refine zc_iconst (z := ((1 : Nat) : Int)) hx hb dX10_isTrust_22 (by decide) ?_
      refine lv_goto (tgt := 27) hx hb dX10_isTrust_23 (by decide) ?_
      exact hret _ (()) _ _ _ _ _ _ (Nat.le_of_ble_eq_true rfl) (Nat.le_of_ble_eq_true rfl) rfl dX10_isTrust_27 (bres_t (by omega)) hP hD hS
def rmX10_areHits : Room := { frames := 1, cells := 0, slots := 0, locals := 22 }
set_option maxHeartbeats 4000000 in
set_option maxRecDepth 100000 in
theorem c_X10_areHits (l : Launch) (D : va_G) (cI cJ : ClassId) (zn : Int) (izn : iR zn) (zk : Int) (izk : iR zk) (zu : Int) (izu : iR zu) (zd : Int) (izd : iR zd) (zs : Int) (izs : iR zs) : Ci l D vwCl (tyT cI cJ) yX10_areHits wsX10_areHits rmX10_areHits [.int (iZ (zn)), .int (iZ (zk)), .int (iZ (zu)), .int (iZ (zd)), .int (iZ (zs))] [] (Unit) (fun r _ => bres r (vHits zn zk zu zd zs)) (fun _ => []) := by
  refine en_i (cc := cX10_areHits) (maxL := 5) (by decide) rfl [(0, .int (iZ (zn))), (1, .int (iZ (zk))), (2, .int (iZ (zu))), (3, .int (iZ (zd))), (4, .int (iZ (zs)))] (Nat.le_of_ble_eq_true rfl) rfl ?_
  intro p e s m args below meth c Q A hx hb hml hown hts hnm hK hP hD hA hS hret ls hl
  refine lv_iload_n hx hb dX10_areHits_0 rfl (lv_at hl 0 rfl) ?_
  refine zc_iconst (z := ((0 : Nat) : Int)) hx hb dX10_areHits_1 (by decide) ?_
  refine zc_bipush (z := ((30 : Nat) : Int)) hx hb dX10_areHits_2 (by decide) ?_
  refine ca_iS [.int (iZ (zn)), .int (iZ ((0 : Nat) : Int)), .int (iZ ((30 : Nat) : Int))] [] [] 0 0 ⟨hx, hb, hml, hown, hts⟩ (c_X3_within l D cI cJ zn ((0 : Nat) : Int) ((30 : Nat) : Int) ⟨by omega, by omega⟩ ⟨by omega, by omega⟩ ⟨by omega, by omega⟩) (va_cwS 3 hts gX10_areHits_X3_within rfl rfl rfl (by decide +kernel) ⟨(Nat.le_of_ble_eq_true rfl), (Nat.le_of_ble_eq_true rfl)⟩) hK hP hD hS hA [] [] rfl rfl rfl rfl (by decide) rfl hl.1 rfl (Nat.le_of_ble_eq_true rfl) dX10_areHits_4 ⟨(Nat.le_of_ble_eq_true rfl), (Nat.le_of_ble_eq_true rfl)⟩ (Nat.le_of_ble_eq_true rfl) (Nat.le_of_ble_eq_true rfl) (fun r_4 u9 H locs hw hP hD hS => ?_)
  obtain u9 := u9
  try dsimp only at hw
  obtain ⟨b1, wa1, wb1, wc1⟩ := hw
  have hP : va_P D vwCl [] H := hP
  have hD : va_D A [] := hD
  refine tp_i (y := (iZ (b1))) (wa1) ?_
  refine zb_if_eq (x := (b1)) (tgt := 51) hx hb dX10_areHits_7 (by decide) ⟨by omega, by omega⟩ (fun c_7 => ?_) (fun c_7 => ?_)
  · refine zc_iconst (z := ((0 : Nat) : Int)) hx hb dX10_areHits_51 (by decide) ?_
    exact hret _ (()) _ _ _ _ _ _ (Nat.le_of_ble_eq_true rfl) (Nat.le_of_ble_eq_true rfl) rfl dX10_areHits_52 (bres_f (by omega)) hP hD hS
  · refine lv_iload_n hx hb dX10_areHits_10 rfl (lv_at hl 1 rfl) ?_
    refine zc_iconst (z := ((0 : Nat) : Int)) hx hb dX10_areHits_11 (by decide) ?_
    refine lv_iload_n hx hb dX10_areHits_12 rfl (lv_at hl 0 rfl) ?_
    refine ca_iS [.int (iZ (zk)), .int (iZ ((0 : Nat) : Int)), .int (iZ (zn))] [] [] 0 0 ⟨hx, hb, hml, hown, hts⟩ (c_X3_within l D cI cJ zk ((0 : Nat) : Int) zn ⟨by omega, by omega⟩ ⟨by omega, by omega⟩ ⟨by omega, by omega⟩) (va_cwS 3 hts gX10_areHits_X3_within rfl rfl rfl (by decide +kernel) ⟨(Nat.le_of_ble_eq_true rfl), (Nat.le_of_ble_eq_true rfl)⟩) hK hP hD hS hA [] [] rfl rfl rfl rfl (by decide) rfl hl.1 rfl (Nat.le_of_ble_eq_true rfl) dX10_areHits_13 ⟨(Nat.le_of_ble_eq_true rfl), (Nat.le_of_ble_eq_true rfl)⟩ (Nat.le_of_ble_eq_true rfl) (Nat.le_of_ble_eq_true rfl) (fun r_13 u9 H locs hw hP hD hS => ?_)
    obtain u9 := u9
    try dsimp only at hw
    obtain ⟨b2, wa2, wb2, wc2⟩ := hw
    have hP : va_P D vwCl [] H := hP
    have hD : va_D A [] := hD
    refine tp_i (y := (iZ (b2))) (wa2) ?_
    refine zb_if_eq (x := (b2)) (tgt := 51) hx hb dX10_areHits_16 (by decide) ⟨by omega, by omega⟩ (fun c_16 => ?_) (fun c_16 => ?_)
    · refine zc_iconst (z := ((0 : Nat) : Int)) hx hb dX10_areHits_51 (by decide) ?_
      exact hret _ (()) _ _ _ _ _ _ (Nat.le_of_ble_eq_true rfl) (Nat.le_of_ble_eq_true rfl) rfl dX10_areHits_52 (bres_f (by omega)) hP hD hS
    · refine lv_iload_n hx hb dX10_areHits_19 rfl (lv_at hl 3 rfl) ?_
      refine zc_iconst (z := ((1 : Nat) : Int)) hx hb dX10_areHits_20 (by decide) ?_
      refine zc_sipush (z := ((1000 : Nat) : Int)) hx hb dX10_areHits_21 (by decide) ?_
      refine ca_iS [.int (iZ (zd)), .int (iZ ((1 : Nat) : Int)), .int (iZ ((1000 : Nat) : Int))] [] [] 0 0 ⟨hx, hb, hml, hown, hts⟩ (c_X3_within l D cI cJ zd ((1 : Nat) : Int) ((1000 : Nat) : Int) ⟨by omega, by omega⟩ ⟨by omega, by omega⟩ ⟨by omega, by omega⟩) (va_cwS 3 hts gX10_areHits_X3_within rfl rfl rfl (by decide +kernel) ⟨(Nat.le_of_ble_eq_true rfl), (Nat.le_of_ble_eq_true rfl)⟩) hK hP hD hS hA [] [] rfl rfl rfl rfl (by decide) rfl hl.1 rfl (Nat.le_of_ble_eq_true rfl) dX10_areHits_24 ⟨(Nat.le_of_ble_eq_true rfl), (Nat.le_of_ble_eq_true rfl)⟩ (Nat.le_of_ble_eq_true rfl) (Nat.le_of_ble_eq_true rfl) (fun r_24 u9 H locs hw hP hD hS => ?_)
      obtain u9 := u9
      try dsimp only at hw
      obtain ⟨b3, wa3, wb3, wc3⟩ := hw
      have hP : va_P D vwCl [] H := hP
      have hD : va_D A [] := hD
      refine tp_i (y := (iZ (b3))) (wa3) ?_
      refine zb_if_eq (x := (b3)) (tgt := 51) hx hb dX10_areHits_27 (by decide) ⟨by omega, by omega⟩ (fun c_27 => ?_) (fun c_27 => ?_)
      · refine zc_iconst (z := ((0 : Nat) : Int)) hx hb dX10_areHits_51 (by decide) ?_
        exact hret _ (()) _ _ _ _ _ _ (Nat.le_of_ble_eq_true rfl) (Nat.le_of_ble_eq_true rfl) rfl dX10_areHits_52 (bres_f (by omega)) hP hD hS
      · refine lv_iload_n hx hb dX10_areHits_30 rfl (lv_at hl 2 rfl) ?_
        refine zc_iconst (z := ((0 : Nat) : Int)) hx hb dX10_areHits_31 (by decide) ?_
        refine lv_iload_n hx hb dX10_areHits_32 rfl (lv_at hl 3 rfl) ?_
        refine ca_iS [.int (iZ (zu)), .int (iZ ((0 : Nat) : Int)), .int (iZ (zd))] [] [] 0 0 ⟨hx, hb, hml, hown, hts⟩ (c_X3_within l D cI cJ zu ((0 : Nat) : Int) zd ⟨by omega, by omega⟩ ⟨by omega, by omega⟩ ⟨by omega, by omega⟩) (va_cwS 3 hts gX10_areHits_X3_within rfl rfl rfl (by decide +kernel) ⟨(Nat.le_of_ble_eq_true rfl), (Nat.le_of_ble_eq_true rfl)⟩) hK hP hD hS hA [] [] rfl rfl rfl rfl (by decide) rfl hl.1 rfl (Nat.le_of_ble_eq_true rfl) dX10_areHits_33 ⟨(Nat.le_of_ble_eq_true rfl), (Nat.le_of_ble_eq_true rfl)⟩ (Nat.le_of_ble_eq_true rfl) (Nat.le_of_ble_eq_true rfl) (fun r_33 u9 H locs hw hP hD hS => ?_)
        obtain u9 := u9
        try dsimp only at hw
        obtain ⟨b4, wa4, wb4, wc4⟩ := hw
        have hP : va_P D vwCl [] H := hP
        have hD : va_D A [] := hD
        refine tp_i (y := (iZ (b4))) (wa4) ?_
        refine zb_if_eq (x := (b4)) (tgt := 51) hx hb dX10_areHits_36 (by decide) ⟨by omega, by omega⟩ (fun c_36 => ?_) (fun c_36 => ?_)
        · refine zc_iconst (z := ((0 : Nat) : Int)) hx hb dX10_areHits_51 (by decide) ?_
          exact hret _ (()) _ _ _ _ _ _ (Nat.le_of_ble_eq_true rfl) (Nat.le_of_ble_eq_true rfl) rfl dX10_areHits_52 (bres_f (by omega)) hP hD hS
        · refine lv_iload hx hb dX10_areHits_39 (lv_at hl 4 rfl) ?_
          refine ca_iS [.int (iZ (zs))] [] [] 0 0 ⟨hx, hb, hml, hown, hts⟩ (c_X10_isSide l D cI cJ zs ⟨by omega, by omega⟩) (va_cwS 1 hts gX10_areHits_X10_isSide rfl rfl rfl (by decide +kernel) ⟨(Nat.le_of_ble_eq_true rfl), (Nat.le_of_ble_eq_true rfl)⟩) hK hP hD hS hA [] [] rfl rfl rfl rfl (by decide) rfl hl.1 rfl (Nat.le_of_ble_eq_true rfl) dX10_areHits_41 ⟨(Nat.le_of_ble_eq_true rfl), (Nat.le_of_ble_eq_true rfl)⟩ (Nat.le_of_ble_eq_true rfl) (Nat.le_of_ble_eq_true rfl) (fun r_41 u9 H locs hw hP hD hS => ?_)
          obtain u9 := u9
          try dsimp only at hw
          obtain ⟨b5, wa5, wb5, wc5⟩ := hw
          have hP : va_P D vwCl [] H := hP
          have hD : va_D A [] := hD
          refine tp_i (y := (iZ (b5))) (wa5) ?_
          refine zb_if_eq (x := (b5)) (tgt := 51) hx hb dX10_areHits_44 (by decide) ⟨by omega, by omega⟩ (fun c_44 => ?_) (fun c_44 => ?_)
          · refine zc_iconst (z := ((0 : Nat) : Int)) hx hb dX10_areHits_51 (by decide) ?_
            exact hret _ (()) _ _ _ _ _ _ (Nat.le_of_ble_eq_true rfl) (Nat.le_of_ble_eq_true rfl) rfl dX10_areHits_52 (bres_f (by omega)) hP hD hS
          · refine zc_iconst (z := ((1 : Nat) : Int)) hx hb dX10_areHits_47 (by decide) ?_
            refine lv_goto (tgt := 52) hx hb dX10_areHits_48 (by decide) ?_
            exact hret _ (()) _ _ _ _ _ _ (Nat.le_of_ble_eq_true rfl) (Nat.le_of_ble_eq_true rfl) rfl dX10_areHits_52 (bres_t (by omega)) hP hD hS
def rmX10_above : Room := { frames := 5, cells := 0, slots := 0, locals := 129 }
set_option maxHeartbeats 4000000 in
set_option maxRecDepth 100000 in
theorem c_X10_above (l : Launch) (D : va_G) (cI cJ : ClassId) (h0 oH oR oU oT oM oC oL oA : Nat) (hs hp hm la lb : Nat) (g1 g2 : Nat → Nat) (u1 u2 : Nat) (zn : Int) (izn : iR zn) (zk : Int) (izk : iR zk) (zu : Int) (izu : iR zu) (zd : Int) (izd : iR zd) (zs : Int) (izs : iR zs) (zi : Int) (izi : iR zi) : Cl l D vwCl (tyT cI cJ) yX10_above wsX10_above rmX10_above [.ref h0, .int (iZ (zn)), .int (iZ (zk)), .int (iZ (zu)), .int (iZ (zd)), .int (iZ (zs)), .int (iZ (zi))] [(h0, .inr (9, [.ref oH, .ref oR, .ref oU, .ref oT, .ref oM, .ref oC, .ref oL, .ref oA])), (oH, .inr (1, [.ref hs, .ref hp, .ref hm])), (hs, .inr (8, [.ref la, .int (iZ ((u1 : Nat) : Int))])), (la, .inl (cJ, 14, .inr (.inl (LJ g1)))), (hp, .inr (8, [.ref lb, .int (iZ ((u2 : Nat) : Int))])), (lb, .inl (cJ, 14, .inr (.inl (LJ g2))))] (((Nat → Nat) × Nat) × ((Nat → Nat) × Nat)) (fun r _ => sAbove zn zk zu zd zs zi r) (fun r => [(h0, .inr (9, [.ref oH, .ref oR, .ref oU, .ref oT, .ref oM, .ref oC, .ref oL, .ref oA])), (oH, .inr (1, [.ref hs, .ref hp, .ref hm])), (hs, .inr (8, [.ref la, .int (iZ ((r.1.2 : Nat) : Int))])), (la, .inl (cJ, 14, .inr (.inl (LJ r.1.1)))), (hp, .inr (8, [.ref lb, .int (iZ ((r.2.2 : Nat) : Int))])), (lb, .inl (cJ, 14, .inr (.inl (LJ r.2.1))))]) := by
  refine en_l (cc := cX10_above) (maxL := 7) (by decide) rfl [(0, .ref h0), (1, .int (iZ (zn))), (2, .int (iZ (zk))), (3, .int (iZ (zu))), (4, .int (iZ (zd))), (5, .int (iZ (zs))), (6, .int (iZ (zi)))] (Nat.le_of_ble_eq_true rfl) rfl ?_
  intro p e s m args below meth c Q A hx hb hml hown hts hnm hK hP hD hA hS hret ls hl
  have hh_0 := hts (.constantLong RX10 75 (-1)) (by decide +kernel)
  have hh_1 := hts (.fieldLink RX10 10 "BoundDraws" "hits" "LBoundDraws$Hits;") (by decide +kernel)
  have hh_2 := (show ∀ w ∈ wsX100, w ∈ wsX10_above by decide +kernel)
  refine lv_iload_n hx hb dX10_above_0 rfl (lv_at hl 1 rfl) ?_
  refine lv_iload_n hx hb dX10_above_1 rfl (lv_at hl 2 rfl) ?_
  refine lv_iload_n hx hb dX10_above_2 rfl (lv_at hl 3 rfl) ?_
  refine lv_iload hx hb dX10_above_3 (lv_at hl 4 rfl) ?_
  refine lv_iload hx hb dX10_above_5 (lv_at hl 5 rfl) ?_
  refine ca_iS [.int (iZ (zn)), .int (iZ (zk)), .int (iZ (zu)), .int (iZ (zd)), .int (iZ (zs))] [] [(h0, .inr (9, [.ref oH, .ref oR, .ref oU, .ref oT, .ref oM, .ref oC, .ref oL, .ref oA])), (oH, .inr (1, [.ref hs, .ref hp, .ref hm])), (hs, .inr (8, [.ref la, .int (iZ ((u1 : Nat) : Int))])), (la, .inl (cJ, 14, .inr (.inl (LJ g1)))), (hp, .inr (8, [.ref lb, .int (iZ ((u2 : Nat) : Int))])), (lb, .inl (cJ, 14, .inr (.inl (LJ g2))))] 0 0 ⟨hx, hb, hml, hown, hts⟩ (c_X10_areHits l D cI cJ zn izn zk izk zu izu zd izd zs izs) (va_cwS 5 hts gX10_above_X10_areHits rfl rfl rfl (by decide +kernel) ⟨(Nat.le_of_ble_eq_true rfl), (Nat.le_of_ble_eq_true rfl)⟩) hK hP hD hS hA [] [0, 1, 2, 3, 4, 5] rfl rfl rfl rfl (by decide) rfl hl.1 rfl (Nat.le_of_ble_eq_true rfl) dX10_above_7 ⟨(Nat.le_of_ble_eq_true rfl), (Nat.le_of_ble_eq_true rfl)⟩ (Nat.le_of_ble_eq_true rfl) (Nat.le_of_ble_eq_true rfl) (fun r_7 u9 H locs hw hP hD hS => ?_)
  obtain u9 := u9
  try dsimp only at hw
  obtain ⟨b1, wa1, wb1, wc1⟩ := hw
  have hP : va_P D vwCl [(h0, .inr (9, [.ref oH, .ref oR, .ref oU, .ref oT, .ref oM, .ref oC, .ref oL, .ref oA])), (oH, .inr (1, [.ref hs, .ref hp, .ref hm])), (hs, .inr (8, [.ref la, .int (iZ ((u1 : Nat) : Int))])), (la, .inl (cJ, 14, .inr (.inl (LJ g1)))), (hp, .inr (8, [.ref lb, .int (iZ ((u2 : Nat) : Int))])), (lb, .inl (cJ, 14, .inr (.inl (LJ g2))))] H := hP
  have hD : va_D A [(h0, .inr (9, [.ref oH, .ref oR, .ref oU, .ref oT, .ref oM, .ref oC, .ref oL, .ref oA])), (oH, .inr (1, [.ref hs, .ref hp, .ref hm])), (hs, .inr (8, [.ref la, .int (iZ ((u1 : Nat) : Int))])), (la, .inl (cJ, 14, .inr (.inl (LJ g1)))), (hp, .inr (8, [.ref lb, .int (iZ ((u2 : Nat) : Int))])), (lb, .inl (cJ, 14, .inr (.inl (LJ g2))))] := hD
  refine tp_i (y := (iZ (b1))) (wa1) ?_
  refine zb_if_eq (x := (b1)) (tgt := 24) hx hb dX10_above_10 (by decide) ⟨by omega, by omega⟩ (fun c_10 => ?_) (fun c_10 => ?_)
  · have nv1 : ¬ vHits zn zk zu zd zs := fun h9 => absurd (wc1.mpr h9) (by omega)
    clear wc1
    refine lv_ldc2 hx hb hown hh_0 dX10_above_24 (tp_l (y := lZ (-1 : Int)) (by decide) ?_)
    exact hret _ ((g1, u1), (g2, u2)) _ _ _ _ _ _ (Nat.le_of_ble_eq_true rfl) (Nat.le_of_ble_eq_true rfl) dX10_above_27 (by first | exact ⟨fun h9 => absurd h9.1 nv1, fun _ => rfl⟩ | exact ⟨fun h9 => absurd h9.2 (by omega), fun _ => rfl⟩) hP hD hS
  · have hv1 : vHits zn zk zu zd zs := wc1.mp (by omega)
    clear wc1
    obtain ⟨⟨v1, v2⟩, ⟨v3, v4⟩, ⟨v5, v6⟩, ⟨v7, v8⟩, v9⟩ := hv1
    refine lv_iload hx hb dX10_above_13 (lv_at hl 6 rfl) ?_
    refine zc_iconst (z := ((0 : Nat) : Int)) hx hb dX10_above_15 (by decide) ?_
    refine zc_bipush (z := ((10 : Nat) : Int)) hx hb dX10_above_16 (by decide) ?_
    refine ca_iS [.int (iZ (zi)), .int (iZ ((0 : Nat) : Int)), .int (iZ ((10 : Nat) : Int))] [] [(h0, .inr (9, [.ref oH, .ref oR, .ref oU, .ref oT, .ref oM, .ref oC, .ref oL, .ref oA])), (oH, .inr (1, [.ref hs, .ref hp, .ref hm])), (hs, .inr (8, [.ref la, .int (iZ ((u1 : Nat) : Int))])), (la, .inl (cJ, 14, .inr (.inl (LJ g1)))), (hp, .inr (8, [.ref lb, .int (iZ ((u2 : Nat) : Int))])), (lb, .inl (cJ, 14, .inr (.inl (LJ g2))))] 0 0 ⟨hx, hb, hml, hown, hts⟩ (c_X3_within l D cI cJ zi ((0 : Nat) : Int) ((10 : Nat) : Int) ⟨by omega, by omega⟩ ⟨by omega, by omega⟩ ⟨by omega, by omega⟩) (va_cwS 3 hts gX10_above_X3_within rfl rfl rfl (by decide +kernel) ⟨(Nat.le_of_ble_eq_true rfl), (Nat.le_of_ble_eq_true rfl)⟩) hK hP hD hS hA [] [0, 1, 2, 3, 4, 5] rfl rfl rfl rfl (by decide) rfl hl.1 rfl (Nat.le_of_ble_eq_true rfl) dX10_above_18 ⟨(Nat.le_of_ble_eq_true rfl), (Nat.le_of_ble_eq_true rfl)⟩ (Nat.le_of_ble_eq_true rfl) (Nat.le_of_ble_eq_true rfl) (fun r_18 u9 H locs hw hP hD hS => ?_)
    obtain u9 := u9
    try dsimp only at hw
    obtain ⟨b2, wa2, wb2, wc2⟩ := hw
    have hP : va_P D vwCl [(h0, .inr (9, [.ref oH, .ref oR, .ref oU, .ref oT, .ref oM, .ref oC, .ref oL, .ref oA])), (oH, .inr (1, [.ref hs, .ref hp, .ref hm])), (hs, .inr (8, [.ref la, .int (iZ ((u1 : Nat) : Int))])), (la, .inl (cJ, 14, .inr (.inl (LJ g1)))), (hp, .inr (8, [.ref lb, .int (iZ ((u2 : Nat) : Int))])), (lb, .inl (cJ, 14, .inr (.inl (LJ g2))))] H := hP
    have hD : va_D A [(h0, .inr (9, [.ref oH, .ref oR, .ref oU, .ref oT, .ref oM, .ref oC, .ref oL, .ref oA])), (oH, .inr (1, [.ref hs, .ref hp, .ref hm])), (hs, .inr (8, [.ref la, .int (iZ ((u1 : Nat) : Int))])), (la, .inl (cJ, 14, .inr (.inl (LJ g1)))), (hp, .inr (8, [.ref lb, .int (iZ ((u2 : Nat) : Int))])), (lb, .inl (cJ, 14, .inr (.inl (LJ g2))))] := hD
    refine tp_i (y := (iZ (b2))) (wa2) ?_
    refine zb_if_ne (x := (b2)) (tgt := 28) hx hb dX10_above_21 (by decide) ⟨by omega, by omega⟩ (fun c_21 => ?_) (fun c_21 => ?_)
    · obtain ⟨n, rfl⟩ : ∃ x9 : Nat, zn = (x9 : Int) := ⟨zn.toNat, by omega⟩
      obtain ⟨k, rfl⟩ : ∃ x9 : Nat, zk = (x9 : Int) := ⟨zk.toNat, by omega⟩
      obtain ⟨up, rfl⟩ : ∃ x9 : Nat, zu = (x9 : Int) := ⟨zu.toNat, by omega⟩
      obtain ⟨down, rfl⟩ : ∃ x9 : Nat, zd = (x9 : Int) := ⟨zd.toNat, by omega⟩
      obtain ⟨side, rfl⟩ : ∃ x9 : Nat, zs = (x9 : Int) := ⟨zs.toNat, by omega⟩
      obtain ⟨i, rfl⟩ : ∃ x9 : Nat, zi = (x9 : Int) := ⟨zi.toNat, by omega⟩
      refine lv_aload_n hx hb dX10_above_28 rfl (lv_at hl 0 rfl) ?_
      refine va_get (D := D) (ci := 9) (v := .ref oH) (C := RX10) (T := TX10) (N := 8) hx hb hts hh_2 hown hK hP 0 rfl rfl 0 (by decide) hh_1 (fun _ h9 => h9) rfl dX10_above_29 ?_
      refine lv_iload_n hx hb dX10_above_32 rfl (lv_at hl 1 rfl) ?_
      refine lv_iload_n hx hb dX10_above_33 rfl (lv_at hl 2 rfl) ?_
      refine lv_iload_n hx hb dX10_above_34 rfl (lv_at hl 3 rfl) ?_
      refine lv_iload hx hb dX10_above_35 (lv_at hl 4 rfl) ?_
      refine lv_iload hx hb dX10_above_37 (lv_at hl 5 rfl) ?_
      refine lv_iload hx hb dX10_above_39 (lv_at hl 6 rfl) ?_
      refine ca_lV [.int (iZ ((n : Nat) : Int)), .int (iZ ((k : Nat) : Int)), .int (iZ ((up : Nat) : Int)), .int (iZ ((down : Nat) : Int)), .int (iZ ((side : Nat) : Int)), .int (iZ ((i : Nat) : Int))] [] [(h0, .inr (9, [.ref oH, .ref oR, .ref oU, .ref oT, .ref oM, .ref oC, .ref oL, .ref oA]))] 0 0 ⟨hx, hb, hml, hown, hts⟩ (c_X1_limbOfAbove l D cI cJ oH hs hp hm la lb g1 g2 u1 u2 n k up down side (by omega) (by omega) (by omega) (by omega) (by omega) i (by omega)) (cwV 6 hts gX10_above_X1_limbOfAbove rfl rfl rfl (by decide +kernel) ⟨(Nat.le_of_ble_eq_true rfl), (Nat.le_of_ble_eq_true rfl)⟩) hK hP hD hS hA [1, 2, 3, 4, 5] [0] rfl rfl rfl rfl (by decide) 0 rfl rfl rfl hl.1 rfl (Nat.le_of_ble_eq_true rfl) dX10_above_41 ⟨(Nat.le_of_ble_eq_true rfl), (Nat.le_of_ble_eq_true rfl)⟩ (Nat.le_of_ble_eq_true rfl) (Nat.le_of_ble_eq_true rfl) (fun r_41 u9 H locs hw hP hD hS => ?_)
      obtain ⟨⟨gA, uA⟩, ⟨gB, uB⟩⟩ := u9
      try dsimp only at hw
      have hP : va_P D vwCl [(h0, .inr (9, [.ref oH, .ref oR, .ref oU, .ref oT, .ref oM, .ref oC, .ref oL, .ref oA])), (oH, .inr (1, [.ref hs, .ref hp, .ref hm])), (hs, .inr (8, [.ref la, .int (iZ ((uA : Nat) : Int))])), (la, .inl (cJ, 14, .inr (.inl (LJ gA)))), (hp, .inr (8, [.ref lb, .int (iZ ((uB : Nat) : Int))])), (lb, .inl (cJ, 14, .inr (.inl (LJ gB))))] H := hP
      have hD : va_D A [(h0, .inr (9, [.ref oH, .ref oR, .ref oU, .ref oT, .ref oM, .ref oC, .ref oL, .ref oA])), (oH, .inr (1, [.ref hs, .ref hp, .ref hm])), (hs, .inr (8, [.ref la, .int (iZ ((uA : Nat) : Int))])), (la, .inl (cJ, 14, .inr (.inl (LJ gA)))), (hp, .inr (8, [.ref lb, .int (iZ ((uB : Nat) : Int))])), (lb, .inl (cJ, 14, .inr (.inl (LJ gB))))] := hD
      exact hret _ ((gA, uA), (gB, uB)) _ _ _ _ _ _ (Nat.le_of_ble_eq_true rfl) (Nat.le_of_ble_eq_true rfl) dX10_above_44 (⟨fun _ => hw, fun h9 => absurd ⟨⟨⟨by omega, by omega⟩, ⟨by omega, by omega⟩, ⟨by omega, by omega⟩, ⟨by omega, by omega⟩, by omega⟩, by omega, by omega⟩ h9⟩) hP hD hS
    · refine lv_ldc2 hx hb hown hh_0 dX10_above_24 (tp_l (y := lZ (-1 : Int)) (by decide) ?_)
      exact hret _ ((g1, u1), (g2, u2)) _ _ _ _ _ _ (Nat.le_of_ble_eq_true rfl) (Nat.le_of_ble_eq_true rfl) dX10_above_27 (by first | exact ⟨fun h9 => absurd h9.1 nv1, fun _ => rfl⟩ | exact ⟨fun h9 => absurd h9.2 (by omega), fun _ => rfl⟩) hP hD hS
def rmX10_odds : Room := { frames := 5, cells := 0, slots := 0, locals := 130 }
set_option maxHeartbeats 4000000 in
set_option maxRecDepth 100000 in
theorem c_X10_odds (l : Launch) (D : va_G) (cI cJ : ClassId) (h0 oH oR oU oT oM oC oL oA : Nat) (hs hp hm la lb lc : Nat) (g1 g2 g3 : Nat → Nat) (u1 u2 u3 : Nat) (zn : Int) (izn : iR zn) (zk : Int) (izk : iR zk) (zu : Int) (izu : iR zu) (zd : Int) (izd : iR zd) (zs : Int) (izs : iR zs) (za : Int) (iza : iR za) (zb : Int) (izb : iR zb) : Ci l D vwCl (tyT cI cJ) yX10_odds wsX10_odds rmX10_odds [.ref h0, .int (iZ (zn)), .int (iZ (zk)), .int (iZ (zu)), .int (iZ (zd)), .int (iZ (zs)), .int (iZ (za)), .int (iZ (zb))] [(h0, .inr (9, [.ref oH, .ref oR, .ref oU, .ref oT, .ref oM, .ref oC, .ref oL, .ref oA])), (oH, .inr (1, [.ref hs, .ref hp, .ref hm])), (hs, .inr (8, [.ref la, .int (iZ ((u1 : Nat) : Int))])), (la, .inl (cJ, 14, .inr (.inl (LJ g1)))), (hp, .inr (8, [.ref lb, .int (iZ ((u2 : Nat) : Int))])), (lb, .inl (cJ, 14, .inr (.inl (LJ g2)))), (hm, .inr (8, [.ref lc, .int (iZ ((u3 : Nat) : Int))])), (lc, .inl (cJ, 14, .inr (.inl (LJ g3))))] (((Nat → Nat) × Nat) × ((Nat → Nat) × Nat) × ((Nat → Nat) × Nat)) (fun r _ => sOdds zn zk zu zd zs za zb r) (fun r => [(h0, .inr (9, [.ref oH, .ref oR, .ref oU, .ref oT, .ref oM, .ref oC, .ref oL, .ref oA])), (oH, .inr (1, [.ref hs, .ref hp, .ref hm])), (hs, .inr (8, [.ref la, .int (iZ ((r.1.2 : Nat) : Int))])), (la, .inl (cJ, 14, .inr (.inl (LJ r.1.1)))), (hp, .inr (8, [.ref lb, .int (iZ ((r.2.1.2 : Nat) : Int))])), (lb, .inl (cJ, 14, .inr (.inl (LJ r.2.1.1)))), (hm, .inr (8, [.ref lc, .int (iZ ((r.2.2.2 : Nat) : Int))])), (lc, .inl (cJ, 14, .inr (.inl (LJ r.2.2.1))))]) := by
  refine en_i (cc := cX10_odds) (maxL := 8) (by decide) rfl [(0, .ref h0), (1, .int (iZ (zn))), (2, .int (iZ (zk))), (3, .int (iZ (zu))), (4, .int (iZ (zd))), (5, .int (iZ (zs))), (6, .int (iZ (za))), (7, .int (iZ (zb)))] (Nat.le_of_ble_eq_true rfl) rfl ?_
  intro p e s m args below meth c Q A hx hb hml hown hts hnm hK hP hD hA hS hret ls hl
  have hh_0 := hts (.fieldLink RX10 10 "BoundDraws" "hits" "LBoundDraws$Hits;") (by decide +kernel)
  have hh_1 := (show ∀ w ∈ wsX100, w ∈ wsX10_odds by decide +kernel)
  refine lv_iload_n hx hb dX10_odds_0 rfl (lv_at hl 1 rfl) ?_
  refine lv_iload_n hx hb dX10_odds_1 rfl (lv_at hl 2 rfl) ?_
  refine lv_iload_n hx hb dX10_odds_2 rfl (lv_at hl 3 rfl) ?_
  refine lv_iload hx hb dX10_odds_3 (lv_at hl 4 rfl) ?_
  refine lv_iload hx hb dX10_odds_5 (lv_at hl 5 rfl) ?_
  refine ca_iS [.int (iZ (zn)), .int (iZ (zk)), .int (iZ (zu)), .int (iZ (zd)), .int (iZ (zs))] [] [(h0, .inr (9, [.ref oH, .ref oR, .ref oU, .ref oT, .ref oM, .ref oC, .ref oL, .ref oA])), (oH, .inr (1, [.ref hs, .ref hp, .ref hm])), (hs, .inr (8, [.ref la, .int (iZ ((u1 : Nat) : Int))])), (la, .inl (cJ, 14, .inr (.inl (LJ g1)))), (hp, .inr (8, [.ref lb, .int (iZ ((u2 : Nat) : Int))])), (lb, .inl (cJ, 14, .inr (.inl (LJ g2)))), (hm, .inr (8, [.ref lc, .int (iZ ((u3 : Nat) : Int))])), (lc, .inl (cJ, 14, .inr (.inl (LJ g3))))] 0 0 ⟨hx, hb, hml, hown, hts⟩ (c_X10_areHits l D cI cJ zn izn zk izk zu izu zd izd zs izs) (va_cwS 5 hts gX10_odds_X10_areHits rfl rfl rfl (by decide +kernel) ⟨(Nat.le_of_ble_eq_true rfl), (Nat.le_of_ble_eq_true rfl)⟩) hK hP hD hS hA [] [0, 1, 2, 3, 4, 5, 6, 7] rfl rfl rfl rfl (by decide) rfl hl.1 rfl (Nat.le_of_ble_eq_true rfl) dX10_odds_7 ⟨(Nat.le_of_ble_eq_true rfl), (Nat.le_of_ble_eq_true rfl)⟩ (Nat.le_of_ble_eq_true rfl) (Nat.le_of_ble_eq_true rfl) (fun r_7 u9 H locs hw hP hD hS => ?_)
  obtain u9 := u9
  try dsimp only at hw
  obtain ⟨b1, wa1, wb1, wc1⟩ := hw
  have hP : va_P D vwCl [(h0, .inr (9, [.ref oH, .ref oR, .ref oU, .ref oT, .ref oM, .ref oC, .ref oL, .ref oA])), (oH, .inr (1, [.ref hs, .ref hp, .ref hm])), (hs, .inr (8, [.ref la, .int (iZ ((u1 : Nat) : Int))])), (la, .inl (cJ, 14, .inr (.inl (LJ g1)))), (hp, .inr (8, [.ref lb, .int (iZ ((u2 : Nat) : Int))])), (lb, .inl (cJ, 14, .inr (.inl (LJ g2)))), (hm, .inr (8, [.ref lc, .int (iZ ((u3 : Nat) : Int))])), (lc, .inl (cJ, 14, .inr (.inl (LJ g3))))] H := hP
  have hD : va_D A [(h0, .inr (9, [.ref oH, .ref oR, .ref oU, .ref oT, .ref oM, .ref oC, .ref oL, .ref oA])), (oH, .inr (1, [.ref hs, .ref hp, .ref hm])), (hs, .inr (8, [.ref la, .int (iZ ((u1 : Nat) : Int))])), (la, .inl (cJ, 14, .inr (.inl (LJ g1)))), (hp, .inr (8, [.ref lb, .int (iZ ((u2 : Nat) : Int))])), (lb, .inl (cJ, 14, .inr (.inl (LJ g2)))), (hm, .inr (8, [.ref lc, .int (iZ ((u3 : Nat) : Int))])), (lc, .inl (cJ, 14, .inr (.inl (LJ g3))))] := hD
  refine tp_i (y := (iZ (b1))) (wa1) ?_
  refine zb_if_eq (x := (b1)) (tgt := 36) hx hb dX10_odds_10 (by decide) ⟨by omega, by omega⟩ (fun c_10 => ?_) (fun c_10 => ?_)
  · have nv1 : ¬ vHits zn zk zu zd zs := fun h9 => absurd (wc1.mpr h9) (by omega)
    clear wc1
    refine zc_iconst (z := (-1 : Int)) hx hb dX10_odds_36 (by decide) ?_
    exact hret _ ((g1, u1), (g2, u2), (g3, u3)) _ _ _ _ _ _ (Nat.le_of_ble_eq_true rfl) (Nat.le_of_ble_eq_true rfl) rfl dX10_odds_37 (by first | exact ⟨fun h9 => absurd h9.1 nv1, fun _ => rfl⟩ | exact ⟨fun h9 => absurd h9.2 (by omega), fun _ => rfl⟩) hP hD hS
  · have hv1 : vHits zn zk zu zd zs := wc1.mp (by omega)
    clear wc1
    obtain ⟨⟨v1, v2⟩, ⟨v3, v4⟩, ⟨v5, v6⟩, ⟨v7, v8⟩, v9⟩ := hv1
    refine lv_iload hx hb dX10_odds_13 (lv_at hl 7 rfl) ?_
    refine zc_iconst (z := ((1 : Nat) : Int)) hx hb dX10_odds_15 (by decide) ?_
    refine zc_sipush (z := ((1000 : Nat) : Int)) hx hb dX10_odds_16 (by decide) ?_
    refine ca_iS [.int (iZ (zb)), .int (iZ ((1 : Nat) : Int)), .int (iZ ((1000 : Nat) : Int))] [] [(h0, .inr (9, [.ref oH, .ref oR, .ref oU, .ref oT, .ref oM, .ref oC, .ref oL, .ref oA])), (oH, .inr (1, [.ref hs, .ref hp, .ref hm])), (hs, .inr (8, [.ref la, .int (iZ ((u1 : Nat) : Int))])), (la, .inl (cJ, 14, .inr (.inl (LJ g1)))), (hp, .inr (8, [.ref lb, .int (iZ ((u2 : Nat) : Int))])), (lb, .inl (cJ, 14, .inr (.inl (LJ g2)))), (hm, .inr (8, [.ref lc, .int (iZ ((u3 : Nat) : Int))])), (lc, .inl (cJ, 14, .inr (.inl (LJ g3))))] 0 0 ⟨hx, hb, hml, hown, hts⟩ (c_X3_within l D cI cJ zb ((1 : Nat) : Int) ((1000 : Nat) : Int) ⟨by omega, by omega⟩ ⟨by omega, by omega⟩ ⟨by omega, by omega⟩) (va_cwS 3 hts gX10_odds_X3_within rfl rfl rfl (by decide +kernel) ⟨(Nat.le_of_ble_eq_true rfl), (Nat.le_of_ble_eq_true rfl)⟩) hK hP hD hS hA [] [0, 1, 2, 3, 4, 5, 6, 7] rfl rfl rfl rfl (by decide) rfl hl.1 rfl (Nat.le_of_ble_eq_true rfl) dX10_odds_19 ⟨(Nat.le_of_ble_eq_true rfl), (Nat.le_of_ble_eq_true rfl)⟩ (Nat.le_of_ble_eq_true rfl) (Nat.le_of_ble_eq_true rfl) (fun r_19 u9 H locs hw hP hD hS => ?_)
    obtain u9 := u9
    try dsimp only at hw
    obtain ⟨b2, wa2, wb2, wc2⟩ := hw
    have hP : va_P D vwCl [(h0, .inr (9, [.ref oH, .ref oR, .ref oU, .ref oT, .ref oM, .ref oC, .ref oL, .ref oA])), (oH, .inr (1, [.ref hs, .ref hp, .ref hm])), (hs, .inr (8, [.ref la, .int (iZ ((u1 : Nat) : Int))])), (la, .inl (cJ, 14, .inr (.inl (LJ g1)))), (hp, .inr (8, [.ref lb, .int (iZ ((u2 : Nat) : Int))])), (lb, .inl (cJ, 14, .inr (.inl (LJ g2)))), (hm, .inr (8, [.ref lc, .int (iZ ((u3 : Nat) : Int))])), (lc, .inl (cJ, 14, .inr (.inl (LJ g3))))] H := hP
    have hD : va_D A [(h0, .inr (9, [.ref oH, .ref oR, .ref oU, .ref oT, .ref oM, .ref oC, .ref oL, .ref oA])), (oH, .inr (1, [.ref hs, .ref hp, .ref hm])), (hs, .inr (8, [.ref la, .int (iZ ((u1 : Nat) : Int))])), (la, .inl (cJ, 14, .inr (.inl (LJ g1)))), (hp, .inr (8, [.ref lb, .int (iZ ((u2 : Nat) : Int))])), (lb, .inl (cJ, 14, .inr (.inl (LJ g2)))), (hm, .inr (8, [.ref lc, .int (iZ ((u3 : Nat) : Int))])), (lc, .inl (cJ, 14, .inr (.inl (LJ g3))))] := hD
    refine tp_i (y := (iZ (b2))) (wa2) ?_
    refine zb_if_eq (x := (b2)) (tgt := 36) hx hb dX10_odds_22 (by decide) ⟨by omega, by omega⟩ (fun c_22 => ?_) (fun c_22 => ?_)
    · refine zc_iconst (z := (-1 : Int)) hx hb dX10_odds_36 (by decide) ?_
      exact hret _ ((g1, u1), (g2, u2), (g3, u3)) _ _ _ _ _ _ (Nat.le_of_ble_eq_true rfl) (Nat.le_of_ble_eq_true rfl) rfl dX10_odds_37 (by first | exact ⟨fun h9 => absurd h9.1 nv1, fun _ => rfl⟩ | exact ⟨fun h9 => absurd h9.2 (by omega), fun _ => rfl⟩) hP hD hS
    · refine lv_iload hx hb dX10_odds_25 (lv_at hl 6 rfl) ?_
      refine zc_iconst (z := ((0 : Nat) : Int)) hx hb dX10_odds_27 (by decide) ?_
      refine lv_iload hx hb dX10_odds_28 (lv_at hl 7 rfl) ?_
      refine ca_iS [.int (iZ (za)), .int (iZ ((0 : Nat) : Int)), .int (iZ (zb))] [] [(h0, .inr (9, [.ref oH, .ref oR, .ref oU, .ref oT, .ref oM, .ref oC, .ref oL, .ref oA])), (oH, .inr (1, [.ref hs, .ref hp, .ref hm])), (hs, .inr (8, [.ref la, .int (iZ ((u1 : Nat) : Int))])), (la, .inl (cJ, 14, .inr (.inl (LJ g1)))), (hp, .inr (8, [.ref lb, .int (iZ ((u2 : Nat) : Int))])), (lb, .inl (cJ, 14, .inr (.inl (LJ g2)))), (hm, .inr (8, [.ref lc, .int (iZ ((u3 : Nat) : Int))])), (lc, .inl (cJ, 14, .inr (.inl (LJ g3))))] 0 0 ⟨hx, hb, hml, hown, hts⟩ (c_X3_within l D cI cJ za ((0 : Nat) : Int) zb ⟨by omega, by omega⟩ ⟨by omega, by omega⟩ ⟨by omega, by omega⟩) (va_cwS 3 hts gX10_odds_X3_within rfl rfl rfl (by decide +kernel) ⟨(Nat.le_of_ble_eq_true rfl), (Nat.le_of_ble_eq_true rfl)⟩) hK hP hD hS hA [] [0, 1, 2, 3, 4, 5, 6, 7] rfl rfl rfl rfl (by decide) rfl hl.1 rfl (Nat.le_of_ble_eq_true rfl) dX10_odds_30 ⟨(Nat.le_of_ble_eq_true rfl), (Nat.le_of_ble_eq_true rfl)⟩ (Nat.le_of_ble_eq_true rfl) (Nat.le_of_ble_eq_true rfl) (fun r_30 u9 H locs hw hP hD hS => ?_)
      obtain u9 := u9
      try dsimp only at hw
      obtain ⟨b3, wa3, wb3, wc3⟩ := hw
      have hP : va_P D vwCl [(h0, .inr (9, [.ref oH, .ref oR, .ref oU, .ref oT, .ref oM, .ref oC, .ref oL, .ref oA])), (oH, .inr (1, [.ref hs, .ref hp, .ref hm])), (hs, .inr (8, [.ref la, .int (iZ ((u1 : Nat) : Int))])), (la, .inl (cJ, 14, .inr (.inl (LJ g1)))), (hp, .inr (8, [.ref lb, .int (iZ ((u2 : Nat) : Int))])), (lb, .inl (cJ, 14, .inr (.inl (LJ g2)))), (hm, .inr (8, [.ref lc, .int (iZ ((u3 : Nat) : Int))])), (lc, .inl (cJ, 14, .inr (.inl (LJ g3))))] H := hP
      have hD : va_D A [(h0, .inr (9, [.ref oH, .ref oR, .ref oU, .ref oT, .ref oM, .ref oC, .ref oL, .ref oA])), (oH, .inr (1, [.ref hs, .ref hp, .ref hm])), (hs, .inr (8, [.ref la, .int (iZ ((u1 : Nat) : Int))])), (la, .inl (cJ, 14, .inr (.inl (LJ g1)))), (hp, .inr (8, [.ref lb, .int (iZ ((u2 : Nat) : Int))])), (lb, .inl (cJ, 14, .inr (.inl (LJ g2)))), (hm, .inr (8, [.ref lc, .int (iZ ((u3 : Nat) : Int))])), (lc, .inl (cJ, 14, .inr (.inl (LJ g3))))] := hD
      refine tp_i (y := (iZ (b3))) (wa3) ?_
      refine zb_if_ne (x := (b3)) (tgt := 38) hx hb dX10_odds_33 (by decide) ⟨by omega, by omega⟩ (fun c_33 => ?_) (fun c_33 => ?_)
      · obtain ⟨n, rfl⟩ : ∃ x9 : Nat, zn = (x9 : Int) := ⟨zn.toNat, by omega⟩
        obtain ⟨k, rfl⟩ : ∃ x9 : Nat, zk = (x9 : Int) := ⟨zk.toNat, by omega⟩
        obtain ⟨up, rfl⟩ : ∃ x9 : Nat, zu = (x9 : Int) := ⟨zu.toNat, by omega⟩
        obtain ⟨down, rfl⟩ : ∃ x9 : Nat, zd = (x9 : Int) := ⟨zd.toNat, by omega⟩
        obtain ⟨side, rfl⟩ : ∃ x9 : Nat, zs = (x9 : Int) := ⟨zs.toNat, by omega⟩
        obtain ⟨a, rfl⟩ : ∃ x9 : Nat, za = (x9 : Int) := ⟨za.toNat, by omega⟩
        obtain ⟨b, rfl⟩ : ∃ x9 : Nat, zb = (x9 : Int) := ⟨zb.toNat, by omega⟩
        refine zc_iconst (z := ((1 : Nat) : Int)) hx hb dX10_odds_38 (by decide) ?_
        refine lv_aload_n hx hb dX10_odds_39 rfl (lv_at hl 0 rfl) ?_
        refine va_get (D := D) (ci := 9) (v := .ref oH) (C := RX10) (T := TX10) (N := 8) hx hb hts hh_1 hown hK hP 0 rfl rfl 0 (by decide) hh_0 (fun _ h9 => h9) rfl dX10_odds_40 ?_
        refine lv_iload_n hx hb dX10_odds_43 rfl (lv_at hl 1 rfl) ?_
        refine lv_iload_n hx hb dX10_odds_44 rfl (lv_at hl 2 rfl) ?_
        refine lv_iload_n hx hb dX10_odds_45 rfl (lv_at hl 3 rfl) ?_
        refine lv_iload hx hb dX10_odds_46 (lv_at hl 4 rfl) ?_
        refine lv_iload hx hb dX10_odds_48 (lv_at hl 5 rfl) ?_
        refine lv_iload hx hb dX10_odds_50 (lv_at hl 6 rfl) ?_
        refine lv_iload hx hb dX10_odds_52 (lv_at hl 7 rfl) ?_
        refine ca_iV [.int (iZ ((n : Nat) : Int)), .int (iZ ((k : Nat) : Int)), .int (iZ ((up : Nat) : Int)), .int (iZ ((down : Nat) : Int)), .int (iZ ((side : Nat) : Int)), .int (iZ ((a : Nat) : Int)), .int (iZ ((b : Nat) : Int))] [.int (iZ ((1 : Nat) : Int))] [(h0, .inr (9, [.ref oH, .ref oR, .ref oU, .ref oT, .ref oM, .ref oC, .ref oL, .ref oA]))] 0 0 ⟨hx, hb, hml, hown, hts⟩ (c_X1_oddsAgainst l D cI cJ oH hs hp hm la lb lc g1 g2 g3 u1 u2 u3 n k up down side (by omega) (by omega) (by omega) (by omega) (by omega) a b (by omega) (by omega)) (cwV 7 hts gX10_odds_X1_oddsAgainst rfl rfl rfl (by decide +kernel) ⟨(Nat.le_of_ble_eq_true rfl), (Nat.le_of_ble_eq_true rfl)⟩) hK hP hD hS hA [1, 2, 3, 4, 5, 6, 7] [0] rfl rfl rfl rfl (by decide) 0 rfl rfl rfl hl.1 rfl (Nat.le_of_ble_eq_true rfl) dX10_odds_54 ⟨(Nat.le_of_ble_eq_true rfl), (Nat.le_of_ble_eq_true rfl)⟩ (Nat.le_of_ble_eq_true rfl) (Nat.le_of_ble_eq_true rfl) (fun r_54 u9 H locs hw hP hD hS => ?_)
        obtain ⟨⟨gA, uA⟩, ⟨gB, uB⟩, ⟨gC, uC⟩⟩ := u9
        try dsimp only at hw
        have hP : va_P D vwCl [(h0, .inr (9, [.ref oH, .ref oR, .ref oU, .ref oT, .ref oM, .ref oC, .ref oL, .ref oA])), (oH, .inr (1, [.ref hs, .ref hp, .ref hm])), (hs, .inr (8, [.ref la, .int (iZ ((uA : Nat) : Int))])), (la, .inl (cJ, 14, .inr (.inl (LJ gA)))), (hp, .inr (8, [.ref lb, .int (iZ ((uB : Nat) : Int))])), (lb, .inl (cJ, 14, .inr (.inl (LJ gB)))), (hm, .inr (8, [.ref lc, .int (iZ ((uC : Nat) : Int))])), (lc, .inl (cJ, 14, .inr (.inl (LJ gC))))] H := hP
        have hD : va_D A [(h0, .inr (9, [.ref oH, .ref oR, .ref oU, .ref oT, .ref oM, .ref oC, .ref oL, .ref oA])), (oH, .inr (1, [.ref hs, .ref hp, .ref hm])), (hs, .inr (8, [.ref la, .int (iZ ((uA : Nat) : Int))])), (la, .inl (cJ, 14, .inr (.inl (LJ gA)))), (hp, .inr (8, [.ref lb, .int (iZ ((uB : Nat) : Int))])), (lb, .inl (cJ, 14, .inr (.inl (LJ gB)))), (hm, .inr (8, [.ref lc, .int (iZ ((uC : Nat) : Int))])), (lc, .inl (cJ, 14, .inr (.inl (LJ gC))))] := hD
        refine tp_i (y := (iZ (cmpZ (habv n k up down side * b) (a * down ^ n)))) (hw) ?_
        refine zi_add (z := (((1 : Nat) : Int) + (cmpZ (habv n k up down side * b) (a * down ^ n)))) hx hb dX10_odds_57 rfl ?_
        exact hret _ ((gA, uA), (gB, uB), (gC, uC)) _ _ _ _ _ _ (Nat.le_of_ble_eq_true rfl) (Nat.le_of_ble_eq_true rfl) rfl dX10_odds_58 (⟨fun _ => rfl, fun h9 => absurd ⟨⟨⟨by omega, by omega⟩, ⟨by omega, by omega⟩, ⟨by omega, by omega⟩, ⟨by omega, by omega⟩, by omega⟩, ⟨by omega, by omega⟩, ⟨by omega, by omega⟩⟩ h9⟩) hP hD hS
      · refine zc_iconst (z := (-1 : Int)) hx hb dX10_odds_36 (by decide) ?_
        exact hret _ ((g1, u1), (g2, u2), (g3, u3)) _ _ _ _ _ _ (Nat.le_of_ble_eq_true rfl) (Nat.le_of_ble_eq_true rfl) rfl dX10_odds_37 (by first | exact ⟨fun h9 => absurd h9.1 nv1, fun _ => rfl⟩ | exact ⟨fun h9 => absurd h9.2 (by omega), fun _ => rfl⟩) hP hD hS
def rmX10_row : Room := { frames := 2, cells := 0, slots := 0, locals := 43 }
set_option maxHeartbeats 4000000 in
set_option maxRecDepth 100000 in
theorem c_X10_row (l : Launch) (D : va_G) (cI cJ : ClassId) (h0 oH oR oU oT oM oC oL oA : Nat) (ga xa ya : Nat) (n : Nat) (G X Y : Nat → Nat) (hr : rok n G X Y) (zg : Int) (izg : iR zg) (zx : Int) (izx : iR zx) (zy : Int) (izy : iR zy) : Ci l D vwCl (tyT cI cJ) yX10_row wsX10_row rmX10_row [.ref h0, .int (iZ (zg)), .int (iZ (zx)), .int (iZ (zy))] [(h0, .inr (9, [.ref oH, .ref oR, .ref oU, .ref oT, .ref oM, .ref oC, .ref oL, .ref oA])), (oR, .inr (4, [.ref ga, .ref xa, .ref ya, .int (iZ ((n : Nat) : Int))])), (ga, .inl (cI, 30, .inl (LI G))), (xa, .inl (cI, 30, .inl (LI X))), (ya, .inl (cI, 30, .inl (LI Y)))] (Nat × (Nat → Nat) × (Nat → Nat) × (Nat → Nat)) (fun r u => (vRow zg zx zy → n < 30 → r = iZ ((n + 1 : Nat) : Int) ∧ u = (n + 1, nup G n zg.toNat, nup X n zx.toNat, nup Y n zy.toNat)) ∧ (vRow zg zx zy → ¬ n < 30 → r = iZ (-2) ∧ u = (n, G, X, Y)) ∧ (¬ vRow zg zx zy → r = iZ (-1) ∧ u = (n, G, X, Y))) (fun u => [(h0, .inr (9, [.ref oH, .ref oR, .ref oU, .ref oT, .ref oM, .ref oC, .ref oL, .ref oA])), (oR, .inr (4, [.ref ga, .ref xa, .ref ya, .int (iZ ((u.1 : Nat) : Int))])), (ga, .inl (cI, 30, .inl (LI u.2.1))), (xa, .inl (cI, 30, .inl (LI u.2.2.1))), (ya, .inl (cI, 30, .inl (LI u.2.2.2)))]) := by
  have hn30 := hr.1
  refine en_i (cc := cX10_row) (maxL := 4) (by decide) rfl [(0, .ref h0), (1, .int (iZ (zg))), (2, .int (iZ (zx))), (3, .int (iZ (zy)))] (Nat.le_of_ble_eq_true rfl) rfl ?_
  intro p e s m args below meth c Q A hx hb hml hown hts hnm hK hP hD hA hS hret ls hl
  have hh_0 := hts (.fieldLink RX10 19 "BoundDraws" "rows" "LBoundDraws$Rows;") (by decide +kernel)
  have hh_1 := (show ∀ w ∈ wsX100, w ∈ wsX10_row by decide +kernel)
  refine lv_iload_n hx hb dX10_row_0 rfl (lv_at hl 1 rfl) ?_
  refine zc_iconst (z := ((0 : Nat) : Int)) hx hb dX10_row_1 (by decide) ?_
  refine zc_bipush (z := ((7 : Nat) : Int)) hx hb dX10_row_2 (by decide) ?_
  refine ca_iS [.int (iZ (zg)), .int (iZ ((0 : Nat) : Int)), .int (iZ ((7 : Nat) : Int))] [] [(h0, .inr (9, [.ref oH, .ref oR, .ref oU, .ref oT, .ref oM, .ref oC, .ref oL, .ref oA])), (oR, .inr (4, [.ref ga, .ref xa, .ref ya, .int (iZ ((n : Nat) : Int))])), (ga, .inl (cI, 30, .inl (LI G))), (xa, .inl (cI, 30, .inl (LI X))), (ya, .inl (cI, 30, .inl (LI Y)))] 0 0 ⟨hx, hb, hml, hown, hts⟩ (c_X3_within l D cI cJ zg ((0 : Nat) : Int) ((7 : Nat) : Int) ⟨by omega, by omega⟩ ⟨by omega, by omega⟩ ⟨by omega, by omega⟩) (va_cwS 3 hts gX10_row_X3_within rfl rfl rfl (by decide +kernel) ⟨(Nat.le_of_ble_eq_true rfl), (Nat.le_of_ble_eq_true rfl)⟩) hK hP hD hS hA [] [0, 1, 2, 3, 4] rfl rfl rfl rfl (by decide) rfl hl.1 rfl (Nat.le_of_ble_eq_true rfl) dX10_row_4 ⟨(Nat.le_of_ble_eq_true rfl), (Nat.le_of_ble_eq_true rfl)⟩ (Nat.le_of_ble_eq_true rfl) (Nat.le_of_ble_eq_true rfl) (fun r_4 u9 H locs hw hP hD hS => ?_)
  obtain u9 := u9
  try dsimp only at hw
  obtain ⟨b1, wa1, wb1, wc1⟩ := hw
  have hP : va_P D vwCl [(h0, .inr (9, [.ref oH, .ref oR, .ref oU, .ref oT, .ref oM, .ref oC, .ref oL, .ref oA])), (oR, .inr (4, [.ref ga, .ref xa, .ref ya, .int (iZ ((n : Nat) : Int))])), (ga, .inl (cI, 30, .inl (LI G))), (xa, .inl (cI, 30, .inl (LI X))), (ya, .inl (cI, 30, .inl (LI Y)))] H := hP
  have hD : va_D A [(h0, .inr (9, [.ref oH, .ref oR, .ref oU, .ref oT, .ref oM, .ref oC, .ref oL, .ref oA])), (oR, .inr (4, [.ref ga, .ref xa, .ref ya, .int (iZ ((n : Nat) : Int))])), (ga, .inl (cI, 30, .inl (LI G))), (xa, .inl (cI, 30, .inl (LI X))), (ya, .inl (cI, 30, .inl (LI Y)))] := hD
  refine tp_i (y := (iZ (b1))) (wa1) ?_
  refine zb_if_eq (x := (b1)) (tgt := 30) hx hb dX10_row_7 (by decide) ⟨by omega, by omega⟩ (fun c_7 => ?_) (fun c_7 => ?_)
  · refine zc_iconst (z := (-1 : Int)) hx hb dX10_row_30 (by decide) ?_
    exact hret _ (n, G, X, Y) _ _ _ _ _ _ (Nat.le_of_ble_eq_true rfl) (Nat.le_of_ble_eq_true rfl) rfl dX10_row_31 (⟨fun h9 => absurd h9 (by omega), fun h9 => absurd h9 (by omega), fun _ => ⟨rfl, rfl⟩⟩) hP hD hS
  · refine lv_iload_n hx hb dX10_row_10 rfl (lv_at hl 2 rfl) ?_
    refine zc_iconst (z := ((0 : Nat) : Int)) hx hb dX10_row_11 (by decide) ?_
    refine zc_bipush (z := ((100 : Nat) : Int)) hx hb dX10_row_12 (by decide) ?_
    refine ca_iS [.int (iZ (zx)), .int (iZ ((0 : Nat) : Int)), .int (iZ ((100 : Nat) : Int))] [] [(h0, .inr (9, [.ref oH, .ref oR, .ref oU, .ref oT, .ref oM, .ref oC, .ref oL, .ref oA])), (oR, .inr (4, [.ref ga, .ref xa, .ref ya, .int (iZ ((n : Nat) : Int))])), (ga, .inl (cI, 30, .inl (LI G))), (xa, .inl (cI, 30, .inl (LI X))), (ya, .inl (cI, 30, .inl (LI Y)))] 0 0 ⟨hx, hb, hml, hown, hts⟩ (c_X3_within l D cI cJ zx ((0 : Nat) : Int) ((100 : Nat) : Int) ⟨by omega, by omega⟩ ⟨by omega, by omega⟩ ⟨by omega, by omega⟩) (va_cwS 3 hts gX10_row_X3_within rfl rfl rfl (by decide +kernel) ⟨(Nat.le_of_ble_eq_true rfl), (Nat.le_of_ble_eq_true rfl)⟩) hK hP hD hS hA [] [0, 1, 2, 3, 4] rfl rfl rfl rfl (by decide) rfl hl.1 rfl (Nat.le_of_ble_eq_true rfl) dX10_row_14 ⟨(Nat.le_of_ble_eq_true rfl), (Nat.le_of_ble_eq_true rfl)⟩ (Nat.le_of_ble_eq_true rfl) (Nat.le_of_ble_eq_true rfl) (fun r_14 u9 H locs hw hP hD hS => ?_)
    obtain u9 := u9
    try dsimp only at hw
    obtain ⟨b2, wa2, wb2, wc2⟩ := hw
    have hP : va_P D vwCl [(h0, .inr (9, [.ref oH, .ref oR, .ref oU, .ref oT, .ref oM, .ref oC, .ref oL, .ref oA])), (oR, .inr (4, [.ref ga, .ref xa, .ref ya, .int (iZ ((n : Nat) : Int))])), (ga, .inl (cI, 30, .inl (LI G))), (xa, .inl (cI, 30, .inl (LI X))), (ya, .inl (cI, 30, .inl (LI Y)))] H := hP
    have hD : va_D A [(h0, .inr (9, [.ref oH, .ref oR, .ref oU, .ref oT, .ref oM, .ref oC, .ref oL, .ref oA])), (oR, .inr (4, [.ref ga, .ref xa, .ref ya, .int (iZ ((n : Nat) : Int))])), (ga, .inl (cI, 30, .inl (LI G))), (xa, .inl (cI, 30, .inl (LI X))), (ya, .inl (cI, 30, .inl (LI Y)))] := hD
    refine tp_i (y := (iZ (b2))) (wa2) ?_
    refine zb_if_eq (x := (b2)) (tgt := 30) hx hb dX10_row_17 (by decide) ⟨by omega, by omega⟩ (fun c_17 => ?_) (fun c_17 => ?_)
    · refine zc_iconst (z := (-1 : Int)) hx hb dX10_row_30 (by decide) ?_
      exact hret _ (n, G, X, Y) _ _ _ _ _ _ (Nat.le_of_ble_eq_true rfl) (Nat.le_of_ble_eq_true rfl) rfl dX10_row_31 (⟨fun h9 => absurd h9 (by omega), fun h9 => absurd h9 (by omega), fun _ => ⟨rfl, rfl⟩⟩) hP hD hS
    · refine lv_iload_n hx hb dX10_row_20 rfl (lv_at hl 3 rfl) ?_
      refine zc_iconst (z := ((0 : Nat) : Int)) hx hb dX10_row_21 (by decide) ?_
      refine zc_bipush (z := ((100 : Nat) : Int)) hx hb dX10_row_22 (by decide) ?_
      refine ca_iS [.int (iZ (zy)), .int (iZ ((0 : Nat) : Int)), .int (iZ ((100 : Nat) : Int))] [] [(h0, .inr (9, [.ref oH, .ref oR, .ref oU, .ref oT, .ref oM, .ref oC, .ref oL, .ref oA])), (oR, .inr (4, [.ref ga, .ref xa, .ref ya, .int (iZ ((n : Nat) : Int))])), (ga, .inl (cI, 30, .inl (LI G))), (xa, .inl (cI, 30, .inl (LI X))), (ya, .inl (cI, 30, .inl (LI Y)))] 0 0 ⟨hx, hb, hml, hown, hts⟩ (c_X3_within l D cI cJ zy ((0 : Nat) : Int) ((100 : Nat) : Int) ⟨by omega, by omega⟩ ⟨by omega, by omega⟩ ⟨by omega, by omega⟩) (va_cwS 3 hts gX10_row_X3_within rfl rfl rfl (by decide +kernel) ⟨(Nat.le_of_ble_eq_true rfl), (Nat.le_of_ble_eq_true rfl)⟩) hK hP hD hS hA [] [0, 1, 2, 3, 4] rfl rfl rfl rfl (by decide) rfl hl.1 rfl (Nat.le_of_ble_eq_true rfl) dX10_row_24 ⟨(Nat.le_of_ble_eq_true rfl), (Nat.le_of_ble_eq_true rfl)⟩ (Nat.le_of_ble_eq_true rfl) (Nat.le_of_ble_eq_true rfl) (fun r_24 u9 H locs hw hP hD hS => ?_)
      obtain u9 := u9
      try dsimp only at hw
      obtain ⟨b3, wa3, wb3, wc3⟩ := hw
      have hP : va_P D vwCl [(h0, .inr (9, [.ref oH, .ref oR, .ref oU, .ref oT, .ref oM, .ref oC, .ref oL, .ref oA])), (oR, .inr (4, [.ref ga, .ref xa, .ref ya, .int (iZ ((n : Nat) : Int))])), (ga, .inl (cI, 30, .inl (LI G))), (xa, .inl (cI, 30, .inl (LI X))), (ya, .inl (cI, 30, .inl (LI Y)))] H := hP
      have hD : va_D A [(h0, .inr (9, [.ref oH, .ref oR, .ref oU, .ref oT, .ref oM, .ref oC, .ref oL, .ref oA])), (oR, .inr (4, [.ref ga, .ref xa, .ref ya, .int (iZ ((n : Nat) : Int))])), (ga, .inl (cI, 30, .inl (LI G))), (xa, .inl (cI, 30, .inl (LI X))), (ya, .inl (cI, 30, .inl (LI Y)))] := hD
      refine tp_i (y := (iZ (b3))) (wa3) ?_
      refine zb_if_ne (x := (b3)) (tgt := 32) hx hb dX10_row_27 (by decide) ⟨by omega, by omega⟩ (fun c_27 => ?_) (fun c_27 => ?_)
      · refine lv_aload_n hx hb dX10_row_32 rfl (lv_at hl 0 rfl) ?_
        refine va_get (D := D) (ci := 9) (v := .ref oR) (C := RX10) (T := TX10) (N := 8) hx hb hts hh_1 hown hK hP 0 rfl rfl 1 (by decide) hh_0 (fun _ h9 => h9) rfl dX10_row_33 ?_
        refine ca_iV [] [] [(h0, .inr (9, [.ref oH, .ref oR, .ref oU, .ref oT, .ref oM, .ref oC, .ref oL, .ref oA]))] 0 0 ⟨hx, hb, hml, hown, hts⟩ (c_X5_isFull l D cI cJ oR ga xa ya n G X Y hr) (cwV 0 hts gX10_row_X5_isFull rfl rfl rfl (by decide +kernel) ⟨(Nat.le_of_ble_eq_true rfl), (Nat.le_of_ble_eq_true rfl)⟩) hK hP hD hS hA [1, 2, 3, 4] [0] rfl rfl rfl rfl (by decide) 0 rfl rfl rfl hl.1 rfl (Nat.le_of_ble_eq_true rfl) dX10_row_36 ⟨(Nat.le_of_ble_eq_true rfl), (Nat.le_of_ble_eq_true rfl)⟩ (Nat.le_of_ble_eq_true rfl) (Nat.le_of_ble_eq_true rfl) (fun r_36 u9 H locs hw hP hD hS => ?_)
        obtain u9 := u9
        try dsimp only at hw
        obtain ⟨b4, wa4, wb4, wc4⟩ := hw
        have hP : va_P D vwCl [(h0, .inr (9, [.ref oH, .ref oR, .ref oU, .ref oT, .ref oM, .ref oC, .ref oL, .ref oA])), (oR, .inr (4, [.ref ga, .ref xa, .ref ya, .int (iZ ((n : Nat) : Int))])), (ga, .inl (cI, 30, .inl (LI G))), (xa, .inl (cI, 30, .inl (LI X))), (ya, .inl (cI, 30, .inl (LI Y)))] H := hP
        have hD : va_D A [(h0, .inr (9, [.ref oH, .ref oR, .ref oU, .ref oT, .ref oM, .ref oC, .ref oL, .ref oA])), (oR, .inr (4, [.ref ga, .ref xa, .ref ya, .int (iZ ((n : Nat) : Int))])), (ga, .inl (cI, 30, .inl (LI G))), (xa, .inl (cI, 30, .inl (LI X))), (ya, .inl (cI, 30, .inl (LI Y)))] := hD
        refine tp_i (y := (iZ (b4))) (wa4) ?_
        refine zb_if_eq (x := (b4)) (tgt := 45) hx hb dX10_row_39 (by decide) ⟨by omega, by omega⟩ (fun c_39 => ?_) (fun c_39 => ?_)
        · obtain ⟨g, rfl⟩ : ∃ x9 : Nat, zg = (x9 : Int) := ⟨zg.toNat, by omega⟩
          obtain ⟨x, rfl⟩ : ∃ x9 : Nat, zx = (x9 : Int) := ⟨zx.toNat, by omega⟩
          obtain ⟨y, rfl⟩ : ∃ x9 : Nat, zy = (x9 : Int) := ⟨zy.toNat, by omega⟩
          refine lv_aload_n hx hb dX10_row_45 rfl (lv_at hl 0 rfl) ?_
          refine va_get (D := D) (ci := 9) (v := .ref oR) (C := RX10) (T := TX10) (N := 8) hx hb hts hh_1 hown hK hP 0 rfl rfl 1 (by decide) hh_0 (fun _ h9 => h9) rfl dX10_row_46 ?_
          refine lv_iload_n hx hb dX10_row_49 rfl (lv_at hl 1 rfl) ?_
          refine lv_iload_n hx hb dX10_row_50 rfl (lv_at hl 2 rfl) ?_
          refine lv_iload_n hx hb dX10_row_51 rfl (lv_at hl 3 rfl) ?_
          refine ca_vV [.int (iZ ((g : Nat) : Int)), .int (iZ ((x : Nat) : Int)), .int (iZ ((y : Nat) : Int))] [] [(h0, .inr (9, [.ref oH, .ref oR, .ref oU, .ref oT, .ref oM, .ref oC, .ref oL, .ref oA]))] 0 0 ⟨hx, hb, hml, hown, hts⟩ (c_X5_add l D cI cJ oR ga xa ya n G X Y hr (by omega) g x y) (cwV 3 hts gX10_row_X5_add rfl rfl rfl (by decide +kernel) ⟨(Nat.le_of_ble_eq_true rfl), (Nat.le_of_ble_eq_true rfl)⟩) hK hP hD hS hA [1, 2, 3, 4] [0] rfl rfl rfl rfl (by decide) 0 rfl rfl rfl hl.1 rfl (Nat.le_of_ble_eq_true rfl) dX10_row_52 ⟨(Nat.le_of_ble_eq_true rfl), (Nat.le_of_ble_eq_true rfl)⟩ (Nat.le_of_ble_eq_true rfl) (Nat.le_of_ble_eq_true rfl) (fun u9 H locs hw hP hD hS => ?_)
          obtain u9 := u9
          try dsimp only at hw
          have hP : va_P D vwCl [(h0, .inr (9, [.ref oH, .ref oR, .ref oU, .ref oT, .ref oM, .ref oC, .ref oL, .ref oA])), (oR, .inr (4, [.ref ga, .ref xa, .ref ya, .int (iZ ((n + 1 : Nat) : Int))])), (ga, .inl (cI, 30, .inl (LI (nup G n g)))), (xa, .inl (cI, 30, .inl (LI (nup X n x)))), (ya, .inl (cI, 30, .inl (LI (nup Y n y))))] H := hP
          have hD : va_D A [(h0, .inr (9, [.ref oH, .ref oR, .ref oU, .ref oT, .ref oM, .ref oC, .ref oL, .ref oA])), (oR, .inr (4, [.ref ga, .ref xa, .ref ya, .int (iZ ((n + 1 : Nat) : Int))])), (ga, .inl (cI, 30, .inl (LI (nup G n g)))), (xa, .inl (cI, 30, .inl (LI (nup X n x)))), (ya, .inl (cI, 30, .inl (LI (nup Y n y))))] := hD
          refine lv_aload_n hx hb dX10_row_55 rfl (lv_at hl 0 rfl) ?_
          refine va_get (D := D) (ci := 9) (v := .ref oR) (C := RX10) (T := TX10) (N := 8) hx hb hts hh_1 hown hK hP 0 rfl rfl 1 (by decide) hh_0 (fun _ h9 => h9) rfl dX10_row_56 ?_
          refine ca_iV [] [] [(h0, .inr (9, [.ref oH, .ref oR, .ref oU, .ref oT, .ref oM, .ref oC, .ref oL, .ref oA]))] 0 0 ⟨hx, hb, hml, hown, hts⟩ (c_X5_size l D cI cJ oR ga xa ya (n + 1) (nup G n g) (nup X n x) (nup Y n y) (rok_add hr (by omega) (by omega) (by omega) (by omega))) (cwV 0 hts gX10_row_X5_size rfl rfl rfl (by decide +kernel) ⟨(Nat.le_of_ble_eq_true rfl), (Nat.le_of_ble_eq_true rfl)⟩) hK hP hD hS hA [1, 2, 3, 4] [0] rfl rfl rfl rfl (by decide) 0 rfl rfl rfl hl.1 rfl (Nat.le_of_ble_eq_true rfl) dX10_row_59 ⟨(Nat.le_of_ble_eq_true rfl), (Nat.le_of_ble_eq_true rfl)⟩ (Nat.le_of_ble_eq_true rfl) (Nat.le_of_ble_eq_true rfl) (fun r_59 u9 H locs hw hP hD hS => ?_)
          obtain u9 := u9
          try dsimp only at hw
          have hP : va_P D vwCl [(h0, .inr (9, [.ref oH, .ref oR, .ref oU, .ref oT, .ref oM, .ref oC, .ref oL, .ref oA])), (oR, .inr (4, [.ref ga, .ref xa, .ref ya, .int (iZ ((n + 1 : Nat) : Int))])), (ga, .inl (cI, 30, .inl (LI (nup G n g)))), (xa, .inl (cI, 30, .inl (LI (nup X n x)))), (ya, .inl (cI, 30, .inl (LI (nup Y n y))))] H := hP
          have hD : va_D A [(h0, .inr (9, [.ref oH, .ref oR, .ref oU, .ref oT, .ref oM, .ref oC, .ref oL, .ref oA])), (oR, .inr (4, [.ref ga, .ref xa, .ref ya, .int (iZ ((n + 1 : Nat) : Int))])), (ga, .inl (cI, 30, .inl (LI (nup G n g)))), (xa, .inl (cI, 30, .inl (LI (nup X n x)))), (ya, .inl (cI, 30, .inl (LI (nup Y n y))))] := hD
          refine tp_i (y := (iZ ((n + 1 : Nat) : Int))) (hw) ?_
          exact hret _ (n + 1, nup G n g, nup X n x, nup Y n y) _ _ _ _ _ _ (Nat.le_of_ble_eq_true rfl) (Nat.le_of_ble_eq_true rfl) rfl dX10_row_62 (⟨fun _ _ => ⟨rfl, rfl⟩, fun h8 h9 => absurd (by omega) h9, fun h9 => absurd (by omega) h9⟩) hP hD hS
        · refine zc_bipush (z := (-2 : Int)) hx hb dX10_row_42 (by decide) ?_
          exact hret _ (n, G, X, Y) _ _ _ _ _ _ (Nat.le_of_ble_eq_true rfl) (Nat.le_of_ble_eq_true rfl) rfl dX10_row_44 (⟨fun h8 h9 => absurd h9 (by omega), fun _ _ => ⟨rfl, rfl⟩, fun h9 => absurd (by omega) h9⟩) hP hD hS
      · refine zc_iconst (z := (-1 : Int)) hx hb dX10_row_30 (by decide) ?_
        exact hret _ (n, G, X, Y) _ _ _ _ _ _ (Nat.le_of_ble_eq_true rfl) (Nat.le_of_ble_eq_true rfl) rfl dX10_row_31 (⟨fun h9 => absurd h9 (by omega), fun h9 => absurd h9 (by omega), fun _ => ⟨rfl, rfl⟩⟩) hP hD hS
def rmX10_drop : Room := { frames := 1, cells := 0, slots := 0, locals := 20 }
set_option maxHeartbeats 4000000 in
set_option maxRecDepth 100000 in
theorem c_X10_drop (l : Launch) (D : va_G) (cI cJ : ClassId) (h0 oH oR oU oT oM oC oL oA : Nat) (ga xa ya : Nat) (n : Nat) (G X Y : Nat → Nat) (hr : rok n G X Y) : Ci l D vwCl (tyT cI cJ) yX10_drop wsX10_drop rmX10_drop [.ref h0] [(h0, .inr (9, [.ref oH, .ref oR, .ref oU, .ref oT, .ref oM, .ref oC, .ref oL, .ref oA])), (oR, .inr (4, [.ref ga, .ref xa, .ref ya, .int (iZ ((n : Nat) : Int))])), (ga, .inl (cI, 30, .inl (LI G))), (xa, .inl (cI, 30, .inl (LI X))), (ya, .inl (cI, 30, .inl (LI Y)))] (Nat) (fun r u => (n = 0 → r = iZ (-3) ∧ u = n) ∧ (¬ n = 0 → r = iZ ((n - 1 : Nat) : Int) ∧ u = n - 1)) (fun u => [(h0, .inr (9, [.ref oH, .ref oR, .ref oU, .ref oT, .ref oM, .ref oC, .ref oL, .ref oA])), (oR, .inr (4, [.ref ga, .ref xa, .ref ya, .int (iZ ((u : Nat) : Int))])), (ga, .inl (cI, 30, .inl (LI G))), (xa, .inl (cI, 30, .inl (LI X))), (ya, .inl (cI, 30, .inl (LI Y)))]) := by
  have hn30 := hr.1
  refine en_i (cc := cX10_drop) (maxL := 1) (by decide) rfl [(0, .ref h0)] (Nat.le_of_ble_eq_true rfl) rfl ?_
  intro p e s m args below meth c Q A hx hb hml hown hts hnm hK hP hD hA hS hret ls hl
  have hh_0 := hts (.fieldLink RX10 19 "BoundDraws" "rows" "LBoundDraws$Rows;") (by decide +kernel)
  have hh_1 := (show ∀ w ∈ wsX100, w ∈ wsX10_drop by decide +kernel)
  refine lv_aload_n hx hb dX10_drop_0 rfl (lv_at hl 0 rfl) ?_
  refine va_get (D := D) (ci := 9) (v := .ref oR) (C := RX10) (T := TX10) (N := 8) hx hb hts hh_1 hown hK hP 0 rfl rfl 1 (by decide) hh_0 (fun _ h9 => h9) rfl dX10_drop_1 ?_
  refine ca_iV [] [] [(h0, .inr (9, [.ref oH, .ref oR, .ref oU, .ref oT, .ref oM, .ref oC, .ref oL, .ref oA]))] 0 0 ⟨hx, hb, hml, hown, hts⟩ (c_X5_size l D cI cJ oR ga xa ya n G X Y hr) (cwV 0 hts gX10_drop_X5_size rfl rfl rfl (by decide +kernel) ⟨(Nat.le_of_ble_eq_true rfl), (Nat.le_of_ble_eq_true rfl)⟩) hK hP hD hS hA [1, 2, 3, 4] [0] rfl rfl rfl rfl (by decide) 0 rfl rfl rfl hl.1 rfl (Nat.le_of_ble_eq_true rfl) dX10_drop_4 ⟨(Nat.le_of_ble_eq_true rfl), (Nat.le_of_ble_eq_true rfl)⟩ (Nat.le_of_ble_eq_true rfl) (Nat.le_of_ble_eq_true rfl) (fun r_4 u9 H locs hw hP hD hS => ?_)
  obtain u9 := u9
  try dsimp only at hw
  have hP : va_P D vwCl [(h0, .inr (9, [.ref oH, .ref oR, .ref oU, .ref oT, .ref oM, .ref oC, .ref oL, .ref oA])), (oR, .inr (4, [.ref ga, .ref xa, .ref ya, .int (iZ ((n : Nat) : Int))])), (ga, .inl (cI, 30, .inl (LI G))), (xa, .inl (cI, 30, .inl (LI X))), (ya, .inl (cI, 30, .inl (LI Y)))] H := hP
  have hD : va_D A [(h0, .inr (9, [.ref oH, .ref oR, .ref oU, .ref oT, .ref oM, .ref oC, .ref oL, .ref oA])), (oR, .inr (4, [.ref ga, .ref xa, .ref ya, .int (iZ ((n : Nat) : Int))])), (ga, .inl (cI, 30, .inl (LI G))), (xa, .inl (cI, 30, .inl (LI X))), (ya, .inl (cI, 30, .inl (LI Y)))] := hD
  refine tp_i (y := (iZ ((n : Nat) : Int))) (hw) ?_
  refine zb_if_ne (x := ((n : Nat) : Int)) (tgt := 13) hx hb dX10_drop_7 (by decide) ⟨by omega, by omega⟩ (fun c_7 => ?_) (fun c_7 => ?_)
  · refine lv_aload_n hx hb dX10_drop_13 rfl (lv_at hl 0 rfl) ?_
    refine va_get (D := D) (ci := 9) (v := .ref oR) (C := RX10) (T := TX10) (N := 8) hx hb hts hh_1 hown hK hP 0 rfl rfl 1 (by decide) hh_0 (fun _ h9 => h9) rfl dX10_drop_14 ?_
    refine ca_vV [] [] [(h0, .inr (9, [.ref oH, .ref oR, .ref oU, .ref oT, .ref oM, .ref oC, .ref oL, .ref oA]))] 0 0 ⟨hx, hb, hml, hown, hts⟩ (c_X5_removeLast l D cI cJ oR ga xa ya n G X Y hr (by omega)) (cwV 0 hts gX10_drop_X5_removeLast rfl rfl rfl (by decide +kernel) ⟨(Nat.le_of_ble_eq_true rfl), (Nat.le_of_ble_eq_true rfl)⟩) hK hP hD hS hA [1, 2, 3, 4] [0] rfl rfl rfl rfl (by decide) 0 rfl rfl rfl hl.1 rfl (Nat.le_of_ble_eq_true rfl) dX10_drop_17 ⟨(Nat.le_of_ble_eq_true rfl), (Nat.le_of_ble_eq_true rfl)⟩ (Nat.le_of_ble_eq_true rfl) (Nat.le_of_ble_eq_true rfl) (fun u9 H locs hw hP hD hS => ?_)
    obtain u9 := u9
    try dsimp only at hw
    have hP : va_P D vwCl [(h0, .inr (9, [.ref oH, .ref oR, .ref oU, .ref oT, .ref oM, .ref oC, .ref oL, .ref oA])), (oR, .inr (4, [.ref ga, .ref xa, .ref ya, .int (iZ ((n - 1 : Nat) : Int))])), (ga, .inl (cI, 30, .inl (LI G))), (xa, .inl (cI, 30, .inl (LI X))), (ya, .inl (cI, 30, .inl (LI Y)))] H := hP
    have hD : va_D A [(h0, .inr (9, [.ref oH, .ref oR, .ref oU, .ref oT, .ref oM, .ref oC, .ref oL, .ref oA])), (oR, .inr (4, [.ref ga, .ref xa, .ref ya, .int (iZ ((n - 1 : Nat) : Int))])), (ga, .inl (cI, 30, .inl (LI G))), (xa, .inl (cI, 30, .inl (LI X))), (ya, .inl (cI, 30, .inl (LI Y)))] := hD
    refine lv_aload_n hx hb dX10_drop_20 rfl (lv_at hl 0 rfl) ?_
    refine va_get (D := D) (ci := 9) (v := .ref oR) (C := RX10) (T := TX10) (N := 8) hx hb hts hh_1 hown hK hP 0 rfl rfl 1 (by decide) hh_0 (fun _ h9 => h9) rfl dX10_drop_21 ?_
    refine ca_iV [] [] [(h0, .inr (9, [.ref oH, .ref oR, .ref oU, .ref oT, .ref oM, .ref oC, .ref oL, .ref oA]))] 0 0 ⟨hx, hb, hml, hown, hts⟩ (c_X5_size l D cI cJ oR ga xa ya (n - 1) G X Y (rok_le hr (by omega))) (cwV 0 hts gX10_drop_X5_size rfl rfl rfl (by decide +kernel) ⟨(Nat.le_of_ble_eq_true rfl), (Nat.le_of_ble_eq_true rfl)⟩) hK hP hD hS hA [1, 2, 3, 4] [0] rfl rfl rfl rfl (by decide) 0 rfl rfl rfl hl.1 rfl (Nat.le_of_ble_eq_true rfl) dX10_drop_24 ⟨(Nat.le_of_ble_eq_true rfl), (Nat.le_of_ble_eq_true rfl)⟩ (Nat.le_of_ble_eq_true rfl) (Nat.le_of_ble_eq_true rfl) (fun r_24 u9 H locs hw hP hD hS => ?_)
    obtain u9 := u9
    try dsimp only at hw
    have hP : va_P D vwCl [(h0, .inr (9, [.ref oH, .ref oR, .ref oU, .ref oT, .ref oM, .ref oC, .ref oL, .ref oA])), (oR, .inr (4, [.ref ga, .ref xa, .ref ya, .int (iZ ((n - 1 : Nat) : Int))])), (ga, .inl (cI, 30, .inl (LI G))), (xa, .inl (cI, 30, .inl (LI X))), (ya, .inl (cI, 30, .inl (LI Y)))] H := hP
    have hD : va_D A [(h0, .inr (9, [.ref oH, .ref oR, .ref oU, .ref oT, .ref oM, .ref oC, .ref oL, .ref oA])), (oR, .inr (4, [.ref ga, .ref xa, .ref ya, .int (iZ ((n - 1 : Nat) : Int))])), (ga, .inl (cI, 30, .inl (LI G))), (xa, .inl (cI, 30, .inl (LI X))), (ya, .inl (cI, 30, .inl (LI Y)))] := hD
    refine tp_i (y := (iZ ((n - 1 : Nat) : Int))) (hw) ?_
    exact hret _ (n - 1) _ _ _ _ _ _ (Nat.le_of_ble_eq_true rfl) (Nat.le_of_ble_eq_true rfl) rfl dX10_drop_27 (⟨fun h9 => absurd h9 (by omega), fun _ => ⟨rfl, rfl⟩⟩) hP hD hS
  · refine zc_bipush (z := (-3 : Int)) hx hb dX10_drop_10 (by decide) ?_
    exact hret _ (n) _ _ _ _ _ _ (Nat.le_of_ble_eq_true rfl) (Nat.le_of_ble_eq_true rfl) rfl dX10_drop_12 (⟨fun _ => ⟨rfl, rfl⟩, fun h9 => absurd (by omega) h9⟩) hP hD hS
theorem trn_0 {L : List (Int × Nat)} {k : Nat} {D : Nat → Int} (hk : k = L.length) (hD : ∀ i, i < k → D i = LDz L i) : ((sgN D k : Nat) : Int) = trnV L 0 := by
  unfold trnV
  rw [if_pos rfl, sgN_congr hD, hk]
theorem trn_1 {L : List (Int × Nat)} {k : Nat} {D : Nat → Int} {w : Nat → Nat} (hk : k = L.length) (hD : ∀ i, i < k → D i = LDz L i) (hab : abN D k ≤ 3000) (hw : ∀ j, j ≤ min (min (riN D k) (faN D k)) 1500 → w j = subP D k j) : (if faN D k ≤ riN D k then ((sumN w (faN D k + 1) : Nat) : Int) else ((2 ^ sgN D k : Nat) : Int) - ((sumN w (riN D k) : Nat) : Int)) = trnV L 1 := by
  have ha := abN_eq D k
  unfold trnV
  rw [if_neg (show ¬ (1 : Nat) = 0 by decide), if_pos (show (1 : Nat) = 1 from rfl)]
  subst hk
  rw [← sgN_congr hD, ← riN_congr hD, ← faN_congr hD, sumN_congr (fun i _ => (subP_congr hD i).symm), sumN_congr (f := subP (LDz L) L.length) (fun i _ => (subP_congr hD i).symm)]
  by_cases c : faN D L.length ≤ riN D L.length
  · rw [if_pos c, if_pos c, sumN_congr (f := w) (g := subP D L.length) (fun i hi => hw i (by omega))]
  · rw [if_neg c, if_neg c, sumN_congr (f := w) (g := subP D L.length) (fun i hi => hw i (by omega))]
theorem trn_2 {L : List (Int × Nat)} {k : Nat} {D : Nat → Int} {w : Nat → Nat} (hk : k = L.length) (hD : ∀ i, i < k → D i = LDz L i) (hab : abN D k ≤ 3000) (hw : ∀ j, j ≤ min (min (riN D k) (faN D k)) 1500 → w j = subP D k j) : ((if riN D k = faN D k then 2 ^ sgN D k else 2 * sumN w (min (min (riN D k) (faN D k)) 1500 + 1) : Nat) : Int) = trnV L 2 := by
  have ha := abN_eq D k
  unfold trnV
  rw [if_neg (show ¬ (2 : Nat) = 0 by decide), if_neg (show ¬ (2 : Nat) = 1 by decide)]
  subst hk
  rw [← sgN_congr hD, ← riN_congr hD, ← faN_congr hD, sumN_congr (f := subP (LDz L) L.length) (fun i _ => (subP_congr hD i).symm)]
  by_cases c : riN D L.length = faN D L.length
  · rw [if_pos c, if_pos c]
  · rw [if_neg c, if_neg c, show min (min (riN D L.length) (faN D L.length)) 1500 = min (riN D L.length) (faN D L.length) by omega, sumN_congr (f := w) (g := subP D L.length) (fun i hi => hw i (by omega))]
def rmX10_turned : Room := { frames := 3, cells := 0, slots := 0, locals := 69 }
set_option maxHeartbeats 4000000 in
set_option maxRecDepth 100000 in
theorem c_X10_turned (l : Launch) (D : va_G) (cI cJ : ClassId) (h0 oH oR oU oT oM oC oL oA : Nat) (ga xa ya : Nat) (n : Nat) (G X Y : Nat → Nat) (hr : rok n G X Y) (da sa ku : Nat) (DF : Nat → Int) (SF : Nat → Nat) (wa : Nat) (w : Nat → Nat) (sg ri fa : Nat) (b : Nat) (hb2 : b ≤ 1) (zw : Int) (izw : iR zw) : Cl l D vwCl (tyT cI cJ) yX10_turned wsX10_turned rmX10_turned [.ref h0, .int (iZ ((b : Nat) : Int)), .int (iZ (zw))] [(h0, .inr (9, [.ref oH, .ref oR, .ref oU, .ref oT, .ref oM, .ref oC, .ref oL, .ref oA])), (oR, .inr (4, [.ref ga, .ref xa, .ref ya, .int (iZ ((n : Nat) : Int))])), (ga, .inl (cI, 30, .inl (LI G))), (xa, .inl (cI, 30, .inl (LI X))), (ya, .inl (cI, 30, .inl (LI Y))), (oU, .inr (7, [.ref da, .ref sa, .int (iZ ((ku : Nat) : Int))])), (da, .inl (cI, 30, .inl (ZI DF))), (sa, .inl (cI, 30, .inl (LI SF))), (oT, .inr (6, [.ref wa, .int (iZ ((sg : Nat) : Int)), .int (iZ ((ri : Nat) : Int)), .int (iZ ((fa : Nat) : Int))])), (wa, .inl (cJ, 1501, .inr (.inl (LJ w))))] ((Nat × (Nat → Int) × (Nat → Nat)) × (Nat → Nat) × Nat × Nat × Nat) (fun r _ => sTurned (unitsOf n G X Y b) zw r) (fun u => [(h0, .inr (9, [.ref oH, .ref oR, .ref oU, .ref oT, .ref oM, .ref oC, .ref oL, .ref oA])), (oR, .inr (4, [.ref ga, .ref xa, .ref ya, .int (iZ ((n : Nat) : Int))])), (ga, .inl (cI, 30, .inl (LI G))), (xa, .inl (cI, 30, .inl (LI X))), (ya, .inl (cI, 30, .inl (LI Y))), (oU, .inr (7, [.ref da, .ref sa, .int (iZ ((u.1.1 : Nat) : Int))])), (da, .inl (cI, 30, .inl (ZI u.1.2.1))), (sa, .inl (cI, 30, .inl (LI u.1.2.2))), (oT, .inr (6, [.ref wa, .int (iZ ((u.2.2.1 : Nat) : Int)), .int (iZ ((u.2.2.2.1 : Nat) : Int)), .int (iZ ((u.2.2.2.2 : Nat) : Int))])), (wa, .inl (cJ, 1501, .inr (.inl (LJ u.2.1))))]) := by
  refine en_l (cc := cX10_turned) (maxL := 3) (by decide) rfl [(0, .ref h0), (1, .int (iZ ((b : Nat) : Int))), (2, .int (iZ (zw)))] (Nat.le_of_ble_eq_true rfl) rfl ?_
  intro p e s m args below meth c Q A hx hb hml hown hts hnm hK hP hD hA hS hret ls hl
  have hh_0 := hts (.fieldLink RX10 26 "BoundDraws" "units" "LBoundDraws$Units;") (by decide +kernel)
  have hh_1 := (show ∀ w ∈ wsX100, w ∈ wsX10_turned by decide +kernel)
  have hh_2 := hts (.fieldLink RX10 19 "BoundDraws" "rows" "LBoundDraws$Rows;") (by decide +kernel)
  have hh_3 := hts (.fieldLink RX10 33 "BoundDraws" "turns" "LBoundDraws$Turns;") (by decide +kernel)
  have hh_4 := hts (.constantLong RX10 75 (-1)) (by decide +kernel)
  refine lv_iload_n hx hb dX10_turned_0 rfl (lv_at hl 2 rfl) ?_
  refine zc_iconst (z := ((0 : Nat) : Int)) hx hb dX10_turned_1 (by decide) ?_
  refine zc_iconst (z := ((2 : Nat) : Int)) hx hb dX10_turned_2 (by decide) ?_
  refine ca_iS [.int (iZ (zw)), .int (iZ ((0 : Nat) : Int)), .int (iZ ((2 : Nat) : Int))] [] [(h0, .inr (9, [.ref oH, .ref oR, .ref oU, .ref oT, .ref oM, .ref oC, .ref oL, .ref oA])), (oR, .inr (4, [.ref ga, .ref xa, .ref ya, .int (iZ ((n : Nat) : Int))])), (ga, .inl (cI, 30, .inl (LI G))), (xa, .inl (cI, 30, .inl (LI X))), (ya, .inl (cI, 30, .inl (LI Y))), (oU, .inr (7, [.ref da, .ref sa, .int (iZ ((ku : Nat) : Int))])), (da, .inl (cI, 30, .inl (ZI DF))), (sa, .inl (cI, 30, .inl (LI SF))), (oT, .inr (6, [.ref wa, .int (iZ ((sg : Nat) : Int)), .int (iZ ((ri : Nat) : Int)), .int (iZ ((fa : Nat) : Int))])), (wa, .inl (cJ, 1501, .inr (.inl (LJ w))))] 0 0 ⟨hx, hb, hml, hown, hts⟩ (c_X3_within l D cI cJ zw ((0 : Nat) : Int) ((2 : Nat) : Int) ⟨by omega, by omega⟩ ⟨by omega, by omega⟩ ⟨by omega, by omega⟩) (va_cwS 3 hts gX10_turned_X3_within rfl rfl rfl (by decide +kernel) ⟨(Nat.le_of_ble_eq_true rfl), (Nat.le_of_ble_eq_true rfl)⟩) hK hP hD hS hA [] [0, 1, 2, 3, 4, 5, 6, 7, 8, 9] rfl rfl rfl rfl (by decide) rfl hl.1 rfl (Nat.le_of_ble_eq_true rfl) dX10_turned_3 ⟨(Nat.le_of_ble_eq_true rfl), (Nat.le_of_ble_eq_true rfl)⟩ (Nat.le_of_ble_eq_true rfl) (Nat.le_of_ble_eq_true rfl) (fun r_3 u9 H locs hw hP hD hS => ?_)
  obtain u9 := u9
  try dsimp only at hw
  obtain ⟨b1, wa1, wb1, wc1⟩ := hw
  have hP : va_P D vwCl [(h0, .inr (9, [.ref oH, .ref oR, .ref oU, .ref oT, .ref oM, .ref oC, .ref oL, .ref oA])), (oR, .inr (4, [.ref ga, .ref xa, .ref ya, .int (iZ ((n : Nat) : Int))])), (ga, .inl (cI, 30, .inl (LI G))), (xa, .inl (cI, 30, .inl (LI X))), (ya, .inl (cI, 30, .inl (LI Y))), (oU, .inr (7, [.ref da, .ref sa, .int (iZ ((ku : Nat) : Int))])), (da, .inl (cI, 30, .inl (ZI DF))), (sa, .inl (cI, 30, .inl (LI SF))), (oT, .inr (6, [.ref wa, .int (iZ ((sg : Nat) : Int)), .int (iZ ((ri : Nat) : Int)), .int (iZ ((fa : Nat) : Int))])), (wa, .inl (cJ, 1501, .inr (.inl (LJ w))))] H := hP
  have hD : va_D A [(h0, .inr (9, [.ref oH, .ref oR, .ref oU, .ref oT, .ref oM, .ref oC, .ref oL, .ref oA])), (oR, .inr (4, [.ref ga, .ref xa, .ref ya, .int (iZ ((n : Nat) : Int))])), (ga, .inl (cI, 30, .inl (LI G))), (xa, .inl (cI, 30, .inl (LI X))), (ya, .inl (cI, 30, .inl (LI Y))), (oU, .inr (7, [.ref da, .ref sa, .int (iZ ((ku : Nat) : Int))])), (da, .inl (cI, 30, .inl (ZI DF))), (sa, .inl (cI, 30, .inl (LI SF))), (oT, .inr (6, [.ref wa, .int (iZ ((sg : Nat) : Int)), .int (iZ ((ri : Nat) : Int)), .int (iZ ((fa : Nat) : Int))])), (wa, .inl (cJ, 1501, .inr (.inl (LJ w))))] := hD
  refine tp_i (y := (iZ (b1))) (wa1) ?_
  refine zb_if_ne (x := (b1)) (tgt := 13) hx hb dX10_turned_6 (by decide) ⟨by omega, by omega⟩ (fun c_6 => ?_) (fun c_6 => ?_)
  · obtain ⟨what, rfl⟩ : ∃ x9 : Nat, zw = (x9 : Int) := ⟨zw.toNat, by omega⟩
    refine lv_aload_n hx hb dX10_turned_13 rfl (lv_at hl 0 rfl) ?_
    refine va_get (D := D) (ci := 9) (v := .ref oU) (C := RX10) (T := TX10) (N := 8) hx hb hts hh_1 hown hK hP 0 rfl rfl 2 (by decide) hh_0 (fun _ h9 => h9) rfl dX10_turned_14 ?_
    refine lv_aload_n hx hb dX10_turned_17 rfl (lv_at hl 0 rfl) ?_
    refine va_get (D := D) (ci := 9) (v := .ref oR) (C := RX10) (T := TX10) (N := 8) hx hb hts hh_1 hown hK hP 0 rfl rfl 1 (by decide) hh_2 (fun _ h9 => h9) rfl dX10_turned_18 ?_
    refine lv_iload_n hx hb dX10_turned_21 rfl (lv_at hl 1 rfl) ?_
    refine ca_vV [.ref oR, .int (iZ ((b : Nat) : Int))] [] [(h0, .inr (9, [.ref oH, .ref oR, .ref oU, .ref oT, .ref oM, .ref oC, .ref oL, .ref oA])), (oT, .inr (6, [.ref wa, .int (iZ ((sg : Nat) : Int)), .int (iZ ((ri : Nat) : Int)), .int (iZ ((fa : Nat) : Int))])), (wa, .inl (cJ, 1501, .inr (.inl (LJ w))))] 0 0 ⟨hx, hb, hml, hown, hts⟩ (c_X8_take l D cI cJ oU da sa ku DF SF oR ga xa ya n G X Y hr b hb2) (cwV 2 hts gX10_turned_X8_take rfl rfl rfl (by decide +kernel) ⟨(Nat.le_of_ble_eq_true rfl), (Nat.le_of_ble_eq_true rfl)⟩) hK hP hD hS hA [5, 6, 7, 1, 2, 3, 4] [0, 8, 9] rfl rfl rfl rfl (by decide) 0 rfl rfl rfl hl.1 rfl (Nat.le_of_ble_eq_true rfl) dX10_turned_22 ⟨(Nat.le_of_ble_eq_true rfl), (Nat.le_of_ble_eq_true rfl)⟩ (Nat.le_of_ble_eq_true rfl) (Nat.le_of_ble_eq_true rfl) (fun u9 H locs hw hP hD hS => ?_)
    obtain ⟨k1, DF1, SF1⟩ := u9
    try dsimp only at hw
    have hU := hw
    have hP : va_P D vwCl [(h0, .inr (9, [.ref oH, .ref oR, .ref oU, .ref oT, .ref oM, .ref oC, .ref oL, .ref oA])), (oT, .inr (6, [.ref wa, .int (iZ ((sg : Nat) : Int)), .int (iZ ((ri : Nat) : Int)), .int (iZ ((fa : Nat) : Int))])), (wa, .inl (cJ, 1501, .inr (.inl (LJ w)))), (oU, .inr (7, [.ref da, .ref sa, .int (iZ ((k1 : Nat) : Int))])), (da, .inl (cI, 30, .inl (ZI DF1))), (sa, .inl (cI, 30, .inl (LI SF1))), (oR, .inr (4, [.ref ga, .ref xa, .ref ya, .int (iZ ((n : Nat) : Int))])), (ga, .inl (cI, 30, .inl (LI G))), (xa, .inl (cI, 30, .inl (LI X))), (ya, .inl (cI, 30, .inl (LI Y)))] H := hP
    have hD : va_D A [(h0, .inr (9, [.ref oH, .ref oR, .ref oU, .ref oT, .ref oM, .ref oC, .ref oL, .ref oA])), (oT, .inr (6, [.ref wa, .int (iZ ((sg : Nat) : Int)), .int (iZ ((ri : Nat) : Int)), .int (iZ ((fa : Nat) : Int))])), (wa, .inl (cJ, 1501, .inr (.inl (LJ w)))), (oU, .inr (7, [.ref da, .ref sa, .int (iZ ((k1 : Nat) : Int))])), (da, .inl (cI, 30, .inl (ZI DF1))), (sa, .inl (cI, 30, .inl (LI SF1))), (oR, .inr (4, [.ref ga, .ref xa, .ref ya, .int (iZ ((n : Nat) : Int))])), (ga, .inl (cI, 30, .inl (LI G))), (xa, .inl (cI, 30, .inl (LI X))), (ya, .inl (cI, 30, .inl (LI Y)))] := hD
    have hL1 := hU.1
    have hLa : ∀ i, i < k1 → DF1 i = LDz (unitsOf n G X Y b) i := fun i hi => (uok_LD hU hi).1
    have hLb : ∀ i, i < k1 → SF1 i = LSz (unitsOf n G X Y b) i := fun i hi => (uok_LD hU hi).2
    have hub : ∀ i, i < k1 → ubd (LDz (unitsOf n G X Y b) i, LSz (unitsOf n G X Y b) i) := fun i hi => units_all (unitsOf_b hr b) (by omega)
    have hk1 := hU.2.1
    have hDb : ∀ i, i < k1 → -3000 ≤ DF1 i ∧ DF1 i ≤ 3000 := fun i hi => by have := hub i hi; rw [hLa i hi]; exact ⟨this.1, this.2.1⟩
    have hSb : ∀ i, i < k1 → 1 ≤ SF1 i ∧ SF1 i ≤ 30 := fun i hi => by have := hub i hi; rw [hLb i hi]; exact ⟨this.2.2.1, this.2.2.2⟩
    have hab : abN DF1 k1 ≤ 3000 := by have h8 := labs_of hr b; rw [← labs_LD, ← hL1, ← abN_congr hLa] at h8; exact h8
    have hra := abN_eq DF1 k1
    have hsgb : sgN DF1 k1 ≤ k1 := cnt_le _ _
    refine lv_aload_n hx hb dX10_turned_25 rfl (lv_at hl 0 rfl) ?_
    refine va_get (D := D) (ci := 9) (v := .ref oT) (C := RX10) (T := TX10) (N := 8) hx hb hts hh_1 hown hK hP 0 rfl rfl 3 (by decide) hh_3 (fun _ h9 => h9) rfl dX10_turned_26 ?_
    refine lv_aload_n hx hb dX10_turned_29 rfl (lv_at hl 0 rfl) ?_
    refine va_get (D := D) (ci := 9) (v := .ref oU) (C := RX10) (T := TX10) (N := 8) hx hb hts hh_1 hown hK hP 0 rfl rfl 2 (by decide) hh_0 (fun _ h9 => h9) rfl dX10_turned_30 ?_
    refine ca_vV [.ref oU] [] [(h0, .inr (9, [.ref oH, .ref oR, .ref oU, .ref oT, .ref oM, .ref oC, .ref oL, .ref oA])), (oR, .inr (4, [.ref ga, .ref xa, .ref ya, .int (iZ ((n : Nat) : Int))])), (ga, .inl (cI, 30, .inl (LI G))), (xa, .inl (cI, 30, .inl (LI X))), (ya, .inl (cI, 30, .inl (LI Y)))] 0 0 ⟨hx, hb, hml, hown, hts⟩ (c_X7_take l D cI cJ oT wa w sg ri fa oU da sa k1 DF1 SF1 hk1 hDb hab) (cwV 1 hts gX10_turned_X7_take rfl rfl rfl (by decide +kernel) ⟨(Nat.le_of_ble_eq_true rfl), (Nat.le_of_ble_eq_true rfl)⟩) hK hP hD hS hA [1, 2, 3, 4, 5] [0, 6, 7, 8, 9] rfl rfl rfl rfl (by decide) 0 rfl rfl rfl hl.1 rfl (Nat.le_of_ble_eq_true rfl) dX10_turned_33 ⟨(Nat.le_of_ble_eq_true rfl), (Nat.le_of_ble_eq_true rfl)⟩ (Nat.le_of_ble_eq_true rfl) (Nat.le_of_ble_eq_true rfl) (fun w1 H locs hw hP hD hS => ?_)
    try dsimp only at hw
    have hT := hw
    have hP : va_P D vwCl [(h0, .inr (9, [.ref oH, .ref oR, .ref oU, .ref oT, .ref oM, .ref oC, .ref oL, .ref oA])), (oR, .inr (4, [.ref ga, .ref xa, .ref ya, .int (iZ ((n : Nat) : Int))])), (ga, .inl (cI, 30, .inl (LI G))), (xa, .inl (cI, 30, .inl (LI X))), (ya, .inl (cI, 30, .inl (LI Y))), (oT, .inr (6, [.ref wa, .int (iZ ((sgN DF1 k1 : Nat) : Int)), .int (iZ ((riN DF1 k1 : Nat) : Int)), .int (iZ ((faN DF1 k1 : Nat) : Int))])), (wa, .inl (cJ, 1501, .inr (.inl (LJ w1)))), (oU, .inr (7, [.ref da, .ref sa, .int (iZ ((k1 : Nat) : Int))])), (da, .inl (cI, 30, .inl (ZI DF1))), (sa, .inl (cI, 30, .inl (LI SF1)))] H := hP
    have hD : va_D A [(h0, .inr (9, [.ref oH, .ref oR, .ref oU, .ref oT, .ref oM, .ref oC, .ref oL, .ref oA])), (oR, .inr (4, [.ref ga, .ref xa, .ref ya, .int (iZ ((n : Nat) : Int))])), (ga, .inl (cI, 30, .inl (LI G))), (xa, .inl (cI, 30, .inl (LI X))), (ya, .inl (cI, 30, .inl (LI Y))), (oT, .inr (6, [.ref wa, .int (iZ ((sgN DF1 k1 : Nat) : Int)), .int (iZ ((riN DF1 k1 : Nat) : Int)), .int (iZ ((faN DF1 k1 : Nat) : Int))])), (wa, .inl (cJ, 1501, .inr (.inl (LJ w1)))), (oU, .inr (7, [.ref da, .ref sa, .int (iZ ((k1 : Nat) : Int))])), (da, .inl (cI, 30, .inl (ZI DF1))), (sa, .inl (cI, 30, .inl (LI SF1)))] := hD
    refine lv_iload_n hx hb dX10_turned_36 rfl (lv_at hl 2 rfl) ?_
    refine zb_if_ne (x := ((what : Nat) : Int)) (tgt := 49) hx hb dX10_turned_37 (by decide) ⟨by omega, by omega⟩ (fun c_37 => ?_) (fun c_37 => ?_)
    · refine lv_iload_n hx hb dX10_turned_49 rfl (lv_at hl 2 rfl) ?_
      refine zc_iconst (z := ((1 : Nat) : Int)) hx hb dX10_turned_50 (by decide) ?_
      refine zb_icmp_ne (x := ((what : Nat) : Int)) (y := ((1 : Nat) : Int)) (tgt := 64) hx hb dX10_turned_51 (by decide) ⟨by omega, by omega⟩ ⟨by decide, by decide⟩ (fun c_51 => ?_) (fun c_51 => ?_)
      · refine lv_aload_n hx hb dX10_turned_64 rfl (lv_at hl 0 rfl) ?_
        refine va_get (D := D) (ci := 9) (v := .ref oT) (C := RX10) (T := TX10) (N := 8) hx hb hts hh_1 hown hK hP 0 rfl rfl 3 (by decide) hh_3 (fun _ h9 => h9) rfl dX10_turned_65 ?_
        refine ca_lV [] [] [(h0, .inr (9, [.ref oH, .ref oR, .ref oU, .ref oT, .ref oM, .ref oC, .ref oL, .ref oA])), (oR, .inr (4, [.ref ga, .ref xa, .ref ya, .int (iZ ((n : Nat) : Int))])), (ga, .inl (cI, 30, .inl (LI G))), (xa, .inl (cI, 30, .inl (LI X))), (ya, .inl (cI, 30, .inl (LI Y))), (oU, .inr (7, [.ref da, .ref sa, .int (iZ ((k1 : Nat) : Int))])), (da, .inl (cI, 30, .inl (ZI DF1))), (sa, .inl (cI, 30, .inl (LI SF1)))] 0 0 ⟨hx, hb, hml, hown, hts⟩ (c_X7_waysAsFar l D cI cJ oT wa w1 _ _ _ (by omega) (by omega)) (cwV 0 hts gX10_turned_X7_waysAsFar rfl rfl rfl (by decide +kernel) ⟨(Nat.le_of_ble_eq_true rfl), (Nat.le_of_ble_eq_true rfl)⟩) hK hP hD hS hA [5, 6] [0, 1, 2, 3, 4, 7, 8, 9] rfl rfl rfl rfl (by decide) 0 rfl rfl rfl hl.1 rfl (Nat.le_of_ble_eq_true rfl) dX10_turned_68 ⟨(Nat.le_of_ble_eq_true rfl), (Nat.le_of_ble_eq_true rfl)⟩ (Nat.le_of_ble_eq_true rfl) (Nat.le_of_ble_eq_true rfl) (fun r_68 u9 H locs hw hP hD hS => ?_)
        obtain u9 := u9
        try dsimp only at hw
        have hP : va_P D vwCl [(h0, .inr (9, [.ref oH, .ref oR, .ref oU, .ref oT, .ref oM, .ref oC, .ref oL, .ref oA])), (oR, .inr (4, [.ref ga, .ref xa, .ref ya, .int (iZ ((n : Nat) : Int))])), (ga, .inl (cI, 30, .inl (LI G))), (xa, .inl (cI, 30, .inl (LI X))), (ya, .inl (cI, 30, .inl (LI Y))), (oU, .inr (7, [.ref da, .ref sa, .int (iZ ((k1 : Nat) : Int))])), (da, .inl (cI, 30, .inl (ZI DF1))), (sa, .inl (cI, 30, .inl (LI SF1))), (oT, .inr (6, [.ref wa, .int (iZ ((sgN DF1 k1 : Nat) : Int)), .int (iZ ((riN DF1 k1 : Nat) : Int)), .int (iZ ((faN DF1 k1 : Nat) : Int))])), (wa, .inl (cJ, 1501, .inr (.inl (LJ w1))))] H := hP
        have hD : va_D A [(h0, .inr (9, [.ref oH, .ref oR, .ref oU, .ref oT, .ref oM, .ref oC, .ref oL, .ref oA])), (oR, .inr (4, [.ref ga, .ref xa, .ref ya, .int (iZ ((n : Nat) : Int))])), (ga, .inl (cI, 30, .inl (LI G))), (xa, .inl (cI, 30, .inl (LI X))), (ya, .inl (cI, 30, .inl (LI Y))), (oU, .inr (7, [.ref da, .ref sa, .int (iZ ((k1 : Nat) : Int))])), (da, .inl (cI, 30, .inl (ZI DF1))), (sa, .inl (cI, 30, .inl (LI SF1))), (oT, .inr (6, [.ref wa, .int (iZ ((sgN DF1 k1 : Nat) : Int)), .int (iZ ((riN DF1 k1 : Nat) : Int)), .int (iZ ((faN DF1 k1 : Nat) : Int))])), (wa, .inl (cJ, 1501, .inr (.inl (LJ w1))))] := hD
        exact hret _ ((k1, DF1, SF1), w1, _, _, _) _ _ _ _ _ _ (Nat.le_of_ble_eq_true rfl) (Nat.le_of_ble_eq_true rfl) dX10_turned_71 (⟨fun _ => by show _ = lZ (trnV _ what); first | (rw [show what = 1 by omega, ← trn_1 hL1 hLa hab hT]; exact hw) | (rw [show what = 2 by omega, ← trn_2 hL1 hLa hab hT]; exact hw), fun h9 => absurd (by omega) h9⟩) hP hD hS
      · refine lv_aload_n hx hb dX10_turned_54 rfl (lv_at hl 0 rfl) ?_
        refine va_get (D := D) (ci := 9) (v := .ref oT) (C := RX10) (T := TX10) (N := 8) hx hb hts hh_1 hown hK hP 0 rfl rfl 3 (by decide) hh_3 (fun _ h9 => h9) rfl dX10_turned_55 ?_
        refine ca_lV [] [] [(h0, .inr (9, [.ref oH, .ref oR, .ref oU, .ref oT, .ref oM, .ref oC, .ref oL, .ref oA])), (oR, .inr (4, [.ref ga, .ref xa, .ref ya, .int (iZ ((n : Nat) : Int))])), (ga, .inl (cI, 30, .inl (LI G))), (xa, .inl (cI, 30, .inl (LI X))), (ya, .inl (cI, 30, .inl (LI Y))), (oU, .inr (7, [.ref da, .ref sa, .int (iZ ((k1 : Nat) : Int))])), (da, .inl (cI, 30, .inl (ZI DF1))), (sa, .inl (cI, 30, .inl (LI SF1)))] 0 0 ⟨hx, hb, hml, hown, hts⟩ (c_X7_waysAtLeast l D cI cJ oT wa w1 _ _ _ (by omega) (by omega)) (cwV 0 hts gX10_turned_X7_waysAtLeast rfl rfl rfl (by decide +kernel) ⟨(Nat.le_of_ble_eq_true rfl), (Nat.le_of_ble_eq_true rfl)⟩) hK hP hD hS hA [5, 6] [0, 1, 2, 3, 4, 7, 8, 9] rfl rfl rfl rfl (by decide) 0 rfl rfl rfl hl.1 rfl (Nat.le_of_ble_eq_true rfl) dX10_turned_58 ⟨(Nat.le_of_ble_eq_true rfl), (Nat.le_of_ble_eq_true rfl)⟩ (Nat.le_of_ble_eq_true rfl) (Nat.le_of_ble_eq_true rfl) (fun r_58 u9 H locs hw hP hD hS => ?_)
        obtain u9 := u9
        try dsimp only at hw
        have hP : va_P D vwCl [(h0, .inr (9, [.ref oH, .ref oR, .ref oU, .ref oT, .ref oM, .ref oC, .ref oL, .ref oA])), (oR, .inr (4, [.ref ga, .ref xa, .ref ya, .int (iZ ((n : Nat) : Int))])), (ga, .inl (cI, 30, .inl (LI G))), (xa, .inl (cI, 30, .inl (LI X))), (ya, .inl (cI, 30, .inl (LI Y))), (oU, .inr (7, [.ref da, .ref sa, .int (iZ ((k1 : Nat) : Int))])), (da, .inl (cI, 30, .inl (ZI DF1))), (sa, .inl (cI, 30, .inl (LI SF1))), (oT, .inr (6, [.ref wa, .int (iZ ((sgN DF1 k1 : Nat) : Int)), .int (iZ ((riN DF1 k1 : Nat) : Int)), .int (iZ ((faN DF1 k1 : Nat) : Int))])), (wa, .inl (cJ, 1501, .inr (.inl (LJ w1))))] H := hP
        have hD : va_D A [(h0, .inr (9, [.ref oH, .ref oR, .ref oU, .ref oT, .ref oM, .ref oC, .ref oL, .ref oA])), (oR, .inr (4, [.ref ga, .ref xa, .ref ya, .int (iZ ((n : Nat) : Int))])), (ga, .inl (cI, 30, .inl (LI G))), (xa, .inl (cI, 30, .inl (LI X))), (ya, .inl (cI, 30, .inl (LI Y))), (oU, .inr (7, [.ref da, .ref sa, .int (iZ ((k1 : Nat) : Int))])), (da, .inl (cI, 30, .inl (ZI DF1))), (sa, .inl (cI, 30, .inl (LI SF1))), (oT, .inr (6, [.ref wa, .int (iZ ((sgN DF1 k1 : Nat) : Int)), .int (iZ ((riN DF1 k1 : Nat) : Int)), .int (iZ ((faN DF1 k1 : Nat) : Int))])), (wa, .inl (cJ, 1501, .inr (.inl (LJ w1))))] := hD
        refine lv_goto (tgt := 71) hx hb dX10_turned_61 (by decide) ?_
        exact hret _ ((k1, DF1, SF1), w1, _, _, _) _ _ _ _ _ _ (Nat.le_of_ble_eq_true rfl) (Nat.le_of_ble_eq_true rfl) dX10_turned_71 (⟨fun _ => by show _ = lZ (trnV _ what); first | (rw [show what = 1 by omega, ← trn_1 hL1 hLa hab hT]; exact hw) | (rw [show what = 2 by omega, ← trn_2 hL1 hLa hab hT]; exact hw), fun h9 => absurd (by omega) h9⟩) hP hD hS
    · refine lv_aload_n hx hb dX10_turned_40 rfl (lv_at hl 0 rfl) ?_
      refine va_get (D := D) (ci := 9) (v := .ref oT) (C := RX10) (T := TX10) (N := 8) hx hb hts hh_1 hown hK hP 0 rfl rfl 3 (by decide) hh_3 (fun _ h9 => h9) rfl dX10_turned_41 ?_
      refine ca_iV [] [] [(h0, .inr (9, [.ref oH, .ref oR, .ref oU, .ref oT, .ref oM, .ref oC, .ref oL, .ref oA])), (oR, .inr (4, [.ref ga, .ref xa, .ref ya, .int (iZ ((n : Nat) : Int))])), (ga, .inl (cI, 30, .inl (LI G))), (xa, .inl (cI, 30, .inl (LI X))), (ya, .inl (cI, 30, .inl (LI Y))), (oU, .inr (7, [.ref da, .ref sa, .int (iZ ((k1 : Nat) : Int))])), (da, .inl (cI, 30, .inl (ZI DF1))), (sa, .inl (cI, 30, .inl (LI SF1)))] 0 0 ⟨hx, hb, hml, hown, hts⟩ (c_X7_signs l D cI cJ oT wa w1 _ _ _) (cwV 0 hts gX10_turned_X7_signs rfl rfl rfl (by decide +kernel) ⟨(Nat.le_of_ble_eq_true rfl), (Nat.le_of_ble_eq_true rfl)⟩) hK hP hD hS hA [5, 6] [0, 1, 2, 3, 4, 7, 8, 9] rfl rfl rfl rfl (by decide) 0 rfl rfl rfl hl.1 rfl (Nat.le_of_ble_eq_true rfl) dX10_turned_44 ⟨(Nat.le_of_ble_eq_true rfl), (Nat.le_of_ble_eq_true rfl)⟩ (Nat.le_of_ble_eq_true rfl) (Nat.le_of_ble_eq_true rfl) (fun r_44 u9 H locs hw hP hD hS => ?_)
      obtain u9 := u9
      try dsimp only at hw
      have hP : va_P D vwCl [(h0, .inr (9, [.ref oH, .ref oR, .ref oU, .ref oT, .ref oM, .ref oC, .ref oL, .ref oA])), (oR, .inr (4, [.ref ga, .ref xa, .ref ya, .int (iZ ((n : Nat) : Int))])), (ga, .inl (cI, 30, .inl (LI G))), (xa, .inl (cI, 30, .inl (LI X))), (ya, .inl (cI, 30, .inl (LI Y))), (oU, .inr (7, [.ref da, .ref sa, .int (iZ ((k1 : Nat) : Int))])), (da, .inl (cI, 30, .inl (ZI DF1))), (sa, .inl (cI, 30, .inl (LI SF1))), (oT, .inr (6, [.ref wa, .int (iZ ((sgN DF1 k1 : Nat) : Int)), .int (iZ ((riN DF1 k1 : Nat) : Int)), .int (iZ ((faN DF1 k1 : Nat) : Int))])), (wa, .inl (cJ, 1501, .inr (.inl (LJ w1))))] H := hP
      have hD : va_D A [(h0, .inr (9, [.ref oH, .ref oR, .ref oU, .ref oT, .ref oM, .ref oC, .ref oL, .ref oA])), (oR, .inr (4, [.ref ga, .ref xa, .ref ya, .int (iZ ((n : Nat) : Int))])), (ga, .inl (cI, 30, .inl (LI G))), (xa, .inl (cI, 30, .inl (LI X))), (ya, .inl (cI, 30, .inl (LI Y))), (oU, .inr (7, [.ref da, .ref sa, .int (iZ ((k1 : Nat) : Int))])), (da, .inl (cI, 30, .inl (ZI DF1))), (sa, .inl (cI, 30, .inl (LI SF1))), (oT, .inr (6, [.ref wa, .int (iZ ((sgN DF1 k1 : Nat) : Int)), .int (iZ ((riN DF1 k1 : Nat) : Int)), .int (iZ ((faN DF1 k1 : Nat) : Int))])), (wa, .inl (cJ, 1501, .inr (.inl (LJ w1))))] := hD
      refine tp_i (y := (iZ ((sgN DF1 k1 : Nat) : Int))) (hw) ?_
      refine z_i2l (z := ((sgN DF1 k1 : Nat) : Int)) hx hb dX10_turned_47 ⟨by omega, by omega⟩ rfl ?_
      exact hret _ ((k1, DF1, SF1), w1, _, _, _) _ _ _ _ _ _ (Nat.le_of_ble_eq_true rfl) (Nat.le_of_ble_eq_true rfl) dX10_turned_48 (⟨fun _ => by show _ = lZ (trnV _ what); rw [show what = 0 by omega, trn_0 hL1 hLa], fun h9 => absurd (by omega) h9⟩) hP hD hS
  · refine lv_ldc2 hx hb hown hh_4 dX10_turned_9 (tp_l (y := lZ (-1 : Int)) (by decide) ?_)
    exact hret _ ((ku, DF, SF), w, sg, ri, fa) _ _ _ _ _ _ (Nat.le_of_ble_eq_true rfl) (Nat.le_of_ble_eq_true rfl) dX10_turned_12 (⟨fun h9 => absurd h9 (by omega), fun _ => rfl⟩) hP hD hS
def rmX10_wins : Room := { frames := 2, cells := 0, slots := 0, locals := 46 }
set_option maxHeartbeats 4000000 in
set_option maxRecDepth 100000 in
theorem c_X10_wins (l : Launch) (D : va_G) (cI cJ : ClassId) (h0 oH oR oU oT oM oC oL oA : Nat) (ga xa ya : Nat) (n : Nat) (G X Y : Nat → Nat) (hr : rok n G X Y) (zt : Int) (izt : iR zt) (zw : Int) (izw : iR zw) : Ci l D vwCl (tyT cI cJ) yX10_wins wsX10_wins rmX10_wins [.ref h0, .int (iZ (zt)), .int (iZ (zw))] [(h0, .inr (9, [.ref oH, .ref oR, .ref oU, .ref oT, .ref oM, .ref oC, .ref oL, .ref oA])), (oR, .inr (4, [.ref ga, .ref xa, .ref ya, .int (iZ ((n : Nat) : Int))])), (ga, .inl (cI, 30, .inl (LI G))), (xa, .inl (cI, 30, .inl (LI X))), (ya, .inl (cI, 30, .inl (LI Y)))] (Unit) (fun r _ => sWins n X Y zt zw r) (fun _ => [(h0, .inr (9, [.ref oH, .ref oR, .ref oU, .ref oT, .ref oM, .ref oC, .ref oL, .ref oA])), (oR, .inr (4, [.ref ga, .ref xa, .ref ya, .int (iZ ((n : Nat) : Int))])), (ga, .inl (cI, 30, .inl (LI G))), (xa, .inl (cI, 30, .inl (LI X))), (ya, .inl (cI, 30, .inl (LI Y)))]) := by
  refine en_i (cc := cX10_wins) (maxL := 3) (by decide) rfl [(0, .ref h0), (1, .int (iZ (zt))), (2, .int (iZ (zw)))] (Nat.le_of_ble_eq_true rfl) rfl ?_
  intro p e s m args below meth c Q A hx hb hml hown hts hnm hK hP hD hA hS hret ls hl
  have hh_0 := hts (.fieldLink RX10 19 "BoundDraws" "rows" "LBoundDraws$Rows;") (by decide +kernel)
  have hh_1 := (show ∀ w ∈ wsX100, w ∈ wsX10_wins by decide +kernel)
  refine lv_iload_n hx hb dX10_wins_0 rfl (lv_at hl 1 rfl) ?_
  refine zc_iconst (z := ((0 : Nat) : Int)) hx hb dX10_wins_1 (by decide) ?_
  refine zc_bipush (z := ((101 : Nat) : Int)) hx hb dX10_wins_2 (by decide) ?_
  refine ca_iS [.int (iZ (zt)), .int (iZ ((0 : Nat) : Int)), .int (iZ ((101 : Nat) : Int))] [] [(h0, .inr (9, [.ref oH, .ref oR, .ref oU, .ref oT, .ref oM, .ref oC, .ref oL, .ref oA])), (oR, .inr (4, [.ref ga, .ref xa, .ref ya, .int (iZ ((n : Nat) : Int))])), (ga, .inl (cI, 30, .inl (LI G))), (xa, .inl (cI, 30, .inl (LI X))), (ya, .inl (cI, 30, .inl (LI Y)))] 0 0 ⟨hx, hb, hml, hown, hts⟩ (c_X3_within l D cI cJ zt ((0 : Nat) : Int) ((101 : Nat) : Int) ⟨by omega, by omega⟩ ⟨by omega, by omega⟩ ⟨by omega, by omega⟩) (va_cwS 3 hts gX10_wins_X3_within rfl rfl rfl (by decide +kernel) ⟨(Nat.le_of_ble_eq_true rfl), (Nat.le_of_ble_eq_true rfl)⟩) hK hP hD hS hA [] [0, 1, 2, 3, 4] rfl rfl rfl rfl (by decide) rfl hl.1 rfl (Nat.le_of_ble_eq_true rfl) dX10_wins_4 ⟨(Nat.le_of_ble_eq_true rfl), (Nat.le_of_ble_eq_true rfl)⟩ (Nat.le_of_ble_eq_true rfl) (Nat.le_of_ble_eq_true rfl) (fun r_4 u9 H locs hw hP hD hS => ?_)
  obtain u9 := u9
  try dsimp only at hw
  obtain ⟨b1, wa1, wb1, wc1⟩ := hw
  have hP : va_P D vwCl [(h0, .inr (9, [.ref oH, .ref oR, .ref oU, .ref oT, .ref oM, .ref oC, .ref oL, .ref oA])), (oR, .inr (4, [.ref ga, .ref xa, .ref ya, .int (iZ ((n : Nat) : Int))])), (ga, .inl (cI, 30, .inl (LI G))), (xa, .inl (cI, 30, .inl (LI X))), (ya, .inl (cI, 30, .inl (LI Y)))] H := hP
  have hD : va_D A [(h0, .inr (9, [.ref oH, .ref oR, .ref oU, .ref oT, .ref oM, .ref oC, .ref oL, .ref oA])), (oR, .inr (4, [.ref ga, .ref xa, .ref ya, .int (iZ ((n : Nat) : Int))])), (ga, .inl (cI, 30, .inl (LI G))), (xa, .inl (cI, 30, .inl (LI X))), (ya, .inl (cI, 30, .inl (LI Y)))] := hD
  refine tp_i (y := (iZ (b1))) (wa1) ?_
  refine zb_if_eq (x := (b1)) (tgt := 19) hx hb dX10_wins_7 (by decide) ⟨by omega, by omega⟩ (fun c_7 => ?_) (fun c_7 => ?_)
  · refine zc_iconst (z := (-1 : Int)) hx hb dX10_wins_19 (by decide) ?_
    exact hret _ (()) _ _ _ _ _ _ (Nat.le_of_ble_eq_true rfl) (Nat.le_of_ble_eq_true rfl) rfl dX10_wins_20 (⟨fun h9 => absurd h9 (by omega), fun _ => rfl⟩) hP hD hS
  · refine lv_iload_n hx hb dX10_wins_10 rfl (lv_at hl 2 rfl) ?_
    refine zc_iconst (z := ((0 : Nat) : Int)) hx hb dX10_wins_11 (by decide) ?_
    refine zc_iconst (z := ((1 : Nat) : Int)) hx hb dX10_wins_12 (by decide) ?_
    refine ca_iS [.int (iZ (zw)), .int (iZ ((0 : Nat) : Int)), .int (iZ ((1 : Nat) : Int))] [] [(h0, .inr (9, [.ref oH, .ref oR, .ref oU, .ref oT, .ref oM, .ref oC, .ref oL, .ref oA])), (oR, .inr (4, [.ref ga, .ref xa, .ref ya, .int (iZ ((n : Nat) : Int))])), (ga, .inl (cI, 30, .inl (LI G))), (xa, .inl (cI, 30, .inl (LI X))), (ya, .inl (cI, 30, .inl (LI Y)))] 0 0 ⟨hx, hb, hml, hown, hts⟩ (c_X3_within l D cI cJ zw ((0 : Nat) : Int) ((1 : Nat) : Int) ⟨by omega, by omega⟩ ⟨by omega, by omega⟩ ⟨by omega, by omega⟩) (va_cwS 3 hts gX10_wins_X3_within rfl rfl rfl (by decide +kernel) ⟨(Nat.le_of_ble_eq_true rfl), (Nat.le_of_ble_eq_true rfl)⟩) hK hP hD hS hA [] [0, 1, 2, 3, 4] rfl rfl rfl rfl (by decide) rfl hl.1 rfl (Nat.le_of_ble_eq_true rfl) dX10_wins_13 ⟨(Nat.le_of_ble_eq_true rfl), (Nat.le_of_ble_eq_true rfl)⟩ (Nat.le_of_ble_eq_true rfl) (Nat.le_of_ble_eq_true rfl) (fun r_13 u9 H locs hw hP hD hS => ?_)
    obtain u9 := u9
    try dsimp only at hw
    obtain ⟨b2, wa2, wb2, wc2⟩ := hw
    have hP : va_P D vwCl [(h0, .inr (9, [.ref oH, .ref oR, .ref oU, .ref oT, .ref oM, .ref oC, .ref oL, .ref oA])), (oR, .inr (4, [.ref ga, .ref xa, .ref ya, .int (iZ ((n : Nat) : Int))])), (ga, .inl (cI, 30, .inl (LI G))), (xa, .inl (cI, 30, .inl (LI X))), (ya, .inl (cI, 30, .inl (LI Y)))] H := hP
    have hD : va_D A [(h0, .inr (9, [.ref oH, .ref oR, .ref oU, .ref oT, .ref oM, .ref oC, .ref oL, .ref oA])), (oR, .inr (4, [.ref ga, .ref xa, .ref ya, .int (iZ ((n : Nat) : Int))])), (ga, .inl (cI, 30, .inl (LI G))), (xa, .inl (cI, 30, .inl (LI X))), (ya, .inl (cI, 30, .inl (LI Y)))] := hD
    refine tp_i (y := (iZ (b2))) (wa2) ?_
    refine zb_if_ne (x := (b2)) (tgt := 21) hx hb dX10_wins_16 (by decide) ⟨by omega, by omega⟩ (fun c_16 => ?_) (fun c_16 => ?_)
    · obtain ⟨t, rfl⟩ : ∃ x9 : Nat, zt = (x9 : Int) := ⟨zt.toNat, by omega⟩
      obtain ⟨what, rfl⟩ : ∃ x9 : Nat, zw = (x9 : Int) := ⟨zw.toNat, by omega⟩
      refine lv_iload_n hx hb dX10_wins_21 rfl (lv_at hl 2 rfl) ?_
      refine zb_if_ne (x := ((what : Nat) : Int)) (tgt := 36) hx hb dX10_wins_22 (by decide) ⟨by omega, by omega⟩ (fun c_22 => ?_) (fun c_22 => ?_)
      · refine lv_aload_n hx hb dX10_wins_36 rfl (lv_at hl 0 rfl) ?_
        refine va_get (D := D) (ci := 9) (v := .ref oR) (C := RX10) (T := TX10) (N := 8) hx hb hts hh_1 hown hK hP 0 rfl rfl 1 (by decide) hh_0 (fun _ h9 => h9) rfl dX10_wins_37 ?_
        refine lv_iload_n hx hb dX10_wins_40 rfl (lv_at hl 1 rfl) ?_
        refine ca_iV [.int (iZ ((t : Nat) : Int))] [] [(h0, .inr (9, [.ref oH, .ref oR, .ref oU, .ref oT, .ref oM, .ref oC, .ref oL, .ref oA]))] 0 0 ⟨hx, hb, hml, hown, hts⟩ (c_X5_lossesBy l D cI cJ oR ga xa ya n G X Y hr t (by omega)) (cwV 1 hts gX10_wins_X5_lossesBy rfl rfl rfl (by decide +kernel) ⟨(Nat.le_of_ble_eq_true rfl), (Nat.le_of_ble_eq_true rfl)⟩) hK hP hD hS hA [1, 2, 3, 4] [0] rfl rfl rfl rfl (by decide) 0 rfl rfl rfl hl.1 rfl (Nat.le_of_ble_eq_true rfl) dX10_wins_41 ⟨(Nat.le_of_ble_eq_true rfl), (Nat.le_of_ble_eq_true rfl)⟩ (Nat.le_of_ble_eq_true rfl) (Nat.le_of_ble_eq_true rfl) (fun r_41 u9 H locs hw hP hD hS => ?_)
        obtain u9 := u9
        try dsimp only at hw
        have hP : va_P D vwCl [(h0, .inr (9, [.ref oH, .ref oR, .ref oU, .ref oT, .ref oM, .ref oC, .ref oL, .ref oA])), (oR, .inr (4, [.ref ga, .ref xa, .ref ya, .int (iZ ((n : Nat) : Int))])), (ga, .inl (cI, 30, .inl (LI G))), (xa, .inl (cI, 30, .inl (LI X))), (ya, .inl (cI, 30, .inl (LI Y)))] H := hP
        have hD : va_D A [(h0, .inr (9, [.ref oH, .ref oR, .ref oU, .ref oT, .ref oM, .ref oC, .ref oL, .ref oA])), (oR, .inr (4, [.ref ga, .ref xa, .ref ya, .int (iZ ((n : Nat) : Int))])), (ga, .inl (cI, 30, .inl (LI G))), (xa, .inl (cI, 30, .inl (LI X))), (ya, .inl (cI, 30, .inl (LI Y)))] := hD
        refine tp_i (y := (iZ ((won Y X t n : Nat) : Int))) (hw) ?_
        exact hret _ (()) _ _ _ _ _ _ (Nat.le_of_ble_eq_true rfl) (Nat.le_of_ble_eq_true rfl) rfl dX10_wins_44 (⟨fun _ => by rw [if_neg (by omega)]; rfl, fun h9 => absurd (by omega) h9⟩) hP hD hS
      · refine lv_aload_n hx hb dX10_wins_25 rfl (lv_at hl 0 rfl) ?_
        refine va_get (D := D) (ci := 9) (v := .ref oR) (C := RX10) (T := TX10) (N := 8) hx hb hts hh_1 hown hK hP 0 rfl rfl 1 (by decide) hh_0 (fun _ h9 => h9) rfl dX10_wins_26 ?_
        refine lv_iload_n hx hb dX10_wins_29 rfl (lv_at hl 1 rfl) ?_
        refine ca_iV [.int (iZ ((t : Nat) : Int))] [] [(h0, .inr (9, [.ref oH, .ref oR, .ref oU, .ref oT, .ref oM, .ref oC, .ref oL, .ref oA]))] 0 0 ⟨hx, hb, hml, hown, hts⟩ (c_X5_winsBy l D cI cJ oR ga xa ya n G X Y hr t (by omega)) (cwV 1 hts gX10_wins_X5_winsBy rfl rfl rfl (by decide +kernel) ⟨(Nat.le_of_ble_eq_true rfl), (Nat.le_of_ble_eq_true rfl)⟩) hK hP hD hS hA [1, 2, 3, 4] [0] rfl rfl rfl rfl (by decide) 0 rfl rfl rfl hl.1 rfl (Nat.le_of_ble_eq_true rfl) dX10_wins_30 ⟨(Nat.le_of_ble_eq_true rfl), (Nat.le_of_ble_eq_true rfl)⟩ (Nat.le_of_ble_eq_true rfl) (Nat.le_of_ble_eq_true rfl) (fun r_30 u9 H locs hw hP hD hS => ?_)
        obtain u9 := u9
        try dsimp only at hw
        have hP : va_P D vwCl [(h0, .inr (9, [.ref oH, .ref oR, .ref oU, .ref oT, .ref oM, .ref oC, .ref oL, .ref oA])), (oR, .inr (4, [.ref ga, .ref xa, .ref ya, .int (iZ ((n : Nat) : Int))])), (ga, .inl (cI, 30, .inl (LI G))), (xa, .inl (cI, 30, .inl (LI X))), (ya, .inl (cI, 30, .inl (LI Y)))] H := hP
        have hD : va_D A [(h0, .inr (9, [.ref oH, .ref oR, .ref oU, .ref oT, .ref oM, .ref oC, .ref oL, .ref oA])), (oR, .inr (4, [.ref ga, .ref xa, .ref ya, .int (iZ ((n : Nat) : Int))])), (ga, .inl (cI, 30, .inl (LI G))), (xa, .inl (cI, 30, .inl (LI X))), (ya, .inl (cI, 30, .inl (LI Y)))] := hD
        refine tp_i (y := (iZ ((won X Y t n : Nat) : Int))) (hw) ?_
        refine lv_goto (tgt := 44) hx hb dX10_wins_33 (by decide) ?_
        exact hret _ (()) _ _ _ _ _ _ (Nat.le_of_ble_eq_true rfl) (Nat.le_of_ble_eq_true rfl) rfl dX10_wins_44 (⟨fun _ => by rw [if_pos (by omega)]; rfl, fun h9 => absurd (by omega) h9⟩) hP hD hS
    · refine zc_iconst (z := (-1 : Int)) hx hb dX10_wins_19 (by decide) ?_
      exact hret _ (()) _ _ _ _ _ _ (Nat.le_of_ble_eq_true rfl) (Nat.le_of_ble_eq_true rfl) rfl dX10_wins_20 (⟨fun h9 => absurd h9 (by omega), fun _ => rfl⟩) hP hD hS
def rmX10_takeOddsOf : Room := { frames := 3, cells := 0, slots := 0, locals := 76 }
set_option maxHeartbeats 4000000 in
set_option maxRecDepth 100000 in
theorem c_X10_takeOddsOf (l : Launch) (D : va_G) (cI cJ : ClassId) (h0 oH oR oU oT oM oC oL oA : Nat) (p0 q0 : Int) (w l9 : Nat) (hwl : w + l9 ≤ 30) : Cv l D vwCl (tyT cI cJ) yX10_takeOddsOf wsX10_takeOddsOf rmX10_takeOddsOf [.ref h0, .int (iZ ((w : Nat) : Int)), .int (iZ ((l9 : Nat) : Int))] [(h0, .inr (9, [.ref oH, .ref oR, .ref oU, .ref oT, .ref oM, .ref oC, .ref oL, .ref oA])), (oA, .inr (3, [.long (lZ (p0)), .long (lZ (q0))]))] (Unit) (fun _ => True) (fun _ => [(h0, .inr (9, [.ref oH, .ref oR, .ref oU, .ref oT, .ref oM, .ref oC, .ref oL, .ref oA])), (oA, .inr (3, [.long (lZ (if ((redL ((evU w l9 : Nat) : Int) (2 ^ (w + l9)) : Nat) : Int) < redU ((evU w l9 : Nat) : Int) (2 ^ (w + l9)) then 1 else redU ((evU w l9 : Nat) : Int) (2 ^ (w + l9)))), .long (lZ (if ((redL ((evU w l9 : Nat) : Int) (2 ^ (w + l9)) : Nat) : Int) < redU ((evU w l9 : Nat) : Int) (2 ^ (w + l9)) then 1 else ((redL ((evU w l9 : Nat) : Int) (2 ^ (w + l9)) : Nat) : Int)))]))]) := by
  have h2p : 2 ^ (w + l9) ≤ 2 ^ 30 := Nat.pow_le_pow_right (by decide) hwl
  have h2q : 0 < 2 ^ (w + l9) := Nat.pow_pos (by decide)
  have hevb := evU_b hwl (min w l9 + 1) (by omega)
  refine en_v (cc := cX10_takeOddsOf) (maxL := 8) (by decide) rfl [(0, .ref h0), (1, .int (iZ ((w : Nat) : Int))), (2, .int (iZ ((l9 : Nat) : Int)))] (Nat.le_of_ble_eq_true rfl) rfl ?_
  intro p e s m args below meth c Q A hx hb hml hown hts hnm hK hP hD hA hS hret ls hl
  have hh_0 := hts (.methodLink RX10 229 Lib.Math.min.name) (by decide +kernel)
  have hh_1 := hts (.static Lib.Math.min.name) (by decide +kernel)
  have hh_2 := hts (.initialized "java/lang/Math") (by decide +kernel)
  have hh_3 := hts (.code Lib.Math.min.name Lib.Math.min.code 2 (some .int)) (by decide +kernel)
  have hh_4 := hts (.fieldLink RX10 61 "BoundDraws" "answer" "LBoundDraws$Ratio;") (by decide +kernel)
  have hh_5 := (show ∀ w ∈ wsX100, w ∈ wsX10_takeOddsOf by decide +kernel)
  have hh_6 := hts (.constantLong RX10 235 (2)) (by decide +kernel)
  refine lv_iload_n hx hb dX10_takeOddsOf_0 rfl (lv_at hl 1 rfl) ?_
  refine lv_iload_n hx hb dX10_takeOddsOf_1 rfl (lv_at hl 2 rfl) ?_
  refine zi_add (z := ((w + l9 : Nat) : Int)) hx hb dX10_takeOddsOf_2 (by omega) ?_
  refine lv_istore_n (lv' := [(3, .int (iZ ((w + l9 : Nat) : Int))), (0, .ref h0), (1, .int (iZ ((w : Nat) : Int))), (2, .int (iZ ((l9 : Nat) : Int)))]) hx hb dX10_takeOddsOf_3 rfl hl (by decide) rfl (fun ls hl => ?_)
  refine lv_iload_n hx hb dX10_takeOddsOf_4 rfl (lv_at hl 2 rfl) ?_
  refine lv_iload_n hx hb dX10_takeOddsOf_5 rfl (lv_at hl 3 rfl) ?_
  refine zm_min (z := ((min w l9 : Nat) : Int)) hx hb (hml.trans hl.1.symm) hown hh_0 hh_1 hh_2 hh_3 (Nat.le_of_ble_eq_true rfl) (Nat.le_of_ble_eq_true rfl) ⟨by omega, by omega⟩ ⟨by omega, by omega⟩ (by omega) dX10_takeOddsOf_6 ?_
  refine lv_istore (lv' := [(4, .int (iZ ((min w l9 : Nat) : Int))), (3, .int (iZ ((w + l9 : Nat) : Int))), (0, .ref h0), (1, .int (iZ ((w : Nat) : Int))), (2, .int (iZ ((l9 : Nat) : Int)))]) hx hb dX10_takeOddsOf_9 hl (by decide) rfl (fun ls hl => ?_)
  refine zc_lconst (z := ((0 : Nat) : Int)) hx hb dX10_takeOddsOf_11 (by decide) ?_
  refine tp_l (y := (lZ ((sumN (ch (w + l9)) 0 : Nat) : Int))) (rfl) ?_
  refine lv_lstore (lv' := [(5, .long (lZ ((sumN (ch (w + l9)) 0 : Nat) : Int))), (4, .int (iZ ((min w l9 : Nat) : Int))), (3, .int (iZ ((w + l9 : Nat) : Int))), (0, .ref h0), (1, .int (iZ ((w : Nat) : Int))), (2, .int (iZ ((l9 : Nat) : Int)))]) hx hb dX10_takeOddsOf_12 hl (by decide) rfl (fun ls hl => ?_)
  refine zc_iconst (z := ((0 : Nat) : Int)) hx hb dX10_takeOddsOf_14 (by decide) ?_
  refine lv_istore (lv' := [(7, .int (iZ ((0 : Nat) : Int))), (5, .long (lZ ((sumN (ch (w + l9)) 0 : Nat) : Int))), (4, .int (iZ ((min w l9 : Nat) : Int))), (3, .int (iZ ((w + l9 : Nat) : Int))), (0, .ref h0), (1, .int (iZ ((w : Nat) : Int))), (2, .int (iZ ((l9 : Nat) : Int)))]) hx hb dX10_takeOddsOf_15 hl (by decide) rfl (fun ls hl => ?_)
  have pt_17 : ∀ f : Nat, ∀ (i : Nat), (hi : i ≤ min w l9 + 1) → (hf : min w l9 + 1 < i + f) → (H : Heap) → (locs : List Loc) → va_P D vwCl [(h0, .inr (9, [.ref oH, .ref oR, .ref oU, .ref oT, .ref oM, .ref oC, .ref oL, .ref oA])), (oA, .inr (3, [.long (lZ (p0)), .long (lZ (q0))]))] H → va_D A [(h0, .inr (9, [.ref oH, .ref oR, .ref oU, .ref oT, .ref oM, .ref oC, .ref oL, .ref oA])), (oA, .inr (3, [.long (lZ (p0)), .long (lZ (q0))]))] → va_S A s.heap H locs → (ls : Array Slot) → lv_has ls 8 [(7, .int (iZ ((i : Nat) : Int))), (5, .long (lZ ((sumN (ch (w + l9)) i : Nat) : Int))), (4, .int (iZ ((min w l9 : Nat) : Int))), (3, .int (iZ ((w + l9 : Nat) : Int))), (0, .ref h0), (1, .int (iZ ((w : Nat) : Int))), (2, .int (iZ ((l9 : Nat) : Int)))] → W p l e rmX10_takeOddsOf s m args below meth c H locs 0 0 Q (F0 m 17 ls []) := by
    intro f
    induction f with
    | zero =>
      intro i hi hf H locs hP hD hS ls hl
      exfalso; omega
    | succ f ih_17 =>
      intro i hi hf H locs hP hD hS ls hl
      refine lv_iload hx hb dX10_takeOddsOf_17 (lv_at hl 0 rfl) ?_
      refine lv_iload hx hb dX10_takeOddsOf_19 (lv_at hl 2 rfl) ?_
      refine zb_icmp_gt (x := ((i : Nat) : Int)) (y := ((min w l9 : Nat) : Int)) (tgt := 41) hx hb dX10_takeOddsOf_21 (by decide) ⟨by omega, by omega⟩ ⟨by omega, by omega⟩ (fun c_21 => ?_) (fun c_21 => ?_)
      · refine lv_aload_n hx hb dX10_takeOddsOf_41 rfl (lv_at hl 4 rfl) ?_
        refine va_get (D := D) (ci := 9) (v := .ref oA) (C := RX10) (T := TX10) (N := 8) hx hb hts hh_5 hown hK hP 0 rfl rfl 7 (by decide) hh_4 (fun _ h9 => h9) rfl dX10_takeOddsOf_42 ?_
        refine lv_ldc2 hx hb hown hh_6 dX10_takeOddsOf_45 (tp_l (y := lZ ((2 : Nat) : Int)) (by decide) ?_)
        refine lv_lload hx hb dX10_takeOddsOf_48 (lv_at hl 1 rfl) ?_
        refine zl_mul (z := ((evU w l9 : Nat) : Int)) hx hb dX10_takeOddsOf_50 (by have e9 : i = min w l9 + 1 := (by omega); rw [e9]; unfold evU; omega) ?_
        refine zc_lconst (z := ((1 : Nat) : Int)) hx hb dX10_takeOddsOf_51 (by decide) ?_
        refine lv_iload_n hx hb dX10_takeOddsOf_52 rfl (lv_at hl 3 rfl) ?_
        refine lv_lshl (v := (lZ ((2 ^ (w + l9) : Nat) : Int))) hx hb dX10_takeOddsOf_53 (by rw [z_lshl 1 (by omega), Nat.one_mul]) ?_
        refine ca_vV [.long (lZ ((evU w l9 : Nat) : Int)), .long (lZ ((2 ^ (w + l9) : Nat) : Int))] [] [(h0, .inr (9, [.ref oH, .ref oR, .ref oU, .ref oT, .ref oM, .ref oC, .ref oL, .ref oA]))] 0 0 ⟨hx, hb, hml, hown, hts⟩ (c_X4_become l D cI cJ oA p0 q0 ((evU w l9 : Nat) : Int) (2 ^ (w + l9)) (by omega) (by unfold evU; omega) h2q (by omega)) (cwV 2 hts gX10_takeOddsOf_X4_become rfl rfl rfl (by decide +kernel) ⟨(Nat.le_of_ble_eq_true rfl), (Nat.le_of_ble_eq_true rfl)⟩) hK hP hD hS hA [1] [0] rfl rfl rfl rfl (by decide) 0 rfl rfl rfl hl.1 rfl (Nat.le_of_ble_eq_true rfl) dX10_takeOddsOf_54 ⟨(Nat.le_of_ble_eq_true rfl), (Nat.le_of_ble_eq_true rfl)⟩ (Nat.le_of_ble_eq_true rfl) (Nat.le_of_ble_eq_true rfl) (fun u9 H locs hw hP hD hS => ?_)
        obtain u9 := u9
        try dsimp only at hw
        have hP : va_P D vwCl [(h0, .inr (9, [.ref oH, .ref oR, .ref oU, .ref oT, .ref oM, .ref oC, .ref oL, .ref oA])), (oA, .inr (3, [.long (lZ (redU ((evU w l9 : Nat) : Int) (2 ^ (w + l9)))), .long (lZ ((redL ((evU w l9 : Nat) : Int) (2 ^ (w + l9)) : Nat) : Int))]))] H := hP
        have hD : va_D A [(h0, .inr (9, [.ref oH, .ref oR, .ref oU, .ref oT, .ref oM, .ref oC, .ref oL, .ref oA])), (oA, .inr (3, [.long (lZ (redU ((evU w l9 : Nat) : Int) (2 ^ (w + l9)))), .long (lZ ((redL ((evU w l9 : Nat) : Int) (2 ^ (w + l9)) : Nat) : Int))]))] := hD
        have hru := redU_b (u := ((evU w l9 : Nat) : Int)) (d := 2 ^ (w + l9)) (B := 20000000000) h2q (by omega) (by unfold evU; omega)
        have hrl := redL_le (u := ((evU w l9 : Nat) : Int)) (d := 2 ^ (w + l9))
        refine lv_aload_n hx hb dX10_takeOddsOf_57 rfl (lv_at hl 4 rfl) ?_
        refine va_get (D := D) (ci := 9) (v := .ref oA) (C := RX10) (T := TX10) (N := 8) hx hb hts hh_5 hown hK hP 0 rfl rfl 7 (by decide) hh_4 (fun _ h9 => h9) rfl dX10_takeOddsOf_58 ?_
        refine ca_vV [] [] [(h0, .inr (9, [.ref oH, .ref oR, .ref oU, .ref oT, .ref oM, .ref oC, .ref oL, .ref oA]))] 0 0 ⟨hx, hb, hml, hown, hts⟩ (c_X4_capAtOne l D cI cJ oA (redU ((evU w l9 : Nat) : Int) (2 ^ (w + l9))) ((redL ((evU w l9 : Nat) : Int) (2 ^ (w + l9)) : Nat) : Int) ⟨by omega, by omega⟩ ⟨by omega, by omega⟩) (cwV 0 hts gX10_takeOddsOf_X4_capAtOne rfl rfl rfl (by decide +kernel) ⟨(Nat.le_of_ble_eq_true rfl), (Nat.le_of_ble_eq_true rfl)⟩) hK hP hD hS hA [1] [0] rfl rfl rfl rfl (by decide) 0 rfl rfl rfl hl.1 rfl (Nat.le_of_ble_eq_true rfl) dX10_takeOddsOf_61 ⟨(Nat.le_of_ble_eq_true rfl), (Nat.le_of_ble_eq_true rfl)⟩ (Nat.le_of_ble_eq_true rfl) (Nat.le_of_ble_eq_true rfl) (fun u9 H locs hw hP hD hS => ?_)
        obtain u9 := u9
        try dsimp only at hw
        have hP : va_P D vwCl [(h0, .inr (9, [.ref oH, .ref oR, .ref oU, .ref oT, .ref oM, .ref oC, .ref oL, .ref oA])), (oA, .inr (3, [.long (lZ (if ((redL ((evU w l9 : Nat) : Int) (2 ^ (w + l9)) : Nat) : Int) < redU ((evU w l9 : Nat) : Int) (2 ^ (w + l9)) then 1 else redU ((evU w l9 : Nat) : Int) (2 ^ (w + l9)))), .long (lZ (if ((redL ((evU w l9 : Nat) : Int) (2 ^ (w + l9)) : Nat) : Int) < redU ((evU w l9 : Nat) : Int) (2 ^ (w + l9)) then 1 else ((redL ((evU w l9 : Nat) : Int) (2 ^ (w + l9)) : Nat) : Int)))]))] H := hP
        have hD : va_D A [(h0, .inr (9, [.ref oH, .ref oR, .ref oU, .ref oT, .ref oM, .ref oC, .ref oL, .ref oA])), (oA, .inr (3, [.long (lZ (if ((redL ((evU w l9 : Nat) : Int) (2 ^ (w + l9)) : Nat) : Int) < redU ((evU w l9 : Nat) : Int) (2 ^ (w + l9)) then 1 else redU ((evU w l9 : Nat) : Int) (2 ^ (w + l9)))), .long (lZ (if ((redL ((evU w l9 : Nat) : Int) (2 ^ (w + l9)) : Nat) : Int) < redU ((evU w l9 : Nat) : Int) (2 ^ (w + l9)) then 1 else ((redL ((evU w l9 : Nat) : Int) (2 ^ (w + l9)) : Nat) : Int)))]))] := hD
        exact hret (()) _ _ _ _ _ _ (Nat.le_of_ble_eq_true rfl) (Nat.le_of_ble_eq_true rfl) dX10_takeOddsOf_64 (trivial) hP hD hS
      · refine lv_lload hx hb dX10_takeOddsOf_24 (lv_at hl 1 rfl) ?_
        refine lv_iload_n hx hb dX10_takeOddsOf_26 rfl (lv_at hl 3 rfl) ?_
        refine lv_iload hx hb dX10_takeOddsOf_27 (lv_at hl 0 rfl) ?_
        refine ca_lS [.int (iZ ((w + l9 : Nat) : Int)), .int (iZ ((i : Nat) : Int))] [.long (lZ ((sumN (ch (w + l9)) i : Nat) : Int))] [(h0, .inr (9, [.ref oH, .ref oR, .ref oU, .ref oT, .ref oM, .ref oC, .ref oL, .ref oA])), (oA, .inr (3, [.long (lZ (p0)), .long (lZ (q0))]))] 0 0 ⟨hx, hb, hml, hown, hts⟩ (c_X3_setsOutOf l D cI cJ (w + l9) i (by omega) (by omega)) (va_cwS 2 hts gX10_takeOddsOf_X3_setsOutOf rfl rfl rfl (by decide +kernel) ⟨(Nat.le_of_ble_eq_true rfl), (Nat.le_of_ble_eq_true rfl)⟩) hK hP hD hS hA [] [0, 1] rfl rfl rfl rfl (by decide) rfl hl.1 rfl (Nat.le_of_ble_eq_true rfl) dX10_takeOddsOf_29 ⟨(Nat.le_of_ble_eq_true rfl), (Nat.le_of_ble_eq_true rfl)⟩ (Nat.le_of_ble_eq_true rfl) (Nat.le_of_ble_eq_true rfl) (fun r_29 u9 H locs hw hP hD hS => ?_)
        obtain u9 := u9
        try dsimp only at hw
        have hP : va_P D vwCl [(h0, .inr (9, [.ref oH, .ref oR, .ref oU, .ref oT, .ref oM, .ref oC, .ref oL, .ref oA])), (oA, .inr (3, [.long (lZ (p0)), .long (lZ (q0))]))] H := hP
        have hD : va_D A [(h0, .inr (9, [.ref oH, .ref oR, .ref oU, .ref oT, .ref oM, .ref oC, .ref oL, .ref oA])), (oA, .inr (3, [.long (lZ (p0)), .long (lZ (q0))]))] := hD
        refine tp_l (y := (lZ ((ch (w + l9) i : Nat) : Int))) (hw) ?_
        refine zl_add (z := ((sumN (ch (w + l9)) (i + 1) : Nat) : Int)) hx hb dX10_takeOddsOf_32 (by show _ = ((sumN (ch (w + l9)) i + ch (w + l9) i : Nat) : Int); omega) ?_
        refine lv_lstore (lv' := [(5, .long (lZ ((sumN (ch (w + l9)) (i + 1) : Nat) : Int))), (7, .int (iZ ((i : Nat) : Int))), (4, .int (iZ ((min w l9 : Nat) : Int))), (3, .int (iZ ((w + l9 : Nat) : Int))), (0, .ref h0), (1, .int (iZ ((w : Nat) : Int))), (2, .int (iZ ((l9 : Nat) : Int)))]) hx hb dX10_takeOddsOf_33 hl (by decide) rfl (fun ls hl => ?_)
        refine lv_iinc (v := iZ ((i + 1 : Nat) : Int)) (lv' := [(7, .int (iZ ((i + 1 : Nat) : Int))), (5, .long (lZ ((sumN (ch (w + l9)) (i + 1) : Nat) : Int))), (4, .int (iZ ((min w l9 : Nat) : Int))), (3, .int (iZ ((w + l9 : Nat) : Int))), (0, .ref h0), (1, .int (iZ ((w : Nat) : Int))), (2, .int (iZ ((l9 : Nat) : Int)))]) hx hb dX10_takeOddsOf_35 hl (k := 1) rfl (zi_inc (by omega)) (by decide) rfl (fun ls hl => ?_)
        refine lv_goto (tgt := 17) hx hb dX10_takeOddsOf_38 (by decide) ?_
        exact ih_17 (i + 1) (by omega) (by omega) _ _ hP hD hS ls (lv_sub hl [0, 1, 2, 3, 4, 5, 6] rfl)
  exact pt_17 (min w l9 + 2) 0 (by omega) (by omega) _ _ hP hD hS ls (lv_sub hl [0, 1, 2, 3, 4, 5, 6] rfl)
theorem won_le {n : Nat} {X Y : Nat → Nat} (hn : n ≤ 30) (t : Nat) : won X Y t n + won Y X t n ≤ 30 := by
  have h : ∀ k, won X Y t k + won Y X t k ≤ k := by
    intro k
    induction k with
    | zero => exact Nat.le_refl _
    | succ k ih =>
      unfold won at *
      rw [cnt_s, cnt_s]
      by_cases c1 : t ≤ X k <;> by_cases c2 : t ≤ Y k
      · have c3 : ¬ Y k < t := by omega
        have c4 : ¬ X k < t := by omega
        simp only [c1, c2, c3, c4]; simp; omega
      · have c3 : Y k < t := by omega
        have c4 : ¬ X k < t := by omega
        simp only [c1, c2, c3, c4]; simp; omega
      · have c3 : ¬ Y k < t := by omega
        have c4 : X k < t := by omega
        simp only [c1, c2, c3, c4]; simp; omega
      · have c3 : Y k < t := by omega
        have c4 : X k < t := by omega
        simp only [c1, c2, c3, c4]; simp; omega
  have := h n
  omega
def rmX10_even : Room := { frames := 4, cells := 0, slots := 0, locals := 103 }
set_option maxHeartbeats 4000000 in
set_option maxRecDepth 100000 in
theorem c_X10_even (l : Launch) (D : va_G) (cI cJ : ClassId) (h0 oH oR oU oT oM oC oL oA : Nat) (ga xa ya : Nat) (n : Nat) (G X Y : Nat → Nat) (hr : rok n G X Y) (p0 q0 : Int) (zt : Int) (izt : iR zt) (zs : Int) (izs : iR zs) : Cl l D vwCl (tyT cI cJ) yX10_even wsX10_even rmX10_even [.ref h0, .int (iZ (zt)), .int (iZ (zs))] [(h0, .inr (9, [.ref oH, .ref oR, .ref oU, .ref oT, .ref oM, .ref oC, .ref oL, .ref oA])), (oR, .inr (4, [.ref ga, .ref xa, .ref ya, .int (iZ ((n : Nat) : Int))])), (ga, .inl (cI, 30, .inl (LI G))), (xa, .inl (cI, 30, .inl (LI X))), (ya, .inl (cI, 30, .inl (LI Y))), (oA, .inr (3, [.long (lZ (p0)), .long (lZ (q0))]))] (Int × Int) (fun r _ => sEven n X Y zt zs r) (fun u => [(h0, .inr (9, [.ref oH, .ref oR, .ref oU, .ref oT, .ref oM, .ref oC, .ref oL, .ref oA])), (oR, .inr (4, [.ref ga, .ref xa, .ref ya, .int (iZ ((n : Nat) : Int))])), (ga, .inl (cI, 30, .inl (LI G))), (xa, .inl (cI, 30, .inl (LI X))), (ya, .inl (cI, 30, .inl (LI Y))), (oA, .inr (3, [.long (lZ (u.1)), .long (lZ (u.2))]))]) := by
  refine en_l (cc := cX10_even) (maxL := 3) (by decide) rfl [(0, .ref h0), (1, .int (iZ (zt))), (2, .int (iZ (zs)))] (Nat.le_of_ble_eq_true rfl) rfl ?_
  intro p e s m args below meth c Q A hx hb hml hown hts hnm hK hP hD hA hS hret ls hl
  have hh_0 := hts (.constantLong RX10 75 (-1)) (by decide +kernel)
  have hh_1 := hts (.fieldLink RX10 19 "BoundDraws" "rows" "LBoundDraws$Rows;") (by decide +kernel)
  have hh_2 := (show ∀ w ∈ wsX100, w ∈ wsX10_even by decide +kernel)
  have hh_3 := hts (.fieldLink RX10 61 "BoundDraws" "answer" "LBoundDraws$Ratio;") (by decide +kernel)
  refine lv_iload_n hx hb dX10_even_0 rfl (lv_at hl 1 rfl) ?_
  refine zc_iconst (z := ((0 : Nat) : Int)) hx hb dX10_even_1 (by decide) ?_
  refine zc_bipush (z := ((101 : Nat) : Int)) hx hb dX10_even_2 (by decide) ?_
  refine ca_iS [.int (iZ (zt)), .int (iZ ((0 : Nat) : Int)), .int (iZ ((101 : Nat) : Int))] [] [(h0, .inr (9, [.ref oH, .ref oR, .ref oU, .ref oT, .ref oM, .ref oC, .ref oL, .ref oA])), (oR, .inr (4, [.ref ga, .ref xa, .ref ya, .int (iZ ((n : Nat) : Int))])), (ga, .inl (cI, 30, .inl (LI G))), (xa, .inl (cI, 30, .inl (LI X))), (ya, .inl (cI, 30, .inl (LI Y))), (oA, .inr (3, [.long (lZ (p0)), .long (lZ (q0))]))] 0 0 ⟨hx, hb, hml, hown, hts⟩ (c_X3_within l D cI cJ zt ((0 : Nat) : Int) ((101 : Nat) : Int) ⟨by omega, by omega⟩ ⟨by omega, by omega⟩ ⟨by omega, by omega⟩) (va_cwS 3 hts gX10_even_X3_within rfl rfl rfl (by decide +kernel) ⟨(Nat.le_of_ble_eq_true rfl), (Nat.le_of_ble_eq_true rfl)⟩) hK hP hD hS hA [] [0, 1, 2, 3, 4, 5] rfl rfl rfl rfl (by decide) rfl hl.1 rfl (Nat.le_of_ble_eq_true rfl) dX10_even_4 ⟨(Nat.le_of_ble_eq_true rfl), (Nat.le_of_ble_eq_true rfl)⟩ (Nat.le_of_ble_eq_true rfl) (Nat.le_of_ble_eq_true rfl) (fun r_4 u9 H locs hw hP hD hS => ?_)
  obtain u9 := u9
  try dsimp only at hw
  obtain ⟨b1, wa1, wb1, wc1⟩ := hw
  have hP : va_P D vwCl [(h0, .inr (9, [.ref oH, .ref oR, .ref oU, .ref oT, .ref oM, .ref oC, .ref oL, .ref oA])), (oR, .inr (4, [.ref ga, .ref xa, .ref ya, .int (iZ ((n : Nat) : Int))])), (ga, .inl (cI, 30, .inl (LI G))), (xa, .inl (cI, 30, .inl (LI X))), (ya, .inl (cI, 30, .inl (LI Y))), (oA, .inr (3, [.long (lZ (p0)), .long (lZ (q0))]))] H := hP
  have hD : va_D A [(h0, .inr (9, [.ref oH, .ref oR, .ref oU, .ref oT, .ref oM, .ref oC, .ref oL, .ref oA])), (oR, .inr (4, [.ref ga, .ref xa, .ref ya, .int (iZ ((n : Nat) : Int))])), (ga, .inl (cI, 30, .inl (LI G))), (xa, .inl (cI, 30, .inl (LI X))), (ya, .inl (cI, 30, .inl (LI Y))), (oA, .inr (3, [.long (lZ (p0)), .long (lZ (q0))]))] := hD
  refine tp_i (y := (iZ (b1))) (wa1) ?_
  refine zb_if_eq (x := (b1)) (tgt := 17) hx hb dX10_even_7 (by decide) ⟨by omega, by omega⟩ (fun c_7 => ?_) (fun c_7 => ?_)
  · refine lv_ldc2 hx hb hown hh_0 dX10_even_17 (tp_l (y := lZ (-1 : Int)) (by decide) ?_)
    exact hret _ (p0, q0) _ _ _ _ _ _ (Nat.le_of_ble_eq_true rfl) (Nat.le_of_ble_eq_true rfl) dX10_even_20 (⟨fun h9 => absurd h9 (by omega), fun _ => rfl⟩) hP hD hS
  · refine lv_iload_n hx hb dX10_even_10 rfl (lv_at hl 2 rfl) ?_
    refine ca_iS [.int (iZ (zs))] [] [(h0, .inr (9, [.ref oH, .ref oR, .ref oU, .ref oT, .ref oM, .ref oC, .ref oL, .ref oA])), (oR, .inr (4, [.ref ga, .ref xa, .ref ya, .int (iZ ((n : Nat) : Int))])), (ga, .inl (cI, 30, .inl (LI G))), (xa, .inl (cI, 30, .inl (LI X))), (ya, .inl (cI, 30, .inl (LI Y))), (oA, .inr (3, [.long (lZ (p0)), .long (lZ (q0))]))] 0 0 ⟨hx, hb, hml, hown, hts⟩ (c_X10_isSide l D cI cJ zs ⟨by omega, by omega⟩) (va_cwS 1 hts gX10_even_X10_isSide rfl rfl rfl (by decide +kernel) ⟨(Nat.le_of_ble_eq_true rfl), (Nat.le_of_ble_eq_true rfl)⟩) hK hP hD hS hA [] [0, 1, 2, 3, 4, 5] rfl rfl rfl rfl (by decide) rfl hl.1 rfl (Nat.le_of_ble_eq_true rfl) dX10_even_11 ⟨(Nat.le_of_ble_eq_true rfl), (Nat.le_of_ble_eq_true rfl)⟩ (Nat.le_of_ble_eq_true rfl) (Nat.le_of_ble_eq_true rfl) (fun r_11 u9 H locs hw hP hD hS => ?_)
    obtain u9 := u9
    try dsimp only at hw
    obtain ⟨b2, wa2, wb2, wc2⟩ := hw
    have hP : va_P D vwCl [(h0, .inr (9, [.ref oH, .ref oR, .ref oU, .ref oT, .ref oM, .ref oC, .ref oL, .ref oA])), (oR, .inr (4, [.ref ga, .ref xa, .ref ya, .int (iZ ((n : Nat) : Int))])), (ga, .inl (cI, 30, .inl (LI G))), (xa, .inl (cI, 30, .inl (LI X))), (ya, .inl (cI, 30, .inl (LI Y))), (oA, .inr (3, [.long (lZ (p0)), .long (lZ (q0))]))] H := hP
    have hD : va_D A [(h0, .inr (9, [.ref oH, .ref oR, .ref oU, .ref oT, .ref oM, .ref oC, .ref oL, .ref oA])), (oR, .inr (4, [.ref ga, .ref xa, .ref ya, .int (iZ ((n : Nat) : Int))])), (ga, .inl (cI, 30, .inl (LI G))), (xa, .inl (cI, 30, .inl (LI X))), (ya, .inl (cI, 30, .inl (LI Y))), (oA, .inr (3, [.long (lZ (p0)), .long (lZ (q0))]))] := hD
    refine tp_i (y := (iZ (b2))) (wa2) ?_
    refine zb_if_ne (x := (b2)) (tgt := 21) hx hb dX10_even_14 (by decide) ⟨by omega, by omega⟩ (fun c_14 => ?_) (fun c_14 => ?_)
    · obtain ⟨t, rfl⟩ : ∃ x9 : Nat, zt = (x9 : Int) := ⟨zt.toNat, by omega⟩
      have hwl : won X Y t n + won Y X t n ≤ 30 := won_le hr.1 t
      refine lv_aload_n hx hb dX10_even_21 rfl (lv_at hl 0 rfl) ?_
      refine lv_aload_n hx hb dX10_even_22 rfl (lv_at hl 0 rfl) ?_
      refine va_get (D := D) (ci := 9) (v := .ref oR) (C := RX10) (T := TX10) (N := 8) hx hb hts hh_2 hown hK hP 0 rfl rfl 1 (by decide) hh_1 (fun _ h9 => h9) rfl dX10_even_23 ?_
      refine lv_iload_n hx hb dX10_even_26 rfl (lv_at hl 1 rfl) ?_
      refine ca_iV [.int (iZ ((t : Nat) : Int))] [.ref h0] [(h0, .inr (9, [.ref oH, .ref oR, .ref oU, .ref oT, .ref oM, .ref oC, .ref oL, .ref oA])), (oA, .inr (3, [.long (lZ (p0)), .long (lZ (q0))]))] 0 0 ⟨hx, hb, hml, hown, hts⟩ (c_X5_winsBy l D cI cJ oR ga xa ya n G X Y hr t (by omega)) (cwV 1 hts gX10_even_X5_winsBy rfl rfl rfl (by decide +kernel) ⟨(Nat.le_of_ble_eq_true rfl), (Nat.le_of_ble_eq_true rfl)⟩) hK hP hD hS hA [1, 2, 3, 4] [0, 5] rfl rfl rfl rfl (by decide) 0 rfl rfl rfl hl.1 rfl (Nat.le_of_ble_eq_true rfl) dX10_even_27 ⟨(Nat.le_of_ble_eq_true rfl), (Nat.le_of_ble_eq_true rfl)⟩ (Nat.le_of_ble_eq_true rfl) (Nat.le_of_ble_eq_true rfl) (fun r_27 u9 H locs hw hP hD hS => ?_)
      obtain u9 := u9
      try dsimp only at hw
      have hP : va_P D vwCl [(h0, .inr (9, [.ref oH, .ref oR, .ref oU, .ref oT, .ref oM, .ref oC, .ref oL, .ref oA])), (oA, .inr (3, [.long (lZ (p0)), .long (lZ (q0))])), (oR, .inr (4, [.ref ga, .ref xa, .ref ya, .int (iZ ((n : Nat) : Int))])), (ga, .inl (cI, 30, .inl (LI G))), (xa, .inl (cI, 30, .inl (LI X))), (ya, .inl (cI, 30, .inl (LI Y)))] H := hP
      have hD : va_D A [(h0, .inr (9, [.ref oH, .ref oR, .ref oU, .ref oT, .ref oM, .ref oC, .ref oL, .ref oA])), (oA, .inr (3, [.long (lZ (p0)), .long (lZ (q0))])), (oR, .inr (4, [.ref ga, .ref xa, .ref ya, .int (iZ ((n : Nat) : Int))])), (ga, .inl (cI, 30, .inl (LI G))), (xa, .inl (cI, 30, .inl (LI X))), (ya, .inl (cI, 30, .inl (LI Y)))] := hD
      refine tp_i (y := (iZ ((won X Y t n : Nat) : Int))) (hw) ?_
      refine lv_aload_n hx hb dX10_even_30 rfl (lv_at hl 0 rfl) ?_
      refine va_get (D := D) (ci := 9) (v := .ref oR) (C := RX10) (T := TX10) (N := 8) hx hb hts hh_2 hown hK hP 0 rfl rfl 1 (by decide) hh_1 (fun _ h9 => h9) rfl dX10_even_31 ?_
      refine lv_iload_n hx hb dX10_even_34 rfl (lv_at hl 1 rfl) ?_
      refine ca_iV [.int (iZ ((t : Nat) : Int))] [.int (iZ ((won X Y t n : Nat) : Int)), .ref h0] [(h0, .inr (9, [.ref oH, .ref oR, .ref oU, .ref oT, .ref oM, .ref oC, .ref oL, .ref oA])), (oA, .inr (3, [.long (lZ (p0)), .long (lZ (q0))]))] 0 0 ⟨hx, hb, hml, hown, hts⟩ (c_X5_lossesBy l D cI cJ oR ga xa ya n G X Y hr t (by omega)) (cwV 1 hts gX10_even_X5_lossesBy rfl rfl rfl (by decide +kernel) ⟨(Nat.le_of_ble_eq_true rfl), (Nat.le_of_ble_eq_true rfl)⟩) hK hP hD hS hA [2, 3, 4, 5] [0, 1] rfl rfl rfl rfl (by decide) 0 rfl rfl rfl hl.1 rfl (Nat.le_of_ble_eq_true rfl) dX10_even_35 ⟨(Nat.le_of_ble_eq_true rfl), (Nat.le_of_ble_eq_true rfl)⟩ (Nat.le_of_ble_eq_true rfl) (Nat.le_of_ble_eq_true rfl) (fun r_35 u9 H locs hw hP hD hS => ?_)
      obtain u9 := u9
      try dsimp only at hw
      have hP : va_P D vwCl [(h0, .inr (9, [.ref oH, .ref oR, .ref oU, .ref oT, .ref oM, .ref oC, .ref oL, .ref oA])), (oA, .inr (3, [.long (lZ (p0)), .long (lZ (q0))])), (oR, .inr (4, [.ref ga, .ref xa, .ref ya, .int (iZ ((n : Nat) : Int))])), (ga, .inl (cI, 30, .inl (LI G))), (xa, .inl (cI, 30, .inl (LI X))), (ya, .inl (cI, 30, .inl (LI Y)))] H := hP
      have hD : va_D A [(h0, .inr (9, [.ref oH, .ref oR, .ref oU, .ref oT, .ref oM, .ref oC, .ref oL, .ref oA])), (oA, .inr (3, [.long (lZ (p0)), .long (lZ (q0))])), (oR, .inr (4, [.ref ga, .ref xa, .ref ya, .int (iZ ((n : Nat) : Int))])), (ga, .inl (cI, 30, .inl (LI G))), (xa, .inl (cI, 30, .inl (LI X))), (ya, .inl (cI, 30, .inl (LI Y)))] := hD
      refine tp_i (y := (iZ ((won Y X t n : Nat) : Int))) (hw) ?_
      refine ca_vV [.int (iZ ((won X Y t n : Nat) : Int)), .int (iZ ((won Y X t n : Nat) : Int))] [] [(oR, .inr (4, [.ref ga, .ref xa, .ref ya, .int (iZ ((n : Nat) : Int))])), (ga, .inl (cI, 30, .inl (LI G))), (xa, .inl (cI, 30, .inl (LI X))), (ya, .inl (cI, 30, .inl (LI Y)))] 0 0 ⟨hx, hb, hml, hown, hts⟩ (c_X10_takeOddsOf l D cI cJ h0 oH oR oU oT oM oC oL oA p0 q0 (won X Y t n) (won Y X t n) hwl) (cwV 2 hts gX10_even_X10_takeOddsOf rfl rfl rfl (by decide +kernel) ⟨(Nat.le_of_ble_eq_true rfl), (Nat.le_of_ble_eq_true rfl)⟩) hK hP hD hS hA [0, 1] [2, 3, 4, 5] rfl rfl rfl rfl (by decide) 0 rfl rfl rfl hl.1 rfl (Nat.le_of_ble_eq_true rfl) dX10_even_38 ⟨(Nat.le_of_ble_eq_true rfl), (Nat.le_of_ble_eq_true rfl)⟩ (Nat.le_of_ble_eq_true rfl) (Nat.le_of_ble_eq_true rfl) (fun u9 H locs hw hP hD hS => ?_)
      obtain u9 := u9
      try dsimp only at hw
      have hP : va_P D vwCl [(oR, .inr (4, [.ref ga, .ref xa, .ref ya, .int (iZ ((n : Nat) : Int))])), (ga, .inl (cI, 30, .inl (LI G))), (xa, .inl (cI, 30, .inl (LI X))), (ya, .inl (cI, 30, .inl (LI Y))), (h0, .inr (9, [.ref oH, .ref oR, .ref oU, .ref oT, .ref oM, .ref oC, .ref oL, .ref oA])), (oA, .inr (3, [.long (lZ (if ((redL ((evU (won X Y t n) (won Y X t n) : Nat) : Int) (2 ^ ((won X Y t n) + (won Y X t n))) : Nat) : Int) < redU ((evU (won X Y t n) (won Y X t n) : Nat) : Int) (2 ^ ((won X Y t n) + (won Y X t n))) then 1 else redU ((evU (won X Y t n) (won Y X t n) : Nat) : Int) (2 ^ ((won X Y t n) + (won Y X t n))))), .long (lZ (if ((redL ((evU (won X Y t n) (won Y X t n) : Nat) : Int) (2 ^ ((won X Y t n) + (won Y X t n))) : Nat) : Int) < redU ((evU (won X Y t n) (won Y X t n) : Nat) : Int) (2 ^ ((won X Y t n) + (won Y X t n))) then 1 else ((redL ((evU (won X Y t n) (won Y X t n) : Nat) : Int) (2 ^ ((won X Y t n) + (won Y X t n))) : Nat) : Int)))]))] H := hP
      have hD : va_D A [(oR, .inr (4, [.ref ga, .ref xa, .ref ya, .int (iZ ((n : Nat) : Int))])), (ga, .inl (cI, 30, .inl (LI G))), (xa, .inl (cI, 30, .inl (LI X))), (ya, .inl (cI, 30, .inl (LI Y))), (h0, .inr (9, [.ref oH, .ref oR, .ref oU, .ref oT, .ref oM, .ref oC, .ref oL, .ref oA])), (oA, .inr (3, [.long (lZ (if ((redL ((evU (won X Y t n) (won Y X t n) : Nat) : Int) (2 ^ ((won X Y t n) + (won Y X t n))) : Nat) : Int) < redU ((evU (won X Y t n) (won Y X t n) : Nat) : Int) (2 ^ ((won X Y t n) + (won Y X t n))) then 1 else redU ((evU (won X Y t n) (won Y X t n) : Nat) : Int) (2 ^ ((won X Y t n) + (won Y X t n))))), .long (lZ (if ((redL ((evU (won X Y t n) (won Y X t n) : Nat) : Int) (2 ^ ((won X Y t n) + (won Y X t n))) : Nat) : Int) < redU ((evU (won X Y t n) (won Y X t n) : Nat) : Int) (2 ^ ((won X Y t n) + (won Y X t n))) then 1 else ((redL ((evU (won X Y t n) (won Y X t n) : Nat) : Int) (2 ^ ((won X Y t n) + (won Y X t n))) : Nat) : Int)))]))] := hD
      refine lv_aload_n hx hb dX10_even_41 rfl (lv_at hl 0 rfl) ?_
      refine va_get (D := D) (ci := 9) (v := .ref oA) (C := RX10) (T := TX10) (N := 8) hx hb hts hh_2 hown hK hP 4 rfl rfl 7 (by decide) hh_3 (fun _ h9 => h9) rfl dX10_even_42 ?_
      refine lv_iload_n hx hb dX10_even_45 rfl (lv_at hl 2 rfl) ?_
      refine ca_lV [.int (iZ (zs))] [] [(oR, .inr (4, [.ref ga, .ref xa, .ref ya, .int (iZ ((n : Nat) : Int))])), (ga, .inl (cI, 30, .inl (LI G))), (xa, .inl (cI, 30, .inl (LI X))), (ya, .inl (cI, 30, .inl (LI Y))), (h0, .inr (9, [.ref oH, .ref oR, .ref oU, .ref oT, .ref oM, .ref oC, .ref oL, .ref oA]))] 0 0 ⟨hx, hb, hml, hown, hts⟩ (c_X4_told l D cI cJ oA _ _ zs ⟨by omega, by omega⟩) (cwV 1 hts gX10_even_X4_told rfl rfl rfl (by decide +kernel) ⟨(Nat.le_of_ble_eq_true rfl), (Nat.le_of_ble_eq_true rfl)⟩) hK hP hD hS hA [5] [0, 1, 2, 3, 4] rfl rfl rfl rfl (by decide) 0 rfl rfl rfl hl.1 rfl (Nat.le_of_ble_eq_true rfl) dX10_even_46 ⟨(Nat.le_of_ble_eq_true rfl), (Nat.le_of_ble_eq_true rfl)⟩ (Nat.le_of_ble_eq_true rfl) (Nat.le_of_ble_eq_true rfl) (fun r_46 u9 H locs hw hP hD hS => ?_)
      obtain u9 := u9
      try dsimp only at hw
      have hP : va_P D vwCl [(oR, .inr (4, [.ref ga, .ref xa, .ref ya, .int (iZ ((n : Nat) : Int))])), (ga, .inl (cI, 30, .inl (LI G))), (xa, .inl (cI, 30, .inl (LI X))), (ya, .inl (cI, 30, .inl (LI Y))), (h0, .inr (9, [.ref oH, .ref oR, .ref oU, .ref oT, .ref oM, .ref oC, .ref oL, .ref oA])), (oA, .inr (3, [.long (lZ (if ((redL ((evU (won X Y t n) (won Y X t n) : Nat) : Int) (2 ^ ((won X Y t n) + (won Y X t n))) : Nat) : Int) < redU ((evU (won X Y t n) (won Y X t n) : Nat) : Int) (2 ^ ((won X Y t n) + (won Y X t n))) then 1 else redU ((evU (won X Y t n) (won Y X t n) : Nat) : Int) (2 ^ ((won X Y t n) + (won Y X t n))))), .long (lZ (if ((redL ((evU (won X Y t n) (won Y X t n) : Nat) : Int) (2 ^ ((won X Y t n) + (won Y X t n))) : Nat) : Int) < redU ((evU (won X Y t n) (won Y X t n) : Nat) : Int) (2 ^ ((won X Y t n) + (won Y X t n))) then 1 else ((redL ((evU (won X Y t n) (won Y X t n) : Nat) : Int) (2 ^ ((won X Y t n) + (won Y X t n))) : Nat) : Int)))]))] H := hP
      have hD : va_D A [(oR, .inr (4, [.ref ga, .ref xa, .ref ya, .int (iZ ((n : Nat) : Int))])), (ga, .inl (cI, 30, .inl (LI G))), (xa, .inl (cI, 30, .inl (LI X))), (ya, .inl (cI, 30, .inl (LI Y))), (h0, .inr (9, [.ref oH, .ref oR, .ref oU, .ref oT, .ref oM, .ref oC, .ref oL, .ref oA])), (oA, .inr (3, [.long (lZ (if ((redL ((evU (won X Y t n) (won Y X t n) : Nat) : Int) (2 ^ ((won X Y t n) + (won Y X t n))) : Nat) : Int) < redU ((evU (won X Y t n) (won Y X t n) : Nat) : Int) (2 ^ ((won X Y t n) + (won Y X t n))) then 1 else redU ((evU (won X Y t n) (won Y X t n) : Nat) : Int) (2 ^ ((won X Y t n) + (won Y X t n))))), .long (lZ (if ((redL ((evU (won X Y t n) (won Y X t n) : Nat) : Int) (2 ^ ((won X Y t n) + (won Y X t n))) : Nat) : Int) < redU ((evU (won X Y t n) (won Y X t n) : Nat) : Int) (2 ^ ((won X Y t n) + (won Y X t n))) then 1 else ((redL ((evU (won X Y t n) (won Y X t n) : Nat) : Int) (2 ^ ((won X Y t n) + (won Y X t n))) : Nat) : Int)))]))] := hD
      exact hret _ (_, _) _ _ _ _ _ _ (Nat.le_of_ble_eq_true rfl) (Nat.le_of_ble_eq_true rfl) dX10_even_49 (⟨fun _ => by rw [hw, capR_eq (Nat.pow_pos (by decide))]; rfl, fun h9 => absurd (by omega) h9⟩) (hP.sub [4, 0, 1, 2, 3, 5] rfl) (hD.sub [4, 0, 1, 2, 3, 5] rfl rfl) hS
    · refine lv_ldc2 hx hb hown hh_0 dX10_even_17 (tp_l (y := lZ (-1 : Int)) (by decide) ?_)
      exact hret _ (p0, q0) _ _ _ _ _ _ (Nat.le_of_ble_eq_true rfl) (Nat.le_of_ble_eq_true rfl) dX10_even_20 (⟨fun h9 => absurd h9 (by omega), fun _ => rfl⟩) hP hD hS

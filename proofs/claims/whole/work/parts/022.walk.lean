section ZW
variable {p : Program} {l : Launch} {e : Env} {R : Room} {s : State} {m : MethodId} {args : Array Value} {below : List Frame} {meth : Method} {c : Code} {H : Heap} {locs : List Loc} {cells slots : Nat} {Q : State → Prop}
variable {cc : ByteArray} {pc : Nat} {ls : Array Slot} {rest : List Value} {D : va_G} {cl : List vw_C} {A : Nat → Prop} {a : Nat} {tys : List (ClassId × FieldType)} {ws : va_W} {H0 : Heap}

theorem tp_i {x y : Int32} (h : x = y) (k : W p l e R s m args below meth c H locs cells slots Q (F0 m pc ls (.int y :: rest))) : W p l e R s m args below meth c H locs cells slots Q (F0 m pc ls (.int x :: rest)) := h ▸ k
theorem tp_l {x y : Int64} (h : x = y) (k : W p l e R s m args below meth c H locs cells slots Q (F0 m pc ls (.long y :: rest))) : W p l e R s m args below meth c H locs cells slots Q (F0 m pc ls (.long x :: rest)) := h ▸ k
theorem zc_iconst (hx : p.tables.exec = Jvm.exec) (hb : c.code = cc) {n : Int} {z : Int} (hd : decode cc pc = .ok (.iconst n, 1)) (hz : Int32.ofInt n = iZ z) (k : W p l e R s m args below meth c H locs cells slots Q (F0 m (pc + 1) ls (.int (iZ z) :: rest))) : W p l e R s m args below meth c H locs cells slots Q (F0 m pc ls rest) := lv_iconst hx hb hd hz k
theorem zc_bipush (hx : p.tables.exec = Jvm.exec) (hb : c.code = cc) {n : Int} {z : Int} (hd : decode cc pc = .ok (.bipush n, 2)) (hz : (Int8.ofInt n).toInt32 = iZ z) (k : W p l e R s m args below meth c H locs cells slots Q (F0 m (pc + 2) ls (.int (iZ z) :: rest))) : W p l e R s m args below meth c H locs cells slots Q (F0 m pc ls rest) := lv_bipush hx hb hd hz k
theorem zc_sipush (hx : p.tables.exec = Jvm.exec) (hb : c.code = cc) {n : Int} {z : Int} (hd : decode cc pc = .ok (.sipush n, 3)) (hz : (Int16.ofInt n).toInt32 = iZ z) (k : W p l e R s m args below meth c H locs cells slots Q (F0 m (pc + 3) ls (.int (iZ z) :: rest))) : W p l e R s m args below meth c H locs cells slots Q (F0 m pc ls rest) := lv_sipush hx hb hd hz k
theorem zc_lconst (hx : p.tables.exec = Jvm.exec) (hb : c.code = cc) {n : Fin 2} {z : Int} (hd : decode cc pc = .ok (.lconst n, 1)) (hz : Int64.ofNat (n : Nat) = lZ z) (k : W p l e R s m args below meth c H locs cells slots Q (F0 m (pc + 1) ls (.long (lZ z) :: rest))) : W p l e R s m args below meth c H locs cells slots Q (F0 m pc ls rest) := lv_lconst hx hb hd hz k
theorem zi_add (hx : p.tables.exec = Jvm.exec) (hb : c.code = cc) {x y z : Int} (hd : decode cc pc = .ok (.iadd, 1)) (hz : x + y = z) (k : W p l e R s m args below meth c H locs cells slots Q (F0 m (pc + 1) ls (.int (iZ z) :: rest))) : W p l e R s m args below meth c H locs cells slots Q (F0 m pc ls (.int (iZ y) :: .int (iZ x) :: rest)) := lv_iadd hx hb hd (by rw [iZ_add, hz]; exact k)
theorem zl_add (hx : p.tables.exec = Jvm.exec) (hb : c.code = cc) {x y z : Int} (hd : decode cc pc = .ok (.ladd, 1)) (hz : x + y = z) (k : W p l e R s m args below meth c H locs cells slots Q (F0 m (pc + 1) ls (.long (lZ z) :: rest))) : W p l e R s m args below meth c H locs cells slots Q (F0 m pc ls (.long (lZ y) :: .long (lZ x) :: rest)) := lv_ladd hx hb hd (by rw [lZ_add, hz]; exact k)
theorem zi_sub (hx : p.tables.exec = Jvm.exec) (hb : c.code = cc) {x y z : Int} (hd : decode cc pc = .ok (.isub, 1)) (hz : x - y = z) (k : W p l e R s m args below meth c H locs cells slots Q (F0 m (pc + 1) ls (.int (iZ z) :: rest))) : W p l e R s m args below meth c H locs cells slots Q (F0 m pc ls (.int (iZ y) :: .int (iZ x) :: rest)) := lv_isub hx hb hd (by rw [iZ_sub, hz]; exact k)
theorem zl_sub (hx : p.tables.exec = Jvm.exec) (hb : c.code = cc) {x y z : Int} (hd : decode cc pc = .ok (.lsub, 1)) (hz : x - y = z) (k : W p l e R s m args below meth c H locs cells slots Q (F0 m (pc + 1) ls (.long (lZ z) :: rest))) : W p l e R s m args below meth c H locs cells slots Q (F0 m pc ls (.long (lZ y) :: .long (lZ x) :: rest)) := lv_lsub hx hb hd (by rw [lZ_sub, hz]; exact k)
theorem zi_mul (hx : p.tables.exec = Jvm.exec) (hb : c.code = cc) {x y z : Int} (hd : decode cc pc = .ok (.imul, 1)) (hz : x * y = z) (k : W p l e R s m args below meth c H locs cells slots Q (F0 m (pc + 1) ls (.int (iZ z) :: rest))) : W p l e R s m args below meth c H locs cells slots Q (F0 m pc ls (.int (iZ y) :: .int (iZ x) :: rest)) := lv_imul hx hb hd (by rw [iZ_mul, hz]; exact k)
theorem zl_mul (hx : p.tables.exec = Jvm.exec) (hb : c.code = cc) {x y z : Int} (hd : decode cc pc = .ok (.lmul, 1)) (hz : x * y = z) (k : W p l e R s m args below meth c H locs cells slots Q (F0 m (pc + 1) ls (.long (lZ z) :: rest))) : W p l e R s m args below meth c H locs cells slots Q (F0 m pc ls (.long (lZ y) :: .long (lZ x) :: rest)) := lv_lmul hx hb hd (by rw [lZ_mul, hz]; exact k)
theorem zi_neg (hx : p.tables.exec = Jvm.exec) (hb : c.code = cc) {x z : Int} (hd : decode cc pc = .ok (.ineg, 1)) (hz : -x = z) (k : W p l e R s m args below meth c H locs cells slots Q (F0 m (pc + 1) ls (.int (iZ z) :: rest))) : W p l e R s m args below meth c H locs cells slots Q (F0 m pc ls (.int (iZ x) :: rest)) := lv_ineg hx hb hd (by rw [iZ_neg, hz]; exact k)
theorem zi_div (hx : p.tables.exec = Jvm.exec) (hb : c.code = cc) {x y z : Int} (hd : decode cc pc = .ok (.idiv, 1)) (h1 : 0 ≤ x) (h2 : x < 2147483648) (h3 : 0 < y) (h4 : y < 2147483648) (hz : x / y = z) (k : W p l e R s m args below meth c H locs cells slots Q (F0 m (pc + 1) ls (.int (iZ z) :: rest))) : W p l e R s m args below meth c H locs cells slots Q (F0 m pc ls (.int (iZ y) :: .int (iZ x) :: rest)) := lv_idiv hx hb hd (by rw [iZ_0, iZ_eq ⟨by omega, by omega⟩ ⟨by omega, by omega⟩]; omega) (by rw [iZ_div h1 h2 h3 h4, hz]; exact k)
theorem zi_rem (hx : p.tables.exec = Jvm.exec) (hb : c.code = cc) {x y z : Int} (hd : decode cc pc = .ok (.irem, 1)) (h1 : 0 ≤ x) (h2 : x < 2147483648) (h3 : 0 < y) (h4 : y < 2147483648) (hz : x % y = z) (k : W p l e R s m args below meth c H locs cells slots Q (F0 m (pc + 1) ls (.int (iZ z) :: rest))) : W p l e R s m args below meth c H locs cells slots Q (F0 m pc ls (.int (iZ y) :: .int (iZ x) :: rest)) := lv_irem hx hb hd (by rw [iZ_0, iZ_eq ⟨by omega, by omega⟩ ⟨by omega, by omega⟩]; omega) (by rw [iZ_rem h1 h2 h3 h4, hz]; exact k)
theorem zl_neg (hx : p.tables.exec = Jvm.exec) (hb : c.code = cc) {x z : Int} (hd : decode cc pc = .ok (.lneg, 1)) (hz : -x = z) (k : W p l e R s m args below meth c H locs cells slots Q (F0 m (pc + 1) ls (.long (lZ z) :: rest))) : W p l e R s m args below meth c H locs cells slots Q (F0 m pc ls (.long (lZ x) :: rest)) := lv_lneg hx hb hd (by rw [lZ_neg, hz]; exact k)
theorem zl_div (hx : p.tables.exec = Jvm.exec) (hb : c.code = cc) {x y z : Int} (hd : decode cc pc = .ok (.ldiv, 1)) (h1 : 0 ≤ x) (h2 : x < 9223372036854775808) (h3 : 0 < y) (h4 : y < 9223372036854775808) (hz : x / y = z) (k : W p l e R s m args below meth c H locs cells slots Q (F0 m (pc + 1) ls (.long (lZ z) :: rest))) : W p l e R s m args below meth c H locs cells slots Q (F0 m pc ls (.long (lZ y) :: .long (lZ x) :: rest)) := lv_ldiv hx hb hd (by rw [lZ_0, lZ_eq ⟨by omega, by omega⟩ ⟨by omega, by omega⟩]; omega) (by rw [lZ_div h1 h2 h3 h4, hz]; exact k)
theorem zl_rem (hx : p.tables.exec = Jvm.exec) (hb : c.code = cc) {x y z : Int} (hd : decode cc pc = .ok (.lrem, 1)) (h1 : 0 ≤ x) (h2 : x < 9223372036854775808) (h3 : 0 < y) (h4 : y < 9223372036854775808) (hz : x % y = z) (k : W p l e R s m args below meth c H locs cells slots Q (F0 m (pc + 1) ls (.long (lZ z) :: rest))) : W p l e R s m args below meth c H locs cells slots Q (F0 m pc ls (.long (lZ y) :: .long (lZ x) :: rest)) := lv_lrem hx hb hd (by rw [lZ_0, lZ_eq ⟨by omega, by omega⟩ ⟨by omega, by omega⟩]; omega) (by rw [lZ_rem h1 h2 h3 h4, hz]; exact k)
theorem zl_divE (hx : p.tables.exec = Jvm.exec) (hb : c.code = cc) {x y q : Int} (hd : decode cc pc = .ok (.ldiv, 1)) (h1 : lR x) (h3 : 0 < y) (h4 : y < 9223372036854775808) (hq : x = q * y) (k : W p l e R s m args below meth c H locs cells slots Q (F0 m (pc + 1) ls (.long (lZ q) :: rest))) : W p l e R s m args below meth c H locs cells slots Q (F0 m pc ls (.long (lZ y) :: .long (lZ x) :: rest)) := lv_ldiv hx hb hd (by rw [lZ_0, lZ_eq ⟨by omega, by omega⟩ ⟨by omega, by omega⟩]; omega) (by rw [lZ_divE h1 h3 h4 hq]; exact k)
theorem z_i2l (hx : p.tables.exec = Jvm.exec) (hb : c.code = cc) {x z : Int} (hd : decode cc pc = .ok (.i2l, 1)) (h : iR x) (hz : x = z) (k : W p l e R s m args below meth c H locs cells slots Q (F0 m (pc + 1) ls (.long (lZ z) :: rest))) : W p l e R s m args below meth c H locs cells slots Q (F0 m pc ls (.int (iZ x) :: rest)) := lv_i2l hx hb hd (by rw [iZ_l h, hz]) k
theorem z_l2i (hx : p.tables.exec = Jvm.exec) (hb : c.code = cc) {x z : Int} (hd : decode cc pc = .ok (.l2i, 1)) (hz : x = z) (k : W p l e R s m args below meth c H locs cells slots Q (F0 m (pc + 1) ls (.int (iZ z) :: rest))) : W p l e R s m args below meth c H locs cells slots Q (F0 m pc ls (.long (lZ x) :: rest)) := lv_l2i hx hb hd (by rw [lZ_i, hz]) k
theorem zb_if_eq (hx : p.tables.exec = Jvm.exec) (hb : c.code = cc) {x : Int} {off : Int} {tgt : Nat} (hd : decode cc pc = .ok (.ifCond .eq off, 3)) (ht : (pc : Int) + off = (tgt : Int)) (h1 : iR x) (kt : x = 0 → W p l e R s m args below meth c H locs cells slots Q (F0 m tgt ls rest)) (kf : ¬ x = 0 → W p l e R s m args below meth c H locs cells slots Q (F0 m (pc + 3) ls rest)) : W p l e R s m args below meth c H locs cells slots Q (F0 m pc ls (.int (iZ x) :: rest)) := lv_if_eq hx hb hd ht (fun h9 => by rw [iZ_0] at h9; rw [iZ_eq h1 (show iR 0 from ⟨by omega, by omega⟩)] at h9; exact kt h9) (fun h9 => by rw [iZ_0] at h9; rw [iZ_eq h1 (show iR 0 from ⟨by omega, by omega⟩)] at h9; exact kf h9)
theorem zb_icmp_eq (hx : p.tables.exec = Jvm.exec) (hb : c.code = cc) {x y : Int} {off : Int} {tgt : Nat} (hd : decode cc pc = .ok (.if_icmp .eq off, 3)) (ht : (pc : Int) + off = (tgt : Int)) (h1 : iR x) (h2 : iR y) (kt : x = y → W p l e R s m args below meth c H locs cells slots Q (F0 m tgt ls rest)) (kf : ¬ x = y → W p l e R s m args below meth c H locs cells slots Q (F0 m (pc + 3) ls rest)) : W p l e R s m args below meth c H locs cells slots Q (F0 m pc ls (.int (iZ y) :: .int (iZ x) :: rest)) := lv_icmp_eq hx hb hd ht (fun h9 => by rw [iZ_eq h1 h2] at h9; exact kt h9) (fun h9 => by rw [iZ_eq h1 h2] at h9; exact kf h9)
theorem zb_if_ne (hx : p.tables.exec = Jvm.exec) (hb : c.code = cc) {x : Int} {off : Int} {tgt : Nat} (hd : decode cc pc = .ok (.ifCond .ne off, 3)) (ht : (pc : Int) + off = (tgt : Int)) (h1 : iR x) (kt : ¬ x = 0 → W p l e R s m args below meth c H locs cells slots Q (F0 m tgt ls rest)) (kf : x = 0 → W p l e R s m args below meth c H locs cells slots Q (F0 m (pc + 3) ls rest)) : W p l e R s m args below meth c H locs cells slots Q (F0 m pc ls (.int (iZ x) :: rest)) := lv_if_ne hx hb hd ht (fun h9 => by rw [iZ_0] at h9; rw [iZ_eq h1 (show iR 0 from ⟨by omega, by omega⟩)] at h9; exact kt h9) (fun h9 => by rw [iZ_0] at h9; rw [iZ_eq h1 (show iR 0 from ⟨by omega, by omega⟩)] at h9; exact kf h9)
theorem zb_icmp_ne (hx : p.tables.exec = Jvm.exec) (hb : c.code = cc) {x y : Int} {off : Int} {tgt : Nat} (hd : decode cc pc = .ok (.if_icmp .ne off, 3)) (ht : (pc : Int) + off = (tgt : Int)) (h1 : iR x) (h2 : iR y) (kt : ¬ x = y → W p l e R s m args below meth c H locs cells slots Q (F0 m tgt ls rest)) (kf : x = y → W p l e R s m args below meth c H locs cells slots Q (F0 m (pc + 3) ls rest)) : W p l e R s m args below meth c H locs cells slots Q (F0 m pc ls (.int (iZ y) :: .int (iZ x) :: rest)) := lv_icmp_ne hx hb hd ht (fun h9 => by rw [iZ_eq h1 h2] at h9; exact kt h9) (fun h9 => by rw [iZ_eq h1 h2] at h9; exact kf h9)
theorem zb_if_lt (hx : p.tables.exec = Jvm.exec) (hb : c.code = cc) {x : Int} {off : Int} {tgt : Nat} (hd : decode cc pc = .ok (.ifCond .lt off, 3)) (ht : (pc : Int) + off = (tgt : Int)) (h1 : iR x) (kt : x < 0 → W p l e R s m args below meth c H locs cells slots Q (F0 m tgt ls rest)) (kf : 0 ≤ x → W p l e R s m args below meth c H locs cells slots Q (F0 m (pc + 3) ls rest)) : W p l e R s m args below meth c H locs cells slots Q (F0 m pc ls (.int (iZ x) :: rest)) := lv_if_lt hx hb hd ht (fun h9 => by rw [iZ_0] at h9; rw [iZ_lt h1 (show iR 0 from ⟨by omega, by omega⟩)] at h9; exact kt h9) (fun h9 => by rw [iZ_0] at h9; rw [iZ_lt h1 (show iR 0 from ⟨by omega, by omega⟩)] at h9; exact kf (by omega))
theorem zb_icmp_lt (hx : p.tables.exec = Jvm.exec) (hb : c.code = cc) {x y : Int} {off : Int} {tgt : Nat} (hd : decode cc pc = .ok (.if_icmp .lt off, 3)) (ht : (pc : Int) + off = (tgt : Int)) (h1 : iR x) (h2 : iR y) (kt : x < y → W p l e R s m args below meth c H locs cells slots Q (F0 m tgt ls rest)) (kf : y ≤ x → W p l e R s m args below meth c H locs cells slots Q (F0 m (pc + 3) ls rest)) : W p l e R s m args below meth c H locs cells slots Q (F0 m pc ls (.int (iZ y) :: .int (iZ x) :: rest)) := lv_icmp_lt hx hb hd ht (fun h9 => by rw [iZ_lt h1 h2] at h9; exact kt h9) (fun h9 => by rw [iZ_lt h1 h2] at h9; exact kf (by omega))
theorem zb_if_ge (hx : p.tables.exec = Jvm.exec) (hb : c.code = cc) {x : Int} {off : Int} {tgt : Nat} (hd : decode cc pc = .ok (.ifCond .ge off, 3)) (ht : (pc : Int) + off = (tgt : Int)) (h1 : iR x) (kt : 0 ≤ x → W p l e R s m args below meth c H locs cells slots Q (F0 m tgt ls rest)) (kf : x < 0 → W p l e R s m args below meth c H locs cells slots Q (F0 m (pc + 3) ls rest)) : W p l e R s m args below meth c H locs cells slots Q (F0 m pc ls (.int (iZ x) :: rest)) := lv_if_ge hx hb hd ht (fun h9 => by rw [iZ_0] at h9; rw [iZ_le (show iR 0 from ⟨by omega, by omega⟩) h1] at h9; exact kt h9) (fun h9 => by rw [iZ_0] at h9; rw [iZ_le (show iR 0 from ⟨by omega, by omega⟩) h1] at h9; exact kf (by omega))
theorem zb_icmp_ge (hx : p.tables.exec = Jvm.exec) (hb : c.code = cc) {x y : Int} {off : Int} {tgt : Nat} (hd : decode cc pc = .ok (.if_icmp .ge off, 3)) (ht : (pc : Int) + off = (tgt : Int)) (h1 : iR x) (h2 : iR y) (kt : y ≤ x → W p l e R s m args below meth c H locs cells slots Q (F0 m tgt ls rest)) (kf : x < y → W p l e R s m args below meth c H locs cells slots Q (F0 m (pc + 3) ls rest)) : W p l e R s m args below meth c H locs cells slots Q (F0 m pc ls (.int (iZ y) :: .int (iZ x) :: rest)) := lv_icmp_ge hx hb hd ht (fun h9 => by rw [iZ_le h2 h1] at h9; exact kt h9) (fun h9 => by rw [iZ_le h2 h1] at h9; exact kf (by omega))
theorem zb_if_gt (hx : p.tables.exec = Jvm.exec) (hb : c.code = cc) {x : Int} {off : Int} {tgt : Nat} (hd : decode cc pc = .ok (.ifCond .gt off, 3)) (ht : (pc : Int) + off = (tgt : Int)) (h1 : iR x) (kt : 0 < x → W p l e R s m args below meth c H locs cells slots Q (F0 m tgt ls rest)) (kf : x ≤ 0 → W p l e R s m args below meth c H locs cells slots Q (F0 m (pc + 3) ls rest)) : W p l e R s m args below meth c H locs cells slots Q (F0 m pc ls (.int (iZ x) :: rest)) := lv_if_gt hx hb hd ht (fun h9 => by rw [iZ_0] at h9; rw [iZ_lt (show iR 0 from ⟨by omega, by omega⟩) h1] at h9; exact kt h9) (fun h9 => by rw [iZ_0] at h9; rw [iZ_lt (show iR 0 from ⟨by omega, by omega⟩) h1] at h9; exact kf (by omega))
theorem zb_icmp_gt (hx : p.tables.exec = Jvm.exec) (hb : c.code = cc) {x y : Int} {off : Int} {tgt : Nat} (hd : decode cc pc = .ok (.if_icmp .gt off, 3)) (ht : (pc : Int) + off = (tgt : Int)) (h1 : iR x) (h2 : iR y) (kt : y < x → W p l e R s m args below meth c H locs cells slots Q (F0 m tgt ls rest)) (kf : x ≤ y → W p l e R s m args below meth c H locs cells slots Q (F0 m (pc + 3) ls rest)) : W p l e R s m args below meth c H locs cells slots Q (F0 m pc ls (.int (iZ y) :: .int (iZ x) :: rest)) := lv_icmp_gt hx hb hd ht (fun h9 => by rw [iZ_lt h2 h1] at h9; exact kt h9) (fun h9 => by rw [iZ_lt h2 h1] at h9; exact kf (by omega))
theorem zb_if_le (hx : p.tables.exec = Jvm.exec) (hb : c.code = cc) {x : Int} {off : Int} {tgt : Nat} (hd : decode cc pc = .ok (.ifCond .le off, 3)) (ht : (pc : Int) + off = (tgt : Int)) (h1 : iR x) (kt : x ≤ 0 → W p l e R s m args below meth c H locs cells slots Q (F0 m tgt ls rest)) (kf : 0 < x → W p l e R s m args below meth c H locs cells slots Q (F0 m (pc + 3) ls rest)) : W p l e R s m args below meth c H locs cells slots Q (F0 m pc ls (.int (iZ x) :: rest)) := lv_if_le hx hb hd ht (fun h9 => by rw [iZ_0] at h9; rw [iZ_le h1 (show iR 0 from ⟨by omega, by omega⟩)] at h9; exact kt h9) (fun h9 => by rw [iZ_0] at h9; rw [iZ_le h1 (show iR 0 from ⟨by omega, by omega⟩)] at h9; exact kf (by omega))
theorem zb_icmp_le (hx : p.tables.exec = Jvm.exec) (hb : c.code = cc) {x y : Int} {off : Int} {tgt : Nat} (hd : decode cc pc = .ok (.if_icmp .le off, 3)) (ht : (pc : Int) + off = (tgt : Int)) (h1 : iR x) (h2 : iR y) (kt : x ≤ y → W p l e R s m args below meth c H locs cells slots Q (F0 m tgt ls rest)) (kf : y < x → W p l e R s m args below meth c H locs cells slots Q (F0 m (pc + 3) ls rest)) : W p l e R s m args below meth c H locs cells slots Q (F0 m pc ls (.int (iZ y) :: .int (iZ x) :: rest)) := lv_icmp_le hx hb hd ht (fun h9 => by rw [iZ_le h1 h2] at h9; exact kt h9) (fun h9 => by rw [iZ_le h1 h2] at h9; exact kf (by omega))
theorem zl_cmp {x y : Int} (h1 : lR x) (h2 : lR y) : lg_cmp (lZ x) (lZ y) = iZ (if y < x then 1 else if x = y then 0 else -1) := by
  unfold lg_cmp
  simp only [gt_iff_lt, lZ_lt h2 h1, lZ_eq h1 h2]
  split
  · rfl
  · split <;> rfl
theorem zb_l_eq (hx : p.tables.exec = Jvm.exec) (hb : c.code = cc) {x y : Int} {off : Int} {tgt : Nat} (hd0 : decode cc pc = .ok (.lcmp, 1)) (hd : decode cc (pc + 1) = .ok (.ifCond .eq off, 3)) (ht : ((pc + 1 : Nat) : Int) + off = (tgt : Int)) (h1 : lR x) (h2 : lR y) (kt : x = y → W p l e R s m args below meth c H locs cells slots Q (F0 m tgt ls rest)) (kf : ¬ x = y → W p l e R s m args below meth c H locs cells slots Q (F0 m (pc + 1 + 3) ls rest)) : W p l e R s m args below meth c H locs cells slots Q (F0 m pc ls (.long (lZ y) :: .long (lZ x) :: rest)) := by
  refine W.lcmp hx hb hd0 ?_
  rw [zl_cmp h1 h2]
  refine zb_if_eq hx hb hd ht ⟨by split <;> (try split) <;> omega, by split <;> (try split) <;> omega⟩ (fun h9 => kt ?_) (fun h9 => kf ?_)
  · revert h9; split <;> (try split) <;> omega
  · revert h9; split <;> (try split) <;> omega
theorem zb_l_ne (hx : p.tables.exec = Jvm.exec) (hb : c.code = cc) {x y : Int} {off : Int} {tgt : Nat} (hd0 : decode cc pc = .ok (.lcmp, 1)) (hd : decode cc (pc + 1) = .ok (.ifCond .ne off, 3)) (ht : ((pc + 1 : Nat) : Int) + off = (tgt : Int)) (h1 : lR x) (h2 : lR y) (kt : ¬ x = y → W p l e R s m args below meth c H locs cells slots Q (F0 m tgt ls rest)) (kf : x = y → W p l e R s m args below meth c H locs cells slots Q (F0 m (pc + 1 + 3) ls rest)) : W p l e R s m args below meth c H locs cells slots Q (F0 m pc ls (.long (lZ y) :: .long (lZ x) :: rest)) := by
  refine W.lcmp hx hb hd0 ?_
  rw [zl_cmp h1 h2]
  refine zb_if_ne hx hb hd ht ⟨by split <;> (try split) <;> omega, by split <;> (try split) <;> omega⟩ (fun h9 => kt ?_) (fun h9 => kf ?_)
  · revert h9; split <;> (try split) <;> omega
  · revert h9; split <;> (try split) <;> omega
theorem zb_l_lt (hx : p.tables.exec = Jvm.exec) (hb : c.code = cc) {x y : Int} {off : Int} {tgt : Nat} (hd0 : decode cc pc = .ok (.lcmp, 1)) (hd : decode cc (pc + 1) = .ok (.ifCond .lt off, 3)) (ht : ((pc + 1 : Nat) : Int) + off = (tgt : Int)) (h1 : lR x) (h2 : lR y) (kt : x < y → W p l e R s m args below meth c H locs cells slots Q (F0 m tgt ls rest)) (kf : y ≤ x → W p l e R s m args below meth c H locs cells slots Q (F0 m (pc + 1 + 3) ls rest)) : W p l e R s m args below meth c H locs cells slots Q (F0 m pc ls (.long (lZ y) :: .long (lZ x) :: rest)) := by
  refine W.lcmp hx hb hd0 ?_
  rw [zl_cmp h1 h2]
  refine zb_if_lt hx hb hd ht ⟨by split <;> (try split) <;> omega, by split <;> (try split) <;> omega⟩ (fun h9 => kt ?_) (fun h9 => kf ?_)
  · revert h9; split <;> (try split) <;> omega
  · revert h9; split <;> (try split) <;> omega
theorem zb_l_ge (hx : p.tables.exec = Jvm.exec) (hb : c.code = cc) {x y : Int} {off : Int} {tgt : Nat} (hd0 : decode cc pc = .ok (.lcmp, 1)) (hd : decode cc (pc + 1) = .ok (.ifCond .ge off, 3)) (ht : ((pc + 1 : Nat) : Int) + off = (tgt : Int)) (h1 : lR x) (h2 : lR y) (kt : y ≤ x → W p l e R s m args below meth c H locs cells slots Q (F0 m tgt ls rest)) (kf : x < y → W p l e R s m args below meth c H locs cells slots Q (F0 m (pc + 1 + 3) ls rest)) : W p l e R s m args below meth c H locs cells slots Q (F0 m pc ls (.long (lZ y) :: .long (lZ x) :: rest)) := by
  refine W.lcmp hx hb hd0 ?_
  rw [zl_cmp h1 h2]
  refine zb_if_ge hx hb hd ht ⟨by split <;> (try split) <;> omega, by split <;> (try split) <;> omega⟩ (fun h9 => kt ?_) (fun h9 => kf ?_)
  · revert h9; split <;> (try split) <;> omega
  · revert h9; split <;> (try split) <;> omega
theorem zb_l_gt (hx : p.tables.exec = Jvm.exec) (hb : c.code = cc) {x y : Int} {off : Int} {tgt : Nat} (hd0 : decode cc pc = .ok (.lcmp, 1)) (hd : decode cc (pc + 1) = .ok (.ifCond .gt off, 3)) (ht : ((pc + 1 : Nat) : Int) + off = (tgt : Int)) (h1 : lR x) (h2 : lR y) (kt : y < x → W p l e R s m args below meth c H locs cells slots Q (F0 m tgt ls rest)) (kf : x ≤ y → W p l e R s m args below meth c H locs cells slots Q (F0 m (pc + 1 + 3) ls rest)) : W p l e R s m args below meth c H locs cells slots Q (F0 m pc ls (.long (lZ y) :: .long (lZ x) :: rest)) := by
  refine W.lcmp hx hb hd0 ?_
  rw [zl_cmp h1 h2]
  refine zb_if_gt hx hb hd ht ⟨by split <;> (try split) <;> omega, by split <;> (try split) <;> omega⟩ (fun h9 => kt ?_) (fun h9 => kf ?_)
  · revert h9; split <;> (try split) <;> omega
  · revert h9; split <;> (try split) <;> omega
theorem zb_l_le (hx : p.tables.exec = Jvm.exec) (hb : c.code = cc) {x y : Int} {off : Int} {tgt : Nat} (hd0 : decode cc pc = .ok (.lcmp, 1)) (hd : decode cc (pc + 1) = .ok (.ifCond .le off, 3)) (ht : ((pc + 1 : Nat) : Int) + off = (tgt : Int)) (h1 : lR x) (h2 : lR y) (kt : x ≤ y → W p l e R s m args below meth c H locs cells slots Q (F0 m tgt ls rest)) (kf : y < x → W p l e R s m args below meth c H locs cells slots Q (F0 m (pc + 1 + 3) ls rest)) : W p l e R s m args below meth c H locs cells slots Q (F0 m pc ls (.long (lZ y) :: .long (lZ x) :: rest)) := by
  refine W.lcmp hx hb hd0 ?_
  rw [zl_cmp h1 h2]
  refine zb_if_le hx hb hd ht ⟨by split <;> (try split) <;> omega, by split <;> (try split) <;> omega⟩ (fun h9 => kt ?_) (fun h9 => kf ?_)
  · revert h9; split <;> (try split) <;> omega
  · revert h9; split <;> (try split) <;> omega
theorem za_iald (hx : p.tables.exec = Jvm.exec) (hb : c.code = cc) (hK : va_K D cl tys s) (hP : va_P D cl ws H) (q0 t0 : Nat) {cA : ClassId} {n : Nat} {f : Nat → Int32} (ha : ws[q0]? = some (a, .inl (cA, n, .inl f))) (ht : tys[t0]? = some (cA, .int)) (j : Nat) {z v : Int} (hn : n < 2147483648) (hz : z = j) (hj : j < n) (hv : f j = iZ v) (hd : decode cc pc = .ok (.iaload, 1)) (k : W p l e R s m args below meth c H locs cells slots Q (F0 m (pc + 1) ls (.int (iZ v) :: rest))) : W p l e R s m args below meth c H locs cells slots Q (F0 m pc ls (.int (iZ z) :: .ref a :: rest)) := by
  subst hz
  refine va_iald hx hb hK hP q0 t0 ha ht (iZ_in hj hn) hd ?_
  rw [iZ_cN (by omega), hv]
  exact k
theorem za_lald (hx : p.tables.exec = Jvm.exec) (hb : c.code = cc) (hK : va_K D cl tys s) (hP : va_P D cl ws H) (q0 t0 : Nat) {cA : ClassId} {n : Nat} {f : Nat → Int64} (ha : ws[q0]? = some (a, .inl (cA, n, .inr (.inl f)))) (ht : tys[t0]? = some (cA, .long)) (j : Nat) {z v : Int} (hn : n < 2147483648) (hz : z = j) (hj : j < n) (hv : f j = lZ v) (hd : decode cc pc = .ok (.laload, 1)) (k : W p l e R s m args below meth c H locs cells slots Q (F0 m (pc + 1) ls (.long (lZ v) :: rest))) : W p l e R s m args below meth c H locs cells slots Q (F0 m pc ls (.int (iZ z) :: .ref a :: rest)) := by
  subst hz
  refine va_lald hx hb hK hP q0 t0 ha ht (iZ_in hj hn) hd ?_
  rw [iZ_cN (by omega), hv]
  exact k
theorem za_iast (hx : p.tables.exec = Jvm.exec) (hb : c.code = cc) (hK : va_K D cl tys s) (hP : va_P D cl ws H) (hD : va_D A ws) (hS : va_S A H0 H locs) (q0 t0 : Nat) {cA : ClassId} {n : Nat} {f : Nat → Int32} (ha : ws[q0]? = some (a, .inl (cA, n, .inl f))) (ht : tys[t0]? = some (cA, .int)) (j : Nat) {z : Int} {x : Int32} (hn : n < 2147483648) (hz : z = j) (hj : j < n) (hd : decode cc pc = .ok (.iastore, 1)) (kk : ∀ (H1 : Heap) (locs1 : List Loc), va_P D cl (ws.set q0 (a, .inl (cA, n, .inl (upd f j x)))) H1 → va_D A (ws.set q0 (a, .inl (cA, n, .inl (upd f j x)))) → va_S A H0 H1 locs1 → W p l e R s m args below meth c H1 locs1 cells slots Q (F0 m (pc + 1) ls rest)) : W p l e R s m args below meth c H locs cells slots Q (F0 m pc ls (.int x :: .int (iZ z) :: .ref a :: rest)) := by
  subst hz
  refine va_iast hx hb hK hP hD hS q0 t0 ha ht (iZ_in hj hn) hd ?_
  rw [iZ_cN (by omega)]
  exact kk
theorem za_last (hx : p.tables.exec = Jvm.exec) (hb : c.code = cc) (hK : va_K D cl tys s) (hP : va_P D cl ws H) (hD : va_D A ws) (hS : va_S A H0 H locs) (q0 t0 : Nat) {cA : ClassId} {n : Nat} {f : Nat → Int64} (ha : ws[q0]? = some (a, .inl (cA, n, .inr (.inl f)))) (ht : tys[t0]? = some (cA, .long)) (j : Nat) {z : Int} {x : Int64} (hn : n < 2147483648) (hz : z = j) (hj : j < n) (hd : decode cc pc = .ok (.lastore, 1)) (kk : ∀ (H1 : Heap) (locs1 : List Loc), va_P D cl (ws.set q0 (a, .inl (cA, n, .inr (.inl (vp_updL f j x))))) H1 → va_D A (ws.set q0 (a, .inl (cA, n, .inr (.inl (vp_updL f j x))))) → va_S A H0 H1 locs1 → W p l e R s m args below meth c H1 locs1 cells slots Q (F0 m (pc + 1) ls rest)) : W p l e R s m args below meth c H locs cells slots Q (F0 m pc ls (.long x :: .int (iZ z) :: .ref a :: rest)) := by
  subst hz
  refine va_last hx hb hK hP hD hS q0 t0 ha ht (iZ_in hj hn) hd ?_
  rw [iZ_cN (by omega)]
  exact kk
end ZW

/-- the world ws stands in t, its cells of the kind A -/
abbrev wB (D : va_G) (cl : List vw_C) (tys : List (ClassId × FieldType)) (A : Nat → Prop) (ws : va_W) (t : State) : Prop := va_P D cl ws t.heap ∧ va_K D cl tys t ∧ va_D A ws
abbrev wPre (D : va_G) (cl : List vw_C) (tys : List (ClassId × FieldType)) (av : List Value) (ws : va_W) (sz : Nat) : Array Value → State → Prop := va_Pc av (fun U => U.heap.size = sz ∧ wB D cl tys (fun _ => True) ws U)
theorem wPre_blind {D : va_G} {cl : List vw_C} {tys : List (ClassId × FieldType)} {av : List Value} {ws : va_W} {sz : Nat} : FrameBlind (wPre D cl tys av ws sz) := fun a U g mk q => by
  obtain ⟨q0, q1, qP, qK, qD⟩ := q
  exact ⟨q0, q1, qP, va_K.moved (u := U) (U := U.calling g mk a) (Vm.Alike.refl U.vm) qK, qD⟩
/-- contracts: with the arguments av, over the world ws, y answers r and leaves ws' u, with post r u -/
def Ci (l : Launch) (D : va_G) (cl : List vw_C) (tys : List (ClassId × FieldType)) (y : MethodName) (wd : List Cond) (rm : Room) (av : List Value) (ws : va_W) (S : Type) (post : Int32 → S → Prop) (ws' : S → va_W) : Prop :=
  ∀ sz : Nat, Met l y wd rm (wPre D cl tys av ws sz) (va_Qi post (fun u t => wB D cl tys (va_A ws sz) (ws' u) t) (va_A ws sz)) rm.cells rm.slots (va_A ws sz)
def Cl (l : Launch) (D : va_G) (cl : List vw_C) (tys : List (ClassId × FieldType)) (y : MethodName) (wd : List Cond) (rm : Room) (av : List Value) (ws : va_W) (S : Type) (post : Int64 → S → Prop) (ws' : S → va_W) : Prop :=
  ∀ sz : Nat, Met l y wd rm (wPre D cl tys av ws sz) (va_Ql post (fun u t => wB D cl tys (va_A ws sz) (ws' u) t) (va_A ws sz)) rm.cells rm.slots (va_A ws sz)
def Cv (l : Launch) (D : va_G) (cl : List vw_C) (tys : List (ClassId × FieldType)) (y : MethodName) (wd : List Cond) (rm : Room) (av : List Value) (ws : va_W) (S : Type) (post : S → Prop) (ws' : S → va_W) : Prop :=
  ∀ sz : Nat, Met l y wd rm (wPre D cl tys av ws sz) (va_Qv post (fun u t => wB D cl tys (va_A ws sz) (ws' u) t) (va_A ws sz)) rm.cells rm.slots (va_A ws sz)
theorem W_mono {p : Program} {l : Launch} {e : Env} {R : Room} {s : State} {m : MethodId} {args : Array Value} {below : List Frame} {meth : Method} {c : Code} {H : Heap} {locs : List Loc} {cells slots : Nat} {Q Q' : State → Prop} {g : JFrame} (h : ∀ t, Q t → Q' t) (k : W p l e R s m args below meth c H locs cells slots Q g) : W p l e R s m args below meth c H locs cells slots Q' g := fun T hT X => by
  obtain ⟨t, a1, b1⟩ := k T hT X
  exact ⟨t, a1, h t b1⟩

theorem en_i {l : Launch} {D : va_G} {cl : List vw_C} {tys : List (ClassId × FieldType)} {y : MethodName} {wd wd' : List Cond} {rm : Room} {av : List Value} {ws : va_W} {S : Type} {post : Int32 → S → Prop} {ws' : S → va_W} {cc : ByteArray} {maxL : Nat} {ty : FieldType} 
    (hy : plainName y.cls = true) (hw : wd = Cond.code y cc maxL (some ty) :: wd') (lv : List (Nat × Value)) (hlen : (lg_sl av).length ≤ maxL) (hlv : lv_args 0 av = lv)
    (body : ∀ (p : Program) (e : Env) (s : State) (m : MethodId) (args : Array Value) (below : List Frame) (meth : Method) (c : Code) (Q : State → Prop) (A : Nat → Prop), p.tables.exec = Jvm.exec → c.code = cc → c.maxLocals = maxL → s.vm.findClass y.cls = some m.cls → (∀ w ∈ wd, w.before args s = true) → meth.name = y.name → va_K D cl tys s → va_P D cl ws s.heap → va_D A ws → (∀ q : Nat, s.heap.size ≤ q → A q) → va_S A s.heap s.heap [] →
      (∀ (r : Int32) (u : S) (H : Heap) (locs : List Loc) (cells slots pc : Nat) (ls : Array Slot), cells ≤ rm.cells → slots ≤ rm.slots → narrow ty (.int r) = .int r → decode cc pc = .ok (.ireturn, 1) → post r u → va_P D cl (ws' u) H → va_D A (ws' u) → va_S A s.heap H locs → W p l e rm s m args below meth c H locs cells slots Q (F0 m pc ls [.int r])) →
      ∀ ls : Array Slot, lv_has ls maxL lv → W p l e rm s m args below meth c s.heap [] 0 0 Q (F0 m 0 ls [])) : Ci l D cl tys y wd rm av ws S post ws' := by
  intro sz
  refine Met.ofW (cc := cc) (maxL := maxL) (ret := (some ty)) hy hw ?_
  intro p e s m args below meth c s₁ B hml hv
  obtain ⟨rfl, hsz, hP, hK, hD0⟩ := hv
  have hr := B.returns
  have hlocks := B.notSynchronized
  have hts := atoms_spec (ws := wd) B.pre
  have hown : s.vm.findClass y.cls = some m.cls := findClass_of_methodNamed B.named
  subst hsz
  have hl := lv_entry av (n := maxL) hlen
  rw [lg_entry_eq]
  generalize (lg_sl av ++ List.replicate (maxL - (lg_sl av).length) Slot.unset).toArray = ls at hl ⊢
  rw [hlv] at hl
  refine body p e s m _ below meth c _ (va_A ws s.heap.size) B.exec B.bytes hml hown hts (name_of_methodNamed B.named B.method).1 hK hP (hD0.self (sz := s.heap.size)) (fun q h => Or.inr h) va_S.rf ?_ ls hl
  intro r u H locs cells slots pc ls hc hs hn hd hp hP hD hS
  refine W.widen (k := rm.cells) (n := rm.slots) hc hs ?_
  exact W.zret (v := r) B.exec B.bytes hr hn (fun t ht hW => ⟨⟨r, u, rfl, hp, by rw [ht]; exact hP, va_K.moved hW.alike hK, hD⟩, hS.F ht⟩) hS.2.2 hd hlocks
theorem en_l {l : Launch} {D : va_G} {cl : List vw_C} {tys : List (ClassId × FieldType)} {y : MethodName} {wd wd' : List Cond} {rm : Room} {av : List Value} {ws : va_W} {S : Type} {post : Int64 → S → Prop} {ws' : S → va_W} {cc : ByteArray} {maxL : Nat} 
    (hy : plainName y.cls = true) (hw : wd = Cond.code y cc maxL (some .long) :: wd') (lv : List (Nat × Value)) (hlen : (lg_sl av).length ≤ maxL) (hlv : lv_args 0 av = lv)
    (body : ∀ (p : Program) (e : Env) (s : State) (m : MethodId) (args : Array Value) (below : List Frame) (meth : Method) (c : Code) (Q : State → Prop) (A : Nat → Prop), p.tables.exec = Jvm.exec → c.code = cc → c.maxLocals = maxL → s.vm.findClass y.cls = some m.cls → (∀ w ∈ wd, w.before args s = true) → meth.name = y.name → va_K D cl tys s → va_P D cl ws s.heap → va_D A ws → (∀ q : Nat, s.heap.size ≤ q → A q) → va_S A s.heap s.heap [] →
      (∀ (r : Int64) (u : S) (H : Heap) (locs : List Loc) (cells slots pc : Nat) (ls : Array Slot), cells ≤ rm.cells → slots ≤ rm.slots → decode cc pc = .ok (.lreturn, 1) → post r u → va_P D cl (ws' u) H → va_D A (ws' u) → va_S A s.heap H locs → W p l e rm s m args below meth c H locs cells slots Q (F0 m pc ls [.long r])) →
      ∀ ls : Array Slot, lv_has ls maxL lv → W p l e rm s m args below meth c s.heap [] 0 0 Q (F0 m 0 ls [])) : Cl l D cl tys y wd rm av ws S post ws' := by
  intro sz
  refine Met.ofW (cc := cc) (maxL := maxL) (ret := (some .long)) hy hw ?_
  intro p e s m args below meth c s₁ B hml hv
  obtain ⟨rfl, hsz, hP, hK, hD0⟩ := hv
  have hr := B.returns
  have hlocks := B.notSynchronized
  have hts := atoms_spec (ws := wd) B.pre
  have hown : s.vm.findClass y.cls = some m.cls := findClass_of_methodNamed B.named
  subst hsz
  have hl := lv_entry av (n := maxL) hlen
  rw [lg_entry_eq]
  generalize (lg_sl av ++ List.replicate (maxL - (lg_sl av).length) Slot.unset).toArray = ls at hl ⊢
  rw [hlv] at hl
  refine body p e s m _ below meth c _ (va_A ws s.heap.size) B.exec B.bytes hml hown hts (name_of_methodNamed B.named B.method).1 hK hP (hD0.self (sz := s.heap.size)) (fun q h => Or.inr h) va_S.rf ?_ ls hl
  intro r u H locs cells slots pc ls hc hs hd hp hP hD hS
  refine W.widen (k := rm.cells) (n := rm.slots) hc hs ?_
  exact W.lret (v := r) B.exec B.bytes hr (fun t ht hW => ⟨⟨r, u, rfl, hp, by rw [ht]; exact hP, va_K.moved hW.alike hK, hD⟩, hS.F ht⟩) hS.2.2 hd hlocks
theorem en_v {l : Launch} {D : va_G} {cl : List vw_C} {tys : List (ClassId × FieldType)} {y : MethodName} {wd wd' : List Cond} {rm : Room} {av : List Value} {ws : va_W} {S : Type} {post : S → Prop} {ws' : S → va_W} {cc : ByteArray} {maxL : Nat} 
    (hy : plainName y.cls = true) (hw : wd = Cond.code y cc maxL none :: wd') (lv : List (Nat × Value)) (hlen : (lg_sl av).length ≤ maxL) (hlv : lv_args 0 av = lv)
    (body : ∀ (p : Program) (e : Env) (s : State) (m : MethodId) (args : Array Value) (below : List Frame) (meth : Method) (c : Code) (Q : State → Prop) (A : Nat → Prop), p.tables.exec = Jvm.exec → c.code = cc → c.maxLocals = maxL → s.vm.findClass y.cls = some m.cls → (∀ w ∈ wd, w.before args s = true) → meth.name = y.name → va_K D cl tys s → va_P D cl ws s.heap → va_D A ws → (∀ q : Nat, s.heap.size ≤ q → A q) → va_S A s.heap s.heap [] →
      (∀ (u : S) (H : Heap) (locs : List Loc) (cells slots pc : Nat) (ls : Array Slot), cells ≤ rm.cells → slots ≤ rm.slots → decode cc pc = .ok (.return_, 1) → post u → va_P D cl (ws' u) H → va_D A (ws' u) → va_S A s.heap H locs → W p l e rm s m args below meth c H locs cells slots Q (F0 m pc ls [])) →
      ∀ ls : Array Slot, lv_has ls maxL lv → W p l e rm s m args below meth c s.heap [] 0 0 Q (F0 m 0 ls [])) : Cv l D cl tys y wd rm av ws S post ws' := by
  intro sz
  refine Met.ofW (cc := cc) (maxL := maxL) (ret := none) hy hw ?_
  intro p e s m args below meth c s₁ B hml hv
  obtain ⟨rfl, hsz, hP, hK, hD0⟩ := hv
  have hr := B.returns
  have hlocks := B.notSynchronized
  have hts := atoms_spec (ws := wd) B.pre
  have hown : s.vm.findClass y.cls = some m.cls := findClass_of_methodNamed B.named
  subst hsz
  have hl := lv_entry av (n := maxL) hlen
  rw [lg_entry_eq]
  generalize (lg_sl av ++ List.replicate (maxL - (lg_sl av).length) Slot.unset).toArray = ls at hl ⊢
  rw [hlv] at hl
  refine body p e s m _ below meth c _ (va_A ws s.heap.size) B.exec B.bytes hml hown hts (name_of_methodNamed B.named B.method).1 hK hP (hD0.self (sz := s.heap.size)) (fun q h => Or.inr h) va_S.rf ?_ ls hl
  intro u H locs cells slots pc ls hc hs hd hp hP hD hS
  refine W.widen (k := rm.cells) (n := rm.slots) hc hs ?_
  exact W.vret B.exec B.bytes hr (fun t ht hW => ⟨⟨u, rfl, hp, by rw [ht]; exact hP, va_K.moved hW.alike hK, hD⟩, hS.F ht⟩) hS.2.2 hd hlocks
theorem ca_iV {p : Program} {l : Launch} {e : Env} {R : Room} {s : State} {m : MethodId} {args : Array Value} {below : List Frame} {meth : Method} {c : Code} {H : Heap} {locs : List Loc} {cells slots : Nat} {Q : State → Prop} {cc : ByteArray} {pc nL index n maxL : Nat} {ls : Array Slot} {D : va_G} {cl : List vw_C} {A : Nat → Prop} {tys : List (ClassId × FieldType)} {ws wc : va_W} {y : MethodName} {bytes : ByteArray} {ret : Option FieldType} {wd Ts : List Cond} {rm : Room} {own C : String} {b : Nat} {S : Type} {post : Int32 → S → Prop} {ws' : S → va_W} {st : List Value}
    (As rest : List Value) (wr : va_W) (c1 s1 : Nat) (F : CallFix p m c cc nL s args Ts own) (hM : Ci l D cl tys y wd rm (.ref b :: As) wc S post ws') (cw : CallW R s args own C index y bytes maxL ret wd rm rm.cells rm.slots n) (hK : va_K D cl tys s) (hP : va_P D cl ws H) (hD : va_D A ws) (hS : va_S A s.heap H locs) (hA : ∀ q : Nat, s.heap.size ≤ q → A q)
    (isC isR : List Nat) (hC : isC.map (fun i => ws[i]?) = wc.map some) (hcn : va_nd isC = true) (hR : isR.map (fun i => ws[i]?) = wr.map some) (hn : va_nd isR = true) (hdis : ∀ i ∈ isR, i ∉ isC) (q0 : Nat) {ci N : Nat} {T : u_T} {fs : List Value} (hc0 : cl[ci]? = some (C, T, N)) (he0 : wc[q0]? = some (b, .inr (ci, fs))) 
    (hl : As.length = n) (hsz : ls.size = nL) (hst : st = As.reverse ++ .ref b :: rest) (hW : (rest.map fun v => v.category).sum ≤ 8) (hd : decode cc pc = .ok (.invokevirtual index, 3)) (hf : cells + rm.cells ≤ R.cells ∧ slots + rm.slots ≤ R.slots) (hc1 : cells + rm.cells ≤ c1) (hs1 : slots + rm.slots ≤ s1)
    (kk : ∀ (r : Int32) (u : S) (H1 : Heap) (locs1 : List Loc), post r u → va_P D cl (wr ++ ws' u) H1 → va_D A (wr ++ ws' u) → va_S A s.heap H1 locs1 → W p l e R s m args below meth c H1 locs1 c1 s1 Q (F0 m (pc + 3) ls (.int r :: rest))) : W p l e R s m args below meth c H locs cells slots Q (F0 m pc ls st) := by
  subst hst
  have hPc : va_P D cl wc H := hP.sub isC (by have h9 := congrArg (List.filterMap id) hC; simpa [List.filterMap_map] using h9)
  have hDc : va_D A wc := hD.sub isC hcn hC
  have hFc := va_free (wc := wc) hD hS hA isC hC
  refine va_calli (va_runV (As := As) (rest := rest) F (hM H.size) cw ⟨wPre_blind, va_recv hK hPc (ci := ci) (q0 := q0) hc0 he0, fun U hU hW => ⟨rfl, by rw [hU], by rw [hU]; exact hPc, va_K.moved hW.alike hK, hDc.weaken (fun _ _ _ _ => trivial)⟩⟩ rfl hl hsz rfl (lv_room hW) hd hf) hS (fun q _ h => hFc q h) hFc (fun r u t H1 locs1 ht hvm hw hB hz1 hk1 hS => ?_)
  obtain ⟨hP1, hK1, hD1⟩ := hB
  rw [ht] at hP1
  obtain ⟨hP, hD⟩ := va_join (wr := wr) hP hD isC isR hC hR hn hdis hk1 hFc hP1 hD1
  exact W.widen (k := c1) (n := s1) hc1 hs1 (kk r u H1 locs1 hw hP hD hS)
theorem ca_iS {p : Program} {l : Launch} {e : Env} {R : Room} {s : State} {m : MethodId} {args : Array Value} {below : List Frame} {meth : Method} {c : Code} {H : Heap} {locs : List Loc} {cells slots : Nat} {Q : State → Prop} {cc : ByteArray} {pc nL index n maxL : Nat} {ls : Array Slot} {D : va_G} {cl : List vw_C} {A : Nat → Prop} {tys : List (ClassId × FieldType)} {ws wc : va_W} {y : MethodName} {bytes : ByteArray} {ret : Option FieldType} {wd Ts : List Cond} {rm : Room} {own : String} {S : Type} {post : Int32 → S → Prop} {ws' : S → va_W} {st : List Value}
    (As rest : List Value) (wr : va_W) (c1 s1 : Nat) (F : CallFix p m c cc nL s args Ts own) (hM : Ci l D cl tys y wd rm As wc S post ws') (cw : CallB R s args own index y bytes maxL ret wd rm rm.cells rm.slots n ∧ (Cond.static y).before args s = true) (hK : va_K D cl tys s) (hP : va_P D cl ws H) (hD : va_D A ws) (hS : va_S A s.heap H locs) (hA : ∀ q : Nat, s.heap.size ≤ q → A q)
    (isC isR : List Nat) (hC : isC.map (fun i => ws[i]?) = wc.map some) (hcn : va_nd isC = true) (hR : isR.map (fun i => ws[i]?) = wr.map some) (hn : va_nd isR = true) (hdis : ∀ i ∈ isR, i ∉ isC) 
    (hl : As.length = n) (hsz : ls.size = nL) (hst : st = As.reverse ++ rest) (hW : (rest.map fun v => v.category).sum ≤ 8) (hd : decode cc pc = .ok (.invokestatic index, 3)) (hf : cells + rm.cells ≤ R.cells ∧ slots + rm.slots ≤ R.slots) (hc1 : cells + rm.cells ≤ c1) (hs1 : slots + rm.slots ≤ s1)
    (kk : ∀ (r : Int32) (u : S) (H1 : Heap) (locs1 : List Loc), post r u → va_P D cl (wr ++ ws' u) H1 → va_D A (wr ++ ws' u) → va_S A s.heap H1 locs1 → W p l e R s m args below meth c H1 locs1 c1 s1 Q (F0 m (pc + 3) ls (.int r :: rest))) : W p l e R s m args below meth c H locs cells slots Q (F0 m pc ls st) := by
  subst hst
  have hPc : va_P D cl wc H := hP.sub isC (by have h9 := congrArg (List.filterMap id) hC; simpa [List.filterMap_map] using h9)
  have hDc : va_D A wc := hD.sub isC hcn hC
  have hFc := va_free (wc := wc) hD hS hA isC hC
  refine va_calli (va_runS (As := As) (rest := rest) F (hM H.size) cw ⟨wPre_blind, fun U hU hW => ⟨rfl, by rw [hU], by rw [hU]; exact hPc, va_K.moved hW.alike hK, hDc.weaken (fun _ _ _ _ => trivial)⟩⟩ rfl hl hsz rfl (lv_room hW) hd hf) hS (fun q _ h => hFc q h) hFc (fun r u t H1 locs1 ht hvm hw hB hz1 hk1 hS => ?_)
  obtain ⟨hP1, hK1, hD1⟩ := hB
  rw [ht] at hP1
  obtain ⟨hP, hD⟩ := va_join (wr := wr) hP hD isC isR hC hR hn hdis hk1 hFc hP1 hD1
  exact W.widen (k := c1) (n := s1) hc1 hs1 (kk r u H1 locs1 hw hP hD hS)
theorem ca_lV {p : Program} {l : Launch} {e : Env} {R : Room} {s : State} {m : MethodId} {args : Array Value} {below : List Frame} {meth : Method} {c : Code} {H : Heap} {locs : List Loc} {cells slots : Nat} {Q : State → Prop} {cc : ByteArray} {pc nL index n maxL : Nat} {ls : Array Slot} {D : va_G} {cl : List vw_C} {A : Nat → Prop} {tys : List (ClassId × FieldType)} {ws wc : va_W} {y : MethodName} {bytes : ByteArray} {ret : Option FieldType} {wd Ts : List Cond} {rm : Room} {own C : String} {b : Nat} {S : Type} {post : Int64 → S → Prop} {ws' : S → va_W} {st : List Value}
    (As rest : List Value) (wr : va_W) (c1 s1 : Nat) (F : CallFix p m c cc nL s args Ts own) (hM : Cl l D cl tys y wd rm (.ref b :: As) wc S post ws') (cw : CallW R s args own C index y bytes maxL ret wd rm rm.cells rm.slots n) (hK : va_K D cl tys s) (hP : va_P D cl ws H) (hD : va_D A ws) (hS : va_S A s.heap H locs) (hA : ∀ q : Nat, s.heap.size ≤ q → A q)
    (isC isR : List Nat) (hC : isC.map (fun i => ws[i]?) = wc.map some) (hcn : va_nd isC = true) (hR : isR.map (fun i => ws[i]?) = wr.map some) (hn : va_nd isR = true) (hdis : ∀ i ∈ isR, i ∉ isC) (q0 : Nat) {ci N : Nat} {T : u_T} {fs : List Value} (hc0 : cl[ci]? = some (C, T, N)) (he0 : wc[q0]? = some (b, .inr (ci, fs))) 
    (hl : As.length = n) (hsz : ls.size = nL) (hst : st = As.reverse ++ .ref b :: rest) (hW : (rest.map fun v => v.category).sum ≤ 8) (hd : decode cc pc = .ok (.invokevirtual index, 3)) (hf : cells + rm.cells ≤ R.cells ∧ slots + rm.slots ≤ R.slots) (hc1 : cells + rm.cells ≤ c1) (hs1 : slots + rm.slots ≤ s1)
    (kk : ∀ (r : Int64) (u : S) (H1 : Heap) (locs1 : List Loc), post r u → va_P D cl (wr ++ ws' u) H1 → va_D A (wr ++ ws' u) → va_S A s.heap H1 locs1 → W p l e R s m args below meth c H1 locs1 c1 s1 Q (F0 m (pc + 3) ls (.long r :: rest))) : W p l e R s m args below meth c H locs cells slots Q (F0 m pc ls st) := by
  subst hst
  have hPc : va_P D cl wc H := hP.sub isC (by have h9 := congrArg (List.filterMap id) hC; simpa [List.filterMap_map] using h9)
  have hDc : va_D A wc := hD.sub isC hcn hC
  have hFc := va_free (wc := wc) hD hS hA isC hC
  refine va_calll (va_runV (As := As) (rest := rest) F (hM H.size) cw ⟨wPre_blind, va_recv hK hPc (ci := ci) (q0 := q0) hc0 he0, fun U hU hW => ⟨rfl, by rw [hU], by rw [hU]; exact hPc, va_K.moved hW.alike hK, hDc.weaken (fun _ _ _ _ => trivial)⟩⟩ rfl hl hsz rfl (lv_room hW) hd hf) hS (fun q _ h => hFc q h) hFc (fun r u t H1 locs1 ht hvm hw hB hz1 hk1 hS => ?_)
  obtain ⟨hP1, hK1, hD1⟩ := hB
  rw [ht] at hP1
  obtain ⟨hP, hD⟩ := va_join (wr := wr) hP hD isC isR hC hR hn hdis hk1 hFc hP1 hD1
  exact W.widen (k := c1) (n := s1) hc1 hs1 (kk r u H1 locs1 hw hP hD hS)
theorem ca_lS {p : Program} {l : Launch} {e : Env} {R : Room} {s : State} {m : MethodId} {args : Array Value} {below : List Frame} {meth : Method} {c : Code} {H : Heap} {locs : List Loc} {cells slots : Nat} {Q : State → Prop} {cc : ByteArray} {pc nL index n maxL : Nat} {ls : Array Slot} {D : va_G} {cl : List vw_C} {A : Nat → Prop} {tys : List (ClassId × FieldType)} {ws wc : va_W} {y : MethodName} {bytes : ByteArray} {ret : Option FieldType} {wd Ts : List Cond} {rm : Room} {own : String} {S : Type} {post : Int64 → S → Prop} {ws' : S → va_W} {st : List Value}
    (As rest : List Value) (wr : va_W) (c1 s1 : Nat) (F : CallFix p m c cc nL s args Ts own) (hM : Cl l D cl tys y wd rm As wc S post ws') (cw : CallB R s args own index y bytes maxL ret wd rm rm.cells rm.slots n ∧ (Cond.static y).before args s = true) (hK : va_K D cl tys s) (hP : va_P D cl ws H) (hD : va_D A ws) (hS : va_S A s.heap H locs) (hA : ∀ q : Nat, s.heap.size ≤ q → A q)
    (isC isR : List Nat) (hC : isC.map (fun i => ws[i]?) = wc.map some) (hcn : va_nd isC = true) (hR : isR.map (fun i => ws[i]?) = wr.map some) (hn : va_nd isR = true) (hdis : ∀ i ∈ isR, i ∉ isC) 
    (hl : As.length = n) (hsz : ls.size = nL) (hst : st = As.reverse ++ rest) (hW : (rest.map fun v => v.category).sum ≤ 8) (hd : decode cc pc = .ok (.invokestatic index, 3)) (hf : cells + rm.cells ≤ R.cells ∧ slots + rm.slots ≤ R.slots) (hc1 : cells + rm.cells ≤ c1) (hs1 : slots + rm.slots ≤ s1)
    (kk : ∀ (r : Int64) (u : S) (H1 : Heap) (locs1 : List Loc), post r u → va_P D cl (wr ++ ws' u) H1 → va_D A (wr ++ ws' u) → va_S A s.heap H1 locs1 → W p l e R s m args below meth c H1 locs1 c1 s1 Q (F0 m (pc + 3) ls (.long r :: rest))) : W p l e R s m args below meth c H locs cells slots Q (F0 m pc ls st) := by
  subst hst
  have hPc : va_P D cl wc H := hP.sub isC (by have h9 := congrArg (List.filterMap id) hC; simpa [List.filterMap_map] using h9)
  have hDc : va_D A wc := hD.sub isC hcn hC
  have hFc := va_free (wc := wc) hD hS hA isC hC
  refine va_calll (va_runS (As := As) (rest := rest) F (hM H.size) cw ⟨wPre_blind, fun U hU hW => ⟨rfl, by rw [hU], by rw [hU]; exact hPc, va_K.moved hW.alike hK, hDc.weaken (fun _ _ _ _ => trivial)⟩⟩ rfl hl hsz rfl (lv_room hW) hd hf) hS (fun q _ h => hFc q h) hFc (fun r u t H1 locs1 ht hvm hw hB hz1 hk1 hS => ?_)
  obtain ⟨hP1, hK1, hD1⟩ := hB
  rw [ht] at hP1
  obtain ⟨hP, hD⟩ := va_join (wr := wr) hP hD isC isR hC hR hn hdis hk1 hFc hP1 hD1
  exact W.widen (k := c1) (n := s1) hc1 hs1 (kk r u H1 locs1 hw hP hD hS)
theorem ca_vV {p : Program} {l : Launch} {e : Env} {R : Room} {s : State} {m : MethodId} {args : Array Value} {below : List Frame} {meth : Method} {c : Code} {H : Heap} {locs : List Loc} {cells slots : Nat} {Q : State → Prop} {cc : ByteArray} {pc nL index n maxL : Nat} {ls : Array Slot} {D : va_G} {cl : List vw_C} {A : Nat → Prop} {tys : List (ClassId × FieldType)} {ws wc : va_W} {y : MethodName} {bytes : ByteArray} {ret : Option FieldType} {wd Ts : List Cond} {rm : Room} {own C : String} {b : Nat} {S : Type} {post : S → Prop} {ws' : S → va_W} {st : List Value}
    (As rest : List Value) (wr : va_W) (c1 s1 : Nat) (F : CallFix p m c cc nL s args Ts own) (hM : Cv l D cl tys y wd rm (.ref b :: As) wc S post ws') (cw : CallW R s args own C index y bytes maxL ret wd rm rm.cells rm.slots n) (hK : va_K D cl tys s) (hP : va_P D cl ws H) (hD : va_D A ws) (hS : va_S A s.heap H locs) (hA : ∀ q : Nat, s.heap.size ≤ q → A q)
    (isC isR : List Nat) (hC : isC.map (fun i => ws[i]?) = wc.map some) (hcn : va_nd isC = true) (hR : isR.map (fun i => ws[i]?) = wr.map some) (hn : va_nd isR = true) (hdis : ∀ i ∈ isR, i ∉ isC) (q0 : Nat) {ci N : Nat} {T : u_T} {fs : List Value} (hc0 : cl[ci]? = some (C, T, N)) (he0 : wc[q0]? = some (b, .inr (ci, fs))) 
    (hl : As.length = n) (hsz : ls.size = nL) (hst : st = As.reverse ++ .ref b :: rest) (hW : (rest.map fun v => v.category).sum ≤ 8) (hd : decode cc pc = .ok (.invokevirtual index, 3)) (hf : cells + rm.cells ≤ R.cells ∧ slots + rm.slots ≤ R.slots) (hc1 : cells + rm.cells ≤ c1) (hs1 : slots + rm.slots ≤ s1)
    (kk : ∀ (u : S) (H1 : Heap) (locs1 : List Loc), post u → va_P D cl (wr ++ ws' u) H1 → va_D A (wr ++ ws' u) → va_S A s.heap H1 locs1 → W p l e R s m args below meth c H1 locs1 c1 s1 Q (F0 m (pc + 3) ls (rest))) : W p l e R s m args below meth c H locs cells slots Q (F0 m pc ls st) := by
  subst hst
  have hPc : va_P D cl wc H := hP.sub isC (by have h9 := congrArg (List.filterMap id) hC; simpa [List.filterMap_map] using h9)
  have hDc : va_D A wc := hD.sub isC hcn hC
  have hFc := va_free (wc := wc) hD hS hA isC hC
  refine va_callv (va_runV (As := As) (rest := rest) F (hM H.size) cw ⟨wPre_blind, va_recv hK hPc (ci := ci) (q0 := q0) hc0 he0, fun U hU hW => ⟨rfl, by rw [hU], by rw [hU]; exact hPc, va_K.moved hW.alike hK, hDc.weaken (fun _ _ _ _ => trivial)⟩⟩ rfl hl hsz rfl (lv_room hW) hd hf) hS (fun q _ h => hFc q h) hFc (fun u t H1 locs1 ht hvm hw hB hz1 hk1 hS => ?_)
  obtain ⟨hP1, hK1, hD1⟩ := hB
  rw [ht] at hP1
  obtain ⟨hP, hD⟩ := va_join (wr := wr) hP hD isC isR hC hR hn hdis hk1 hFc hP1 hD1
  exact W.widen (k := c1) (n := s1) hc1 hs1 (kk u H1 locs1 hw hP hD hS)
theorem ca_vS {p : Program} {l : Launch} {e : Env} {R : Room} {s : State} {m : MethodId} {args : Array Value} {below : List Frame} {meth : Method} {c : Code} {H : Heap} {locs : List Loc} {cells slots : Nat} {Q : State → Prop} {cc : ByteArray} {pc nL index n maxL : Nat} {ls : Array Slot} {D : va_G} {cl : List vw_C} {A : Nat → Prop} {tys : List (ClassId × FieldType)} {ws wc : va_W} {y : MethodName} {bytes : ByteArray} {ret : Option FieldType} {wd Ts : List Cond} {rm : Room} {own : String} {S : Type} {post : S → Prop} {ws' : S → va_W} {st : List Value}
    (As rest : List Value) (wr : va_W) (c1 s1 : Nat) (F : CallFix p m c cc nL s args Ts own) (hM : Cv l D cl tys y wd rm As wc S post ws') (cw : CallB R s args own index y bytes maxL ret wd rm rm.cells rm.slots n ∧ (Cond.static y).before args s = true) (hK : va_K D cl tys s) (hP : va_P D cl ws H) (hD : va_D A ws) (hS : va_S A s.heap H locs) (hA : ∀ q : Nat, s.heap.size ≤ q → A q)
    (isC isR : List Nat) (hC : isC.map (fun i => ws[i]?) = wc.map some) (hcn : va_nd isC = true) (hR : isR.map (fun i => ws[i]?) = wr.map some) (hn : va_nd isR = true) (hdis : ∀ i ∈ isR, i ∉ isC) 
    (hl : As.length = n) (hsz : ls.size = nL) (hst : st = As.reverse ++ rest) (hW : (rest.map fun v => v.category).sum ≤ 8) (hd : decode cc pc = .ok (.invokestatic index, 3)) (hf : cells + rm.cells ≤ R.cells ∧ slots + rm.slots ≤ R.slots) (hc1 : cells + rm.cells ≤ c1) (hs1 : slots + rm.slots ≤ s1)
    (kk : ∀ (u : S) (H1 : Heap) (locs1 : List Loc), post u → va_P D cl (wr ++ ws' u) H1 → va_D A (wr ++ ws' u) → va_S A s.heap H1 locs1 → W p l e R s m args below meth c H1 locs1 c1 s1 Q (F0 m (pc + 3) ls (rest))) : W p l e R s m args below meth c H locs cells slots Q (F0 m pc ls st) := by
  subst hst
  have hPc : va_P D cl wc H := hP.sub isC (by have h9 := congrArg (List.filterMap id) hC; simpa [List.filterMap_map] using h9)
  have hDc : va_D A wc := hD.sub isC hcn hC
  have hFc := va_free (wc := wc) hD hS hA isC hC
  refine va_callv (va_runS (As := As) (rest := rest) F (hM H.size) cw ⟨wPre_blind, fun U hU hW => ⟨rfl, by rw [hU], by rw [hU]; exact hPc, va_K.moved hW.alike hK, hDc.weaken (fun _ _ _ _ => trivial)⟩⟩ rfl hl hsz rfl (lv_room hW) hd hf) hS (fun q _ h => hFc q h) hFc (fun u t H1 locs1 ht hvm hw hB hz1 hk1 hS => ?_)
  obtain ⟨hP1, hK1, hD1⟩ := hB
  rw [ht] at hP1
  obtain ⟨hP, hD⟩ := va_join (wr := wr) hP hD isC isR hC hR hn hdis hk1 hFc hP1 hD1
  exact W.widen (k := c1) (n := s1) hc1 hs1 (kk u H1 locs1 hw hP hD hS)
theorem ca_vI {p : Program} {l : Launch} {e : Env} {R : Room} {s : State} {m : MethodId} {args : Array Value} {below : List Frame} {meth : Method} {c : Code} {H : Heap} {locs : List Loc} {cells slots : Nat} {Q : State → Prop} {cc : ByteArray} {pc nL index n maxL : Nat} {ls : Array Slot} {D : va_G} {cl : List vw_C} {A : Nat → Prop} {tys : List (ClassId × FieldType)} {ws wc : va_W} {y : MethodName} {bytes : ByteArray} {ret : Option FieldType} {wd Ts : List Cond} {rm : Room} {own : String} {b : Nat} {S : Type} {post : S → Prop} {ws' : S → va_W} {st : List Value}
    (As rest : List Value) (wr : va_W) (c1 s1 : Nat) (F : CallFix p m c cc nL s args Ts own) (hM : Cv l D cl tys y wd rm (.ref b :: As) wc S post ws') (cw : CallB R s args own index y bytes maxL none wd rm rm.cells rm.slots n ∧ y.name = "<init>" ∧ (Cond.instanceMethod y).before args s = true) (hK : va_K D cl tys s) (hP : va_P D cl ws H) (hD : va_D A ws) (hS : va_S A s.heap H locs) (hA : ∀ q : Nat, s.heap.size ≤ q → A q)
    (isC isR : List Nat) (hC : isC.map (fun i => ws[i]?) = wc.map some) (hcn : va_nd isC = true) (hR : isR.map (fun i => ws[i]?) = wr.map some) (hn : va_nd isR = true) (hdis : ∀ i ∈ isR, i ∉ isC) 
    (hl : As.length = n) (hsz : ls.size = nL) (hst : st = As.reverse ++ .ref b :: rest) (hW : (rest.map fun v => v.category).sum ≤ 8) (hd : decode cc pc = .ok (.invokespecial index, 3)) (hf : cells + rm.cells ≤ R.cells ∧ slots + rm.slots ≤ R.slots) (hc1 : cells + rm.cells ≤ c1) (hs1 : slots + rm.slots ≤ s1)
    (kk : ∀ (u : S) (H1 : Heap) (locs1 : List Loc), post u → va_P D cl (wr ++ ws' u) H1 → va_D A (wr ++ ws' u) → va_S A s.heap H1 locs1 → W p l e R s m args below meth c H1 locs1 c1 s1 Q (F0 m (pc + 3) ls (rest))) : W p l e R s m args below meth c H locs cells slots Q (F0 m pc ls st) := by
  subst hst
  have hPc : va_P D cl wc H := hP.sub isC (by have h9 := congrArg (List.filterMap id) hC; simpa [List.filterMap_map] using h9)
  have hDc : va_D A wc := hD.sub isC hcn hC
  have hFc := va_free (wc := wc) hD hS hA isC hC
  refine va_callv (va_runI (As := As) (rest := rest) F (hM H.size) cw ⟨wPre_blind, fun U hU hW => ⟨rfl, by rw [hU], by rw [hU]; exact hPc, va_K.moved hW.alike hK, hDc.weaken (fun _ _ _ _ => trivial)⟩⟩ rfl hl hsz rfl (lv_room hW) hd hf) hS (fun q _ h => hFc q h) hFc (fun u t H1 locs1 ht hvm hw hB hz1 hk1 hS => ?_)
  obtain ⟨hP1, hK1, hD1⟩ := hB
  rw [ht] at hP1
  obtain ⟨hP, hD⟩ := va_join (wr := wr) hP hD isC isR hC hR hn hdis hk1 hFc hP1 hD1
  exact W.widen (k := c1) (n := s1) hc1 hs1 (kk u H1 locs1 hw hP hD hS)

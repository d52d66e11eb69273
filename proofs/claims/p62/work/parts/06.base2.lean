/-! ===== rows whose facts are whole numbers ===== -/
theorem zrng (x : Int32) : -2147483648 ≤ x.toInt ∧ x.toInt < 2147483648 := by
  have h1 := Int32.le_toInt x
  have h2 := Int32.toInt_lt x
  omega
theorem zbm {z : Int} (h1 : -2147483648 ≤ z) (h2 : z < 2147483648) : z.bmod (2 ^ 32) = z := by
  rw [Int.bmod_def]
  split <;> omega
theorem zadd {x y : Int32} (h1 : -2147483648 ≤ x.toInt + y.toInt) (h2 : x.toInt + y.toInt < 2147483648) : (x + y).toInt = x.toInt + y.toInt := by
  rw [Int32.toInt_add]; exact zbm h1 h2
theorem zsub {x y : Int32} (h1 : -2147483648 ≤ x.toInt - y.toInt) (h2 : x.toInt - y.toInt < 2147483648) : (x - y).toInt = x.toInt - y.toInt := by
  rw [Int32.toInt_sub]; exact zbm h1 h2
theorem zmul {x y : Int32} (h1 : -2147483648 ≤ x.toInt * y.toInt) (h2 : x.toInt * y.toInt < 2147483648) : (x * y).toInt = x.toInt * y.toInt := by
  rw [Int32.toInt_mul]; exact zbm h1 h2
theorem zdiv {x y : Int32} {d : Nat} (hx : 0 ≤ x.toInt) (hy : y.toInt = d) (hd : 0 < d) : (x / y).toInt = x.toInt / d := by
  rw [Int32.toInt_div, hy, Int.tdiv_eq_ediv_of_nonneg hx]
  have h := zrng x
  have h2 : x.toInt / (d : Int) ≤ x.toInt := Int.ediv_le_self _ hx
  have h3 : 0 ≤ x.toInt / (d : Int) := Int.ediv_nonneg hx (by omega)
  exact zbm (by omega) (by omega)
theorem zrem {x y : Int32} {d : Nat} (hx : 0 ≤ x.toInt) (hy : y.toInt = d) (hd : 0 < d) : (x - x / y * y).toInt = x.toInt % d := by
  have h := zrng x
  have h1 := zdiv hx hy hd
  have h2 : x.toInt / (d : Int) * d ≤ x.toInt := Int.ediv_mul_le _ (by omega)
  have h3 : 0 ≤ x.toInt / (d : Int) * d := Int.mul_nonneg (Int.ediv_nonneg hx (by omega)) (by omega)
  have e1 : (x / y * y).toInt = x.toInt / d * d := by
    rw [zmul (by rw [h1, hy]; omega) (by rw [h1, hy]; omega), h1, hy]
  rw [zsub (by rw [e1]; omega) (by rw [e1]; omega), e1]
  have h4 := Int.emod_add_mul_ediv x.toInt (d : Int)
  rw [Int.mul_comm] at h4
  omega
theorem zand {x y : Int32} (hx : 0 ≤ x.toInt) (hy : 0 ≤ y.toInt) : 0 ≤ (x &&& y).toInt ∧ (x &&& y).toInt ≤ x.toInt ∧ (x &&& y).toInt ≤ y.toInt := by
  obtain ⟨a, ha, rfl⟩ := nI_of (x := x) (by rw [zlt]; show ¬ _ < (0 : Int); omega)
  obtain ⟨b, hb, rfl⟩ := nI_of (x := y) (by rw [zlt]; show ¬ _ < (0 : Int); omega)
  have e : nI a &&& nI b = nI (a &&& b) := by
    apply Int32.toBitVec_inj.mp
    show (nI a).toBitVec &&& (nI b).toBitVec = (nI (a &&& b)).toBitVec
    apply BitVec.eq_of_toNat_eq
    rw [BitVec.toNat_and, pk_tn (by omega), pk_tn (by omega), pk_tn (Nat.lt_of_le_of_lt Nat.and_le_left (by omega))]
  have l1 : a &&& b ≤ a := Nat.and_le_left
  have l2 : a &&& b ≤ b := Nat.and_le_right
  rw [e, nI_toInt (by omega), nI_toInt ha, nI_toInt hb]
  omega
theorem znn {i : Int32} {n : Nat} (h0 : 0 ≤ i.toInt) (h1 : i.toInt < n) : vp_in i n ∧ (i.toNatClampNeg : Int) = i.toInt ∧ i.toNatClampNeg < n := by
  refine ⟨vp_in_iff.mpr ⟨h0, h1⟩, ?_, ?_⟩
  · exact Int.toNat_of_nonneg h0
  · have : (i.toNatClampNeg : Int) = i.toInt := Int.toNat_of_nonneg h0
    omega
/-- a predicate of each place of a row: of its number and of what it holds -/
def Rp (P : Int → Int → Prop) (n : Nat) (f : Nat → Int32) : Prop := ∀ i : Nat, i < n → P i (f i).toInt
theorem Rp.st {P : Int → Int → Prop} {n : Nat} {f : Nat → Int32} (h : Rp P n f) {k : Nat} {x : Int32} (hx : P k x.toInt) : Rp P n (upd f k x) := by
  intro i hi
  by_cases e : i = k
  · subst e; rw [pk_us]; exact hx
  · rw [pk_un e]; exact h i hi
theorem zbool {r : Int32} (h : r.toInt = 0 ∨ r.toInt = 1) : narrow .boolean (.int r) = .int r := by
  rcases h with h | h
  · have e : r = 0 := zeq.mpr h
    subst e; rfl
  · have e : r = 1 := zeq.mpr h
    subst e; rfl
theorem zinc (x : Int32) (n : Int) (h : -2147483648 ≤ x.toInt + n ∧ x.toInt + n < 2147483648) : ∃ v : Int32, x + Int32.ofInt n = v ∧ v.toInt = x.toInt + n := by
  refine ⟨_, rfl, ?_⟩
  rw [Int32.toInt_add, Int32.toInt_ofInt, Int.add_bmod_bmod]
  exact zbm h.1 h.2
theorem zincU (x : Int32) (n : Int) : ∃ v : Int32, x + Int32.ofInt n = v := ⟨_, rfl⟩
theorem Rp_cpy {P : Int → Int → Prop} {n : Nat} {f g : Nat → Int32} (h : Rp P n f) : Rp P n (va_cpy f g 0 0 n) := by
  intro i hi
  rw [pk_cpy_in (Nat.zero_le i) (by omega)]
  have e : 0 + (i - 0) = i := by omega
  rw [e]
  exact h i hi

theorem ylt {a b : Int64} : a < b ↔ a.toInt < b.toInt := Int64.lt_iff_toInt_lt
theorem yeq {a b : Int64} : a = b ↔ a.toInt = b.toInt := Int64.toInt_inj.symm
theorem yrng (x : Int64) : -9223372036854775808 ≤ x.toInt ∧ x.toInt < 9223372036854775808 := by
  have h1 := Int64.le_toInt x
  have h2 := Int64.toInt_lt x
  omega
theorem ybm {z : Int} (h1 : -9223372036854775808 ≤ z) (h2 : z < 9223372036854775808) : z.bmod (2 ^ 64) = z := by
  rw [Int.bmod_def]
  split <;> omega
theorem ydiv {x y : Int64} {d : Nat} (hx : 0 ≤ x.toInt) (hy : y.toInt = d) (hd : 0 < d) : (x / y).toInt = x.toInt / d := by
  rw [Int64.toInt_div, hy, Int.tdiv_eq_ediv_of_nonneg hx]
  have h := yrng x
  have h2 : x.toInt / (d : Int) ≤ x.toInt := Int.ediv_le_self _ hx
  have h3 : 0 ≤ x.toInt / (d : Int) := Int.ediv_nonneg hx (by omega)
  exact ybm (by omega) (by omega)
theorem yrem {x y : Int64} {d : Nat} (hx : 0 ≤ x.toInt) (hy : y.toInt = d) (hd : 0 < d) : (x - x / y * y).toInt = x.toInt % d := by
  have h := yrng x
  have h1 := ydiv hx hy hd
  have h2 : x.toInt / (d : Int) * d ≤ x.toInt := Int.ediv_mul_le _ (by omega)
  have h3 : 0 ≤ x.toInt / (d : Int) * d := Int.mul_nonneg (Int.ediv_nonneg hx (by omega)) (by omega)
  have e1 : (x / y * y).toInt = x.toInt / d * d := by
    rw [Int64.toInt_mul, h1, hy]
    exact ybm (by omega) (by omega)
  rw [Int64.toInt_sub, e1, ybm (by omega) (by omega)]
  have h4 := Int.emod_add_mul_ediv x.toInt (d : Int)
  rw [Int.mul_comm] at h4
  omega
theorem zsh1 {y : Int32} (h : 0 ≤ y.toInt ∧ y.toInt ≤ 8) : 1 ≤ ((1 : Int32) <<< (y &&& 31)).toInt ∧ ((1 : Int32) <<< (y &&& 31)).toInt ≤ 256 := by
  have h9 : y = 0 ∨ y = 1 ∨ y = 2 ∨ y = 3 ∨ y = 4 ∨ y = 5 ∨ y = 6 ∨ y = 7 ∨ y = 8 := by
    simp only [zeq, z0, z1, z2, z3, z4, z5, z6, z7, z8]
    omega
  rcases h9 with rfl | rfl | rfl | rfl | rfl | rfl | rfl | rfl | rfl <;> decide
section RZ
variable {p : Program} {l : Launch} {e : Env} {R : Room} {s : State} {m : MethodId} {args : Array Value} {below : List Frame} {meth : Method} {c : Code} {H H0 : Heap} {locs : List Loc} {cells slots : Nat} {Q : State → Prop}
variable {cc : ByteArray} {pc : Nat} {ls : Array Slot} {rest : List Value} {G : va_G} {t : Nat → ClassId} {ws : va_W} {A : Nat → Prop} {a n : Nat}
theorem aI {x v : Int32} (k : ∀ v : Int32, v = x → W p l e R s m args below meth c H locs cells slots Q (F0 m pc ls (.int v :: rest))) : W p l e R s m args below meth c H locs cells slots Q (F0 m pc ls (.int x :: rest)) := k x rfl
theorem adZ (hx : p.tables.exec = Jvm.exec) (hb : c.code = cc) {x y : Int32} (hdg : decode cc pc = .ok (.iadd, 1)) (xz yz : Int) (ex : x.toInt = xz) (ey : y.toInt = yz) (h : -2147483648 ≤ xz + yz ∧ xz + yz < 2147483648) (kk : ∀ v : Int32, v.toInt = xz + yz → W p l e R s m args below meth c H locs cells slots Q (F0 m (pc + 1) ls (.int v :: rest))) : W p l e R s m args below meth c H locs cells slots Q (F0 m pc ls (.int y :: .int x :: rest)) :=
  lv_iadd hx hb hdg (kk _ (by rw [zadd (by rw [ex, ey]; exact h.1) (by rw [ex, ey]; exact h.2), ex, ey]))
theorem sbZ (hx : p.tables.exec = Jvm.exec) (hb : c.code = cc) {x y : Int32} (hdg : decode cc pc = .ok (.isub, 1)) (xz yz : Int) (ex : x.toInt = xz) (ey : y.toInt = yz) (h : -2147483648 ≤ xz - yz ∧ xz - yz < 2147483648) (kk : ∀ v : Int32, v.toInt = xz - yz → W p l e R s m args below meth c H locs cells slots Q (F0 m (pc + 1) ls (.int v :: rest))) : W p l e R s m args below meth c H locs cells slots Q (F0 m pc ls (.int y :: .int x :: rest)) :=
  lv_isub hx hb hdg (kk _ (by rw [zsub (by rw [ex, ey]; exact h.1) (by rw [ex, ey]; exact h.2), ex, ey]))
theorem muZ (hx : p.tables.exec = Jvm.exec) (hb : c.code = cc) {x y : Int32} (hdg : decode cc pc = .ok (.imul, 1)) (xz yz : Int) (ex : x.toInt = xz) (ey : y.toInt = yz) (h : -2147483648 ≤ xz * yz ∧ xz * yz < 2147483648) (kk : ∀ v : Int32, v.toInt = xz * yz → W p l e R s m args below meth c H locs cells slots Q (F0 m (pc + 1) ls (.int v :: rest))) : W p l e R s m args below meth c H locs cells slots Q (F0 m pc ls (.int y :: .int x :: rest)) :=
  lv_imul hx hb hdg (kk _ (by rw [zmul (by rw [ex, ey]; exact h.1) (by rw [ex, ey]; exact h.2), ex, ey]))
theorem dvZ (hx : p.tables.exec = Jvm.exec) (hb : c.code = cc) {x y : Int32} (hdg : decode cc pc = .ok (.idiv, 1)) (xz : Int) (d : Nat) (ex : x.toInt = xz) (ey : y.toInt = d) (h : 0 ≤ xz) (hd : 0 < d) (kk : ∀ v : Int32, v.toInt = xz / d → W p l e R s m args below meth c H locs cells slots Q (F0 m (pc + 1) ls (.int v :: rest))) : W p l e R s m args below meth c H locs cells slots Q (F0 m pc ls (.int y :: .int x :: rest)) :=
  lv_idiv hx hb hdg (fun q => by rw [q] at ey; have : (0 : Int32).toInt = 0 := rfl; omega) (kk _ (by subst ex; exact zdiv h ey hd))
theorem rmZ (hx : p.tables.exec = Jvm.exec) (hb : c.code = cc) {x y : Int32} (hdg : decode cc pc = .ok (.irem, 1)) (xz : Int) (d : Nat) (ex : x.toInt = xz) (ey : y.toInt = d) (h : 0 ≤ xz) (hd : 0 < d) (kk : ∀ v : Int32, v.toInt = xz % d → W p l e R s m args below meth c H locs cells slots Q (F0 m (pc + 1) ls (.int v :: rest))) : W p l e R s m args below meth c H locs cells slots Q (F0 m pc ls (.int y :: .int x :: rest)) :=
  lv_irem hx hb hdg (fun q => by rw [q] at ey; have : (0 : Int32).toInt = 0 := rfl; omega) (kk _ (by subst ex; exact zrem h ey hd))
theorem rmV (hx : p.tables.exec = Jvm.exec) (hb : c.code = cc) {x y : Int32} (hdg : decode cc pc = .ok (.irem, 1)) (xz yz : Int) (ex : x.toInt = xz) (ey : y.toInt = yz) (h : 0 ≤ xz) (hd : 0 < yz) (kk : ∀ v : Int32, 0 ≤ v.toInt ∧ v.toInt < yz → W p l e R s m args below meth c H locs cells slots Q (F0 m (pc + 1) ls (.int v :: rest))) : W p l e R s m args below meth c H locs cells slots Q (F0 m pc ls (.int y :: .int x :: rest)) := by
  have e1 : (yz.toNat : Int) = yz := Int.toNat_of_nonneg (by omega)
  refine rmZ hx hb hdg xz yz.toNat ex (by rw [ey, e1]) h (by omega) (fun v hv => kk v ?_)
  rw [e1] at hv
  rw [hv]
  exact ⟨Int.emod_nonneg _ (by omega), Int.emod_lt_of_pos _ hd⟩
theorem anZ (hx : p.tables.exec = Jvm.exec) (hb : c.code = cc) {x y : Int32} (hdg : decode cc pc = .ok (.iand, 1)) (xz yz : Int) (ex : x.toInt = xz) (ey : y.toInt = yz) (h : 0 ≤ xz ∧ 0 ≤ yz) (kk : ∀ v : Int32, 0 ≤ v.toInt ∧ v.toInt ≤ xz ∧ v.toInt ≤ yz → W p l e R s m args below meth c H locs cells slots Q (F0 m (pc + 1) ls (.int v :: rest))) : W p l e R s m args below meth c H locs cells slots Q (F0 m pc ls (.int y :: .int x :: rest)) :=
  lv_iand hx hb hdg (kk _ (by subst ex; subst ey; exact zand h.1 h.2))
theorem gnI {x : Int32} (k : ∀ v : Int32, W p l e R s m args below meth c H locs cells slots Q (F0 m pc ls (.int v :: rest))) : W p l e R s m args below meth c H locs cells slots Q (F0 m pc ls (.int x :: rest)) := k x
theorem gnL {x : Int64} (k : ∀ v : Int64, W p l e R s m args below meth c H locs cells slots Q (F0 m pc ls (.long v :: rest))) : W p l e R s m args below meth c H locs cells slots Q (F0 m pc ls (.long x :: rest)) := k x
theorem bI_eq (hx : p.tables.exec = Jvm.exec) (hb : c.code = cc) {off : Int} {tgt : Nat} (hdg : decode cc pc = .ok (.if_icmp .eq off, 3)) (ht : (pc : Int) + off = (tgt : Int)) {x y : Int32} (xz yz : Int) (ex : x.toInt = xz) (ey : y.toInt = yz) (kt : xz = yz → W p l e R s m args below meth c H locs cells slots Q (F0 m tgt ls (rest))) (kf : ¬ xz = yz → W p l e R s m args below meth c H locs cells slots Q (F0 m (pc + 3) ls (rest))) : W p l e R s m args below meth c H locs cells slots Q (F0 m pc ls (.int y :: .int x :: rest)) := by
  subst ex; subst ey; exact lv_icmp_eq hx hb hdg ht (fun h => kt (zeq.mp h)) (fun h => kf (fun q => h (zeq.mpr q)))
theorem bF_eq (hx : p.tables.exec = Jvm.exec) (hb : c.code = cc) {off : Int} {tgt : Nat} (hdg : decode cc pc = .ok (.ifCond .eq off, 3)) (ht : (pc : Int) + off = (tgt : Int)) {x : Int32} (xz : Int) (ex : x.toInt = xz) (kt : xz = 0 → W p l e R s m args below meth c H locs cells slots Q (F0 m tgt ls (rest))) (kf : ¬ xz = 0 → W p l e R s m args below meth c H locs cells slots Q (F0 m (pc + 3) ls (rest))) : W p l e R s m args below meth c H locs cells slots Q (F0 m pc ls (.int x :: rest)) := by
  subst ex; exact lv_if_eq hx hb hdg ht (fun h => kt (zeq.mp h)) (fun h => kf (fun q => h (zeq.mpr q)))
theorem bL_eq (hx : p.tables.exec = Jvm.exec) (hb : c.code = cc) {off : Int} {tgt : Nat} (hd0 : decode cc pc = .ok (.lcmp, 1)) (hdg : decode cc (pc + 1) = .ok (.ifCond .eq off, 3)) (ht : ((pc + 1 : Nat) : Int) + off = (tgt : Int)) {x y : Int64} (xz yz : Int) (ex : x.toInt = xz) (ey : y.toInt = yz) (kt : xz = yz → W p l e R s m args below meth c H locs cells slots Q (F0 m tgt ls (rest))) (kf : ¬ xz = yz → W p l e R s m args below meth c H locs cells slots Q (F0 m (pc + 1 + 3) ls (rest))) : W p l e R s m args below meth c H locs cells slots Q (F0 m pc ls (.long y :: .long x :: rest)) := by
  subst ex; subst ey; exact W.lcmp hx hb hd0 (lv_if_eq hx hb hdg ht (fun h => kt (yeq.mp ((lg_cmp_eq _ _).mp h))) (fun h => kf (fun q => h ((lg_cmp_eq _ _).mpr (yeq.mpr q)))))
theorem bI_ne (hx : p.tables.exec = Jvm.exec) (hb : c.code = cc) {off : Int} {tgt : Nat} (hdg : decode cc pc = .ok (.if_icmp .ne off, 3)) (ht : (pc : Int) + off = (tgt : Int)) {x y : Int32} (xz yz : Int) (ex : x.toInt = xz) (ey : y.toInt = yz) (kt : ¬ xz = yz → W p l e R s m args below meth c H locs cells slots Q (F0 m tgt ls (rest))) (kf : xz = yz → W p l e R s m args below meth c H locs cells slots Q (F0 m (pc + 3) ls (rest))) : W p l e R s m args below meth c H locs cells slots Q (F0 m pc ls (.int y :: .int x :: rest)) := by
  subst ex; subst ey; exact lv_icmp_ne hx hb hdg ht (fun h => kt (fun q => h (zeq.mpr q))) (fun h => kf (zeq.mp h))
theorem bF_ne (hx : p.tables.exec = Jvm.exec) (hb : c.code = cc) {off : Int} {tgt : Nat} (hdg : decode cc pc = .ok (.ifCond .ne off, 3)) (ht : (pc : Int) + off = (tgt : Int)) {x : Int32} (xz : Int) (ex : x.toInt = xz) (kt : ¬ xz = 0 → W p l e R s m args below meth c H locs cells slots Q (F0 m tgt ls (rest))) (kf : xz = 0 → W p l e R s m args below meth c H locs cells slots Q (F0 m (pc + 3) ls (rest))) : W p l e R s m args below meth c H locs cells slots Q (F0 m pc ls (.int x :: rest)) := by
  subst ex; exact lv_if_ne hx hb hdg ht (fun h => kt (fun q => h (zeq.mpr q))) (fun h => kf (zeq.mp h))
theorem bL_ne (hx : p.tables.exec = Jvm.exec) (hb : c.code = cc) {off : Int} {tgt : Nat} (hd0 : decode cc pc = .ok (.lcmp, 1)) (hdg : decode cc (pc + 1) = .ok (.ifCond .ne off, 3)) (ht : ((pc + 1 : Nat) : Int) + off = (tgt : Int)) {x y : Int64} (xz yz : Int) (ex : x.toInt = xz) (ey : y.toInt = yz) (kt : ¬ xz = yz → W p l e R s m args below meth c H locs cells slots Q (F0 m tgt ls (rest))) (kf : xz = yz → W p l e R s m args below meth c H locs cells slots Q (F0 m (pc + 1 + 3) ls (rest))) : W p l e R s m args below meth c H locs cells slots Q (F0 m pc ls (.long y :: .long x :: rest)) := by
  subst ex; subst ey; exact W.lcmp hx hb hd0 (lv_if_ne hx hb hdg ht (fun h => kt (fun q => h ((lg_cmp_eq _ _).mpr (yeq.mpr q)))) (fun h => kf (yeq.mp ((lg_cmp_eq _ _).mp h))))
theorem bI_lt (hx : p.tables.exec = Jvm.exec) (hb : c.code = cc) {off : Int} {tgt : Nat} (hdg : decode cc pc = .ok (.if_icmp .lt off, 3)) (ht : (pc : Int) + off = (tgt : Int)) {x y : Int32} (xz yz : Int) (ex : x.toInt = xz) (ey : y.toInt = yz) (kt : xz < yz → W p l e R s m args below meth c H locs cells slots Q (F0 m tgt ls (rest))) (kf : ¬ xz < yz → W p l e R s m args below meth c H locs cells slots Q (F0 m (pc + 3) ls (rest))) : W p l e R s m args below meth c H locs cells slots Q (F0 m pc ls (.int y :: .int x :: rest)) := by
  subst ex; subst ey; exact lv_icmp_lt hx hb hdg ht (fun h => kt (zlt.mp h)) (fun h => kf (fun q => h (zlt.mpr q)))
theorem bF_lt (hx : p.tables.exec = Jvm.exec) (hb : c.code = cc) {off : Int} {tgt : Nat} (hdg : decode cc pc = .ok (.ifCond .lt off, 3)) (ht : (pc : Int) + off = (tgt : Int)) {x : Int32} (xz : Int) (ex : x.toInt = xz) (kt : xz < 0 → W p l e R s m args below meth c H locs cells slots Q (F0 m tgt ls (rest))) (kf : ¬ xz < 0 → W p l e R s m args below meth c H locs cells slots Q (F0 m (pc + 3) ls (rest))) : W p l e R s m args below meth c H locs cells slots Q (F0 m pc ls (.int x :: rest)) := by
  subst ex; exact lv_if_lt hx hb hdg ht (fun h => kt (zlt.mp h)) (fun h => kf (fun q => h (zlt.mpr q)))
theorem bL_lt (hx : p.tables.exec = Jvm.exec) (hb : c.code = cc) {off : Int} {tgt : Nat} (hd0 : decode cc pc = .ok (.lcmp, 1)) (hdg : decode cc (pc + 1) = .ok (.ifCond .lt off, 3)) (ht : ((pc + 1 : Nat) : Int) + off = (tgt : Int)) {x y : Int64} (xz yz : Int) (ex : x.toInt = xz) (ey : y.toInt = yz) (kt : xz < yz → W p l e R s m args below meth c H locs cells slots Q (F0 m tgt ls (rest))) (kf : ¬ xz < yz → W p l e R s m args below meth c H locs cells slots Q (F0 m (pc + 1 + 3) ls (rest))) : W p l e R s m args below meth c H locs cells slots Q (F0 m pc ls (.long y :: .long x :: rest)) := by
  subst ex; subst ey; exact W.lcmp hx hb hd0 (lv_if_lt hx hb hdg ht (fun h => kt (ylt.mp ((lg_cmp_lt _ _).mp h))) (fun h => kf (fun q => h ((lg_cmp_lt _ _).mpr (ylt.mpr q)))))
theorem bI_ge (hx : p.tables.exec = Jvm.exec) (hb : c.code = cc) {off : Int} {tgt : Nat} (hdg : decode cc pc = .ok (.if_icmp .ge off, 3)) (ht : (pc : Int) + off = (tgt : Int)) {x y : Int32} (xz yz : Int) (ex : x.toInt = xz) (ey : y.toInt = yz) (kt : yz ≤ xz → W p l e R s m args below meth c H locs cells slots Q (F0 m tgt ls (rest))) (kf : ¬ yz ≤ xz → W p l e R s m args below meth c H locs cells slots Q (F0 m (pc + 3) ls (rest))) : W p l e R s m args below meth c H locs cells slots Q (F0 m pc ls (.int y :: .int x :: rest)) := by
  subst ex; subst ey; exact lv_icmp_ge hx hb hdg ht (fun h => kt (zle.mp h)) (fun h => kf (fun q => h (zle.mpr q)))
theorem bF_ge (hx : p.tables.exec = Jvm.exec) (hb : c.code = cc) {off : Int} {tgt : Nat} (hdg : decode cc pc = .ok (.ifCond .ge off, 3)) (ht : (pc : Int) + off = (tgt : Int)) {x : Int32} (xz : Int) (ex : x.toInt = xz) (kt : 0 ≤ xz → W p l e R s m args below meth c H locs cells slots Q (F0 m tgt ls (rest))) (kf : ¬ 0 ≤ xz → W p l e R s m args below meth c H locs cells slots Q (F0 m (pc + 3) ls (rest))) : W p l e R s m args below meth c H locs cells slots Q (F0 m pc ls (.int x :: rest)) := by
  subst ex; exact lv_if_ge hx hb hdg ht (fun h => kt (zle.mp h)) (fun h => kf (fun q => h (zle.mpr q)))
theorem bL_ge (hx : p.tables.exec = Jvm.exec) (hb : c.code = cc) {off : Int} {tgt : Nat} (hd0 : decode cc pc = .ok (.lcmp, 1)) (hdg : decode cc (pc + 1) = .ok (.ifCond .ge off, 3)) (ht : ((pc + 1 : Nat) : Int) + off = (tgt : Int)) {x y : Int64} (xz yz : Int) (ex : x.toInt = xz) (ey : y.toInt = yz) (kt : yz ≤ xz → W p l e R s m args below meth c H locs cells slots Q (F0 m tgt ls (rest))) (kf : ¬ yz ≤ xz → W p l e R s m args below meth c H locs cells slots Q (F0 m (pc + 1 + 3) ls (rest))) : W p l e R s m args below meth c H locs cells slots Q (F0 m pc ls (.long y :: .long x :: rest)) := by
  subst ex; subst ey; exact W.lcmp hx hb hd0 (lv_if_ge hx hb hdg ht (fun h => kt (zle64.mp ((lg_cmp_ge _ _).mp h))) (fun h => kf (fun q => h ((lg_cmp_ge _ _).mpr (zle64.mpr q)))))
theorem bI_gt (hx : p.tables.exec = Jvm.exec) (hb : c.code = cc) {off : Int} {tgt : Nat} (hdg : decode cc pc = .ok (.if_icmp .gt off, 3)) (ht : (pc : Int) + off = (tgt : Int)) {x y : Int32} (xz yz : Int) (ex : x.toInt = xz) (ey : y.toInt = yz) (kt : yz < xz → W p l e R s m args below meth c H locs cells slots Q (F0 m tgt ls (rest))) (kf : ¬ yz < xz → W p l e R s m args below meth c H locs cells slots Q (F0 m (pc + 3) ls (rest))) : W p l e R s m args below meth c H locs cells slots Q (F0 m pc ls (.int y :: .int x :: rest)) := by
  subst ex; subst ey; exact lv_icmp_gt hx hb hdg ht (fun h => kt (zlt.mp h)) (fun h => kf (fun q => h (zlt.mpr q)))
theorem bF_gt (hx : p.tables.exec = Jvm.exec) (hb : c.code = cc) {off : Int} {tgt : Nat} (hdg : decode cc pc = .ok (.ifCond .gt off, 3)) (ht : (pc : Int) + off = (tgt : Int)) {x : Int32} (xz : Int) (ex : x.toInt = xz) (kt : 0 < xz → W p l e R s m args below meth c H locs cells slots Q (F0 m tgt ls (rest))) (kf : ¬ 0 < xz → W p l e R s m args below meth c H locs cells slots Q (F0 m (pc + 3) ls (rest))) : W p l e R s m args below meth c H locs cells slots Q (F0 m pc ls (.int x :: rest)) := by
  subst ex; exact lv_if_gt hx hb hdg ht (fun h => kt (zlt.mp h)) (fun h => kf (fun q => h (zlt.mpr q)))
theorem bL_gt (hx : p.tables.exec = Jvm.exec) (hb : c.code = cc) {off : Int} {tgt : Nat} (hd0 : decode cc pc = .ok (.lcmp, 1)) (hdg : decode cc (pc + 1) = .ok (.ifCond .gt off, 3)) (ht : ((pc + 1 : Nat) : Int) + off = (tgt : Int)) {x y : Int64} (xz yz : Int) (ex : x.toInt = xz) (ey : y.toInt = yz) (kt : yz < xz → W p l e R s m args below meth c H locs cells slots Q (F0 m tgt ls (rest))) (kf : ¬ yz < xz → W p l e R s m args below meth c H locs cells slots Q (F0 m (pc + 1 + 3) ls (rest))) : W p l e R s m args below meth c H locs cells slots Q (F0 m pc ls (.long y :: .long x :: rest)) := by
  subst ex; subst ey; exact W.lcmp hx hb hd0 (lv_if_gt hx hb hdg ht (fun h => kt (ylt.mp ((lg_cmp_gt _ _).mp h))) (fun h => kf (fun q => h ((lg_cmp_gt _ _).mpr (ylt.mpr q)))))
theorem bI_le (hx : p.tables.exec = Jvm.exec) (hb : c.code = cc) {off : Int} {tgt : Nat} (hdg : decode cc pc = .ok (.if_icmp .le off, 3)) (ht : (pc : Int) + off = (tgt : Int)) {x y : Int32} (xz yz : Int) (ex : x.toInt = xz) (ey : y.toInt = yz) (kt : xz ≤ yz → W p l e R s m args below meth c H locs cells slots Q (F0 m tgt ls (rest))) (kf : ¬ xz ≤ yz → W p l e R s m args below meth c H locs cells slots Q (F0 m (pc + 3) ls (rest))) : W p l e R s m args below meth c H locs cells slots Q (F0 m pc ls (.int y :: .int x :: rest)) := by
  subst ex; subst ey; exact lv_icmp_le hx hb hdg ht (fun h => kt (zle.mp h)) (fun h => kf (fun q => h (zle.mpr q)))
theorem bF_le (hx : p.tables.exec = Jvm.exec) (hb : c.code = cc) {off : Int} {tgt : Nat} (hdg : decode cc pc = .ok (.ifCond .le off, 3)) (ht : (pc : Int) + off = (tgt : Int)) {x : Int32} (xz : Int) (ex : x.toInt = xz) (kt : xz ≤ 0 → W p l e R s m args below meth c H locs cells slots Q (F0 m tgt ls (rest))) (kf : ¬ xz ≤ 0 → W p l e R s m args below meth c H locs cells slots Q (F0 m (pc + 3) ls (rest))) : W p l e R s m args below meth c H locs cells slots Q (F0 m pc ls (.int x :: rest)) := by
  subst ex; exact lv_if_le hx hb hdg ht (fun h => kt (zle.mp h)) (fun h => kf (fun q => h (zle.mpr q)))
theorem bL_le (hx : p.tables.exec = Jvm.exec) (hb : c.code = cc) {off : Int} {tgt : Nat} (hd0 : decode cc pc = .ok (.lcmp, 1)) (hdg : decode cc (pc + 1) = .ok (.ifCond .le off, 3)) (ht : ((pc + 1 : Nat) : Int) + off = (tgt : Int)) {x y : Int64} (xz yz : Int) (ex : x.toInt = xz) (ey : y.toInt = yz) (kt : xz ≤ yz → W p l e R s m args below meth c H locs cells slots Q (F0 m tgt ls (rest))) (kf : ¬ xz ≤ yz → W p l e R s m args below meth c H locs cells slots Q (F0 m (pc + 1 + 3) ls (rest))) : W p l e R s m args below meth c H locs cells slots Q (F0 m pc ls (.long y :: .long x :: rest)) := by
  subst ex; subst ey; exact W.lcmp hx hb hd0 (lv_if_le hx hb hdg ht (fun h => kt (zle64.mp ((lg_cmp_le _ _).mp h))) (fun h => kf (fun q => h ((lg_cmp_le _ _).mpr (zle64.mpr q)))))
theorem lqaZ (hx : p.tables.exec = Jvm.exec) (hb : c.code = cc) {x y : Int64} (hdg : decode cc pc = .ok (.ladd, 1)) (xz yz : Int) (ex : x.toInt = xz) (ey : y.toInt = yz) (h : -9223372036854775808 ≤ xz + yz ∧ xz + yz < 9223372036854775808) (kk : ∀ v : Int64, v.toInt = xz + yz → W p l e R s m args below meth c H locs cells slots Q (F0 m (pc + 1) ls (.long v :: rest))) : W p l e R s m args below meth c H locs cells slots Q (F0 m pc ls (.long y :: .long x :: rest)) :=
  lv_ladd hx hb hdg (kk _ (by subst ex; subst ey; rw [Int64.toInt_add]; exact ybm h.1 h.2))
theorem lqsZ (hx : p.tables.exec = Jvm.exec) (hb : c.code = cc) {x y : Int64} (hdg : decode cc pc = .ok (.lsub, 1)) (xz yz : Int) (ex : x.toInt = xz) (ey : y.toInt = yz) (h : -9223372036854775808 ≤ xz - yz ∧ xz - yz < 9223372036854775808) (kk : ∀ v : Int64, v.toInt = xz - yz → W p l e R s m args below meth c H locs cells slots Q (F0 m (pc + 1) ls (.long v :: rest))) : W p l e R s m args below meth c H locs cells slots Q (F0 m pc ls (.long y :: .long x :: rest)) :=
  lv_lsub hx hb hdg (kk _ (by subst ex; subst ey; rw [Int64.toInt_sub]; exact ybm h.1 h.2))
theorem lqmZ (hx : p.tables.exec = Jvm.exec) (hb : c.code = cc) {x y : Int64} (hdg : decode cc pc = .ok (.lmul, 1)) (xz yz : Int) (ex : x.toInt = xz) (ey : y.toInt = yz) (h : -9223372036854775808 ≤ xz * yz ∧ xz * yz < 9223372036854775808) (kk : ∀ v : Int64, v.toInt = xz * yz → W p l e R s m args below meth c H locs cells slots Q (F0 m (pc + 1) ls (.long v :: rest))) : W p l e R s m args below meth c H locs cells slots Q (F0 m pc ls (.long y :: .long x :: rest)) :=
  lv_lmul hx hb hdg (kk _ (by subst ex; subst ey; rw [Int64.toInt_mul]; exact ybm h.1 h.2))
theorem ilZ (hx : p.tables.exec = Jvm.exec) (hb : c.code = cc) {x : Int32} (hdg : decode cc pc = .ok (.i2l, 1)) (xz : Int) (ex : x.toInt = xz) (kk : ∀ v : Int64, v.toInt = xz → W p l e R s m args below meth c H locs cells slots Q (F0 m (pc + 1) ls (.long v :: rest))) : W p l e R s m args below meth c H locs cells slots Q (F0 m pc ls (.int x :: rest)) :=
  lv_i2l hx hb hdg rfl (kk _ (by rw [z64]; exact ex))
theorem liZ (hx : p.tables.exec = Jvm.exec) (hb : c.code = cc) {x : Int64} (hdg : decode cc pc = .ok (.l2i, 1)) (xz : Int) (ex : x.toInt = xz) (h : -2147483648 ≤ xz ∧ xz < 2147483648) (kk : ∀ v : Int32, v.toInt = xz → W p l e R s m args below meth c H locs cells slots Q (F0 m (pc + 1) ls (.int v :: rest))) : W p l e R s m args below meth c H locs cells slots Q (F0 m pc ls (.long x :: rest)) :=
  lv_l2i hx hb hdg rfl (kk _ (by subst ex; rw [Int64.toInt_toInt32]; exact zbm h.1 h.2))
theorem ldvZ (hx : p.tables.exec = Jvm.exec) (hb : c.code = cc) {x y : Int64} (hdg : decode cc pc = .ok (.ldiv, 1)) (xz : Int) (d : Nat) (ex : x.toInt = xz) (ey : y.toInt = d) (h : 0 ≤ xz) (hd : 0 < d) (kk : ∀ v : Int64, v.toInt = xz / d → W p l e R s m args below meth c H locs cells slots Q (F0 m (pc + 1) ls (.long v :: rest))) : W p l e R s m args below meth c H locs cells slots Q (F0 m pc ls (.long y :: .long x :: rest)) :=
  lv_ldiv hx hb hdg (fun q => by rw [q] at ey; have : (0 : Int64).toInt = 0 := rfl; omega) (kk _ (by subst ex; exact ydiv h ey hd))
theorem lrmZ (hx : p.tables.exec = Jvm.exec) (hb : c.code = cc) {x y : Int64} (hdg : decode cc pc = .ok (.lrem, 1)) (xz : Int) (d : Nat) (ex : x.toInt = xz) (ey : y.toInt = d) (h : 0 ≤ xz) (hd : 0 < d) (kk : ∀ v : Int64, v.toInt = xz % d → W p l e R s m args below meth c H locs cells slots Q (F0 m (pc + 1) ls (.long v :: rest))) : W p l e R s m args below meth c H locs cells slots Q (F0 m pc ls (.long y :: .long x :: rest)) :=
  lv_lrem hx hb hdg (fun q => by rw [q] at ey; have : (0 : Int64).toInt = 0 := rfl; omega) (kk _ (by subst ex; exact yrem h ey hd))
theorem lrmV (hx : p.tables.exec = Jvm.exec) (hb : c.code = cc) {x y : Int64} (hdg : decode cc pc = .ok (.lrem, 1)) (xz yz : Int) (ex : x.toInt = xz) (ey : y.toInt = yz) (h : 0 ≤ xz) (hd : 0 < yz) (kk : ∀ v : Int64, 0 ≤ v.toInt ∧ v.toInt < yz → W p l e R s m args below meth c H locs cells slots Q (F0 m (pc + 1) ls (.long v :: rest))) : W p l e R s m args below meth c H locs cells slots Q (F0 m pc ls (.long y :: .long x :: rest)) := by
  have e1 : (yz.toNat : Int) = yz := Int.toNat_of_nonneg (by omega)
  refine lrmZ hx hb hdg xz yz.toNat ex (by rw [ey, e1]) h (by omega) (fun v hv => kk v ?_)
  rw [e1] at hv
  rw [hv]
  exact ⟨Int.emod_nonneg _ (by omega), Int.emod_lt_of_pos _ hd⟩
theorem lrmU (hx : p.tables.exec = Jvm.exec) (hb : c.code = cc) {x y : Int64} (hdg : decode cc pc = .ok (.lrem, 1)) (yz : Int) (ey : y.toInt = yz) (hd : yz ≠ 0) (kk : ∀ v : Int64, W p l e R s m args below meth c H locs cells slots Q (F0 m (pc + 1) ls (.long v :: rest))) : W p l e R s m args below meth c H locs cells slots Q (F0 m pc ls (.long y :: .long x :: rest)) :=
  lv_lrem hx hb hdg (fun q => by rw [q] at ey; have : (0 : Int64).toInt = 0 := rfl; omega) (kk _)
theorem ldvU (hx : p.tables.exec = Jvm.exec) (hb : c.code = cc) {x y : Int64} (hdg : decode cc pc = .ok (.ldiv, 1)) (yz : Int) (ey : y.toInt = yz) (hd : yz ≠ 0) (kk : ∀ v : Int64, W p l e R s m args below meth c H locs cells slots Q (F0 m (pc + 1) ls (.long v :: rest))) : W p l e R s m args below meth c H locs cells slots Q (F0 m pc ls (.long y :: .long x :: rest)) :=
  lv_ldiv hx hb hdg (fun q => by rw [q] at ey; have : (0 : Int64).toInt = 0 := rfl; omega) (kk _)
theorem rmU (hx : p.tables.exec = Jvm.exec) (hb : c.code = cc) {x y : Int32} (hdg : decode cc pc = .ok (.irem, 1)) (yz : Int) (ey : y.toInt = yz) (hd : yz ≠ 0) (kk : ∀ v : Int32, W p l e R s m args below meth c H locs cells slots Q (F0 m (pc + 1) ls (.int v :: rest))) : W p l e R s m args below meth c H locs cells slots Q (F0 m pc ls (.int y :: .int x :: rest)) :=
  lv_irem hx hb hdg (fun q => by rw [q] at ey; have : (0 : Int32).toInt = 0 := rfl; omega) (kk _)
theorem dvU (hx : p.tables.exec = Jvm.exec) (hb : c.code = cc) {x y : Int32} (hdg : decode cc pc = .ok (.idiv, 1)) (yz : Int) (ey : y.toInt = yz) (hd : yz ≠ 0) (kk : ∀ v : Int32, W p l e R s m args below meth c H locs cells slots Q (F0 m (pc + 1) ls (.int v :: rest))) : W p l e R s m args below meth c H locs cells slots Q (F0 m pc ls (.int y :: .int x :: rest)) :=
  lv_idiv hx hb hdg (fun q => by rw [q] at ey; have : (0 : Int32).toInt = 0 := rfl; omega) (kk _)
theorem sh1 (hx : p.tables.exec = Jvm.exec) (hb : c.code = cc) {y : Int32} (hdg : decode cc pc = .ok (.ishl, 1)) (yz : Int) (ey : y.toInt = yz) (h : 0 ≤ yz ∧ yz ≤ 8) (kk : ∀ v : Int32, 1 ≤ v.toInt ∧ v.toInt ≤ 256 → W p l e R s m args below meth c H locs cells slots Q (F0 m (pc + 1) ls (.int v :: rest))) : W p l e R s m args below meth c H locs cells slots Q (F0 m pc ls (.int y :: .int 1 :: rest)) :=
  lv_ishl hx hb hdg (kk _ (zsh1 (by subst ey; exact h)))
theorem laI (hx : p.tables.exec = Jvm.exec) (hb : c.code = cc) (hK : tyK G t s) (hP : va_P G vwCl ws H) (q0 : Nat) {f : Nat → Int32} (ha : ws[q0]? = some (a, .inl (t 1, n, .inl f))) {i : Int32} (iz : Int) (ei : i.toInt = iz) (h : 0 ≤ iz ∧ iz < n) (hdg : decode cc pc = .ok (.iaload, 1)) (kk : ∀ v : Int32, v = f iz.toNat → W p l e R s m args below meth c H locs cells slots Q (F0 m (pc + 1) ls (.int v :: rest))) : W p l e R s m args below meth c H locs cells slots Q (F0 m pc ls (.int i :: .ref a :: rest)) := by
  subst ei; exact ldI hx hb hK hP q0 ha (znn h.1 h.2).1 hdg rfl (kk _ rfl)
theorem lpI (hx : p.tables.exec = Jvm.exec) (hb : c.code = cc) (hK : tyK G t s) (hP : va_P G vwCl ws H) (q0 : Nat) {P : Int → Int → Prop} {f : Nat → Int32} (hp : Rp P n f) (ha : ws[q0]? = some (a, .inl (t 1, n, .inl f))) {i : Int32} (iz : Int) (ei : i.toInt = iz) (h : 0 ≤ iz ∧ iz < n) (hdg : decode cc pc = .ok (.iaload, 1)) (kk : ∀ v : Int32, v = f iz.toNat → P iz v.toInt → W p l e R s m args below meth c H locs cells slots Q (F0 m (pc + 1) ls (.int v :: rest))) : W p l e R s m args below meth c H locs cells slots Q (F0 m pc ls (.int i :: .ref a :: rest)) := by
  refine laI hx hb hK hP q0 ha iz ei h hdg (fun v hv => kk v hv ?_)
  have h1 := hp iz.toNat (by omega)
  rw [Int.toNat_of_nonneg h.1, ← hv] at h1
  exact h1
theorem laB (hx : p.tables.exec = Jvm.exec) (hb : c.code = cc) (hK : tyK G t s) (hP : va_P G vwCl ws H) (q0 : Nat) {f : Nat → Int32} (ha : ws[q0]? = some (a, .inl (t 0, n, .inl f))) {i : Int32} (iz : Int) (ei : i.toInt = iz) (h : 0 ≤ iz ∧ iz < n) (hdg : decode cc pc = .ok (.baload, 1)) (kk : ∀ v : Int32, v = f iz.toNat → W p l e R s m args below meth c H locs cells slots Q (F0 m (pc + 1) ls (.int v :: rest))) : W p l e R s m args below meth c H locs cells slots Q (F0 m pc ls (.int i :: .ref a :: rest)) := by
  subst ei; exact ldB hx hb hK hP q0 ha (znn h.1 h.2).1 hdg rfl (kk _ rfl)
theorem lpB (hx : p.tables.exec = Jvm.exec) (hb : c.code = cc) (hK : tyK G t s) (hP : va_P G vwCl ws H) (q0 : Nat) {P : Int → Int → Prop} {f : Nat → Int32} (hp : Rp P n f) (ha : ws[q0]? = some (a, .inl (t 0, n, .inl f))) {i : Int32} (iz : Int) (ei : i.toInt = iz) (h : 0 ≤ iz ∧ iz < n) (hdg : decode cc pc = .ok (.baload, 1)) (kk : ∀ v : Int32, v = f iz.toNat → P iz v.toInt → W p l e R s m args below meth c H locs cells slots Q (F0 m (pc + 1) ls (.int v :: rest))) : W p l e R s m args below meth c H locs cells slots Q (F0 m pc ls (.int i :: .ref a :: rest)) := by
  refine laB hx hb hK hP q0 ha iz ei h hdg (fun v hv => kk v hv ?_)
  have h1 := hp iz.toNat (by omega)
  rw [Int.toNat_of_nonneg h.1, ← hv] at h1
  exact h1
theorem laZ (hx : p.tables.exec = Jvm.exec) (hb : c.code = cc) (hK : tyK G t s) (hP : va_P G vwCl ws H) (q0 : Nat) {f : Nat → Int32} (ha : ws[q0]? = some (a, .inl (t 3, n, .inl f))) {i : Int32} (iz : Int) (ei : i.toInt = iz) (h : 0 ≤ iz ∧ iz < n) (hdg : decode cc pc = .ok (.baload, 1)) (kk : ∀ v : Int32, v = f iz.toNat → W p l e R s m args below meth c H locs cells slots Q (F0 m (pc + 1) ls (.int v :: rest))) : W p l e R s m args below meth c H locs cells slots Q (F0 m pc ls (.int i :: .ref a :: rest)) := by
  subst ei; exact ldZ hx hb hK hP q0 ha (znn h.1 h.2).1 hdg rfl (kk _ rfl)
theorem lpZ (hx : p.tables.exec = Jvm.exec) (hb : c.code = cc) (hK : tyK G t s) (hP : va_P G vwCl ws H) (q0 : Nat) {P : Int → Int → Prop} {f : Nat → Int32} (hp : Rp P n f) (ha : ws[q0]? = some (a, .inl (t 3, n, .inl f))) {i : Int32} (iz : Int) (ei : i.toInt = iz) (h : 0 ≤ iz ∧ iz < n) (hdg : decode cc pc = .ok (.baload, 1)) (kk : ∀ v : Int32, v = f iz.toNat → P iz v.toInt → W p l e R s m args below meth c H locs cells slots Q (F0 m (pc + 1) ls (.int v :: rest))) : W p l e R s m args below meth c H locs cells slots Q (F0 m pc ls (.int i :: .ref a :: rest)) := by
  refine laZ hx hb hK hP q0 ha iz ei h hdg (fun v hv => kk v hv ?_)
  have h1 := hp iz.toNat (by omega)
  rw [Int.toNat_of_nonneg h.1, ← hv] at h1
  exact h1
theorem laL (hx : p.tables.exec = Jvm.exec) (hb : c.code = cc) (hK : tyK G t s) (hP : va_P G vwCl ws H) (q0 : Nat) {f : Nat → Int64} (ha : ws[q0]? = some (a, .inl (t 2, n, .inr (.inl f)))) {i : Int32} (iz : Int) (ei : i.toInt = iz) (h : 0 ≤ iz ∧ iz < n) (hdg : decode cc pc = .ok (.laload, 1)) (kk : ∀ v : Int64, v = f iz.toNat → W p l e R s m args below meth c H locs cells slots Q (F0 m (pc + 1) ls (.long v :: rest))) : W p l e R s m args below meth c H locs cells slots Q (F0 m pc ls (.int i :: .ref a :: rest)) := by
  subst ei; exact ldL hx hb hK hP q0 ha (znn h.1 h.2).1 hdg rfl (kk _ rfl)
theorem saI (hx : p.tables.exec = Jvm.exec) (hb : c.code = cc) (hK : tyK G t s) (hP : va_P G vwCl ws H) (hD : va_D A ws) (hS : va_S A H0 H locs) (q0 : Nat) {f : Nat → Int32} (ha : ws[q0]? = some (a, .inl (t 1, n, .inl f))) {i x : Int32} (iz : Int) (ei : i.toInt = iz) (h : 0 ≤ iz ∧ iz < n) (hdg : decode cc pc = .ok (.iastore, 1)) (kk : ∀ f1 : Nat → Int32, f1 = upd f iz.toNat x → ∀ (H1 : Heap) (locs1 : List Loc), va_P G vwCl (ws.set q0 (a, .inl (t 1, n, .inl f1))) H1 → va_D A (ws.set q0 (a, .inl (t 1, n, .inl f1))) → va_S A H0 H1 locs1 → W p l e R s m args below meth c H1 locs1 cells slots Q (F0 m (pc + 1) ls (rest))) : W p l e R s m args below meth c H locs cells slots Q (F0 m pc ls (.int x :: .int i :: .ref a :: rest)) := by
  subst ei; exact stI hx hb hK hP hD hS q0 ha (znn h.1 h.2).1 hdg rfl rfl (kk _ rfl)
theorem spI (hx : p.tables.exec = Jvm.exec) (hb : c.code = cc) (hK : tyK G t s) (hP : va_P G vwCl ws H) (hD : va_D A ws) (hS : va_S A H0 H locs) (q0 : Nat) {P : Int → Int → Prop} {f : Nat → Int32} (hp : Rp P n f) (ha : ws[q0]? = some (a, .inl (t 1, n, .inl f))) {i x : Int32} (iz : Int) (ei : i.toInt = iz) (h : 0 ≤ iz ∧ iz < n) (xz : Int) (ex : x.toInt = xz) (hxp : P iz xz) (hdg : decode cc pc = .ok (.iastore, 1)) (kk : ∀ f1 : Nat → Int32, Rp P n f1 → f1 = upd f iz.toNat x → ∀ (H1 : Heap) (locs1 : List Loc), va_P G vwCl (ws.set q0 (a, .inl (t 1, n, .inl f1))) H1 → va_D A (ws.set q0 (a, .inl (t 1, n, .inl f1))) → va_S A H0 H1 locs1 → W p l e R s m args below meth c H1 locs1 cells slots Q (F0 m (pc + 1) ls (rest))) : W p l e R s m args below meth c H locs cells slots Q (F0 m pc ls (.int x :: .int i :: .ref a :: rest)) :=
  saI hx hb hK hP hD hS q0 ha iz ei h hdg (fun f1 e1 => kk f1 (by subst ex; subst e1; exact hp.st (by rw [Int.toNat_of_nonneg h.1]; exact hxp)) e1)
theorem saB (hx : p.tables.exec = Jvm.exec) (hb : c.code = cc) (hK : tyK G t s) (hP : va_P G vwCl ws H) (hD : va_D A ws) (hS : va_S A H0 H locs) (q0 : Nat) {f : Nat → Int32} (ha : ws[q0]? = some (a, .inl (t 0, n, .inl f))) {i x : Int32} (iz : Int) (ei : i.toInt = iz) (h : 0 ≤ iz ∧ iz < n) (hdg : decode cc pc = .ok (.bastore, 1)) (kk : ∀ f1 : Nat → Int32, f1 = upd f iz.toNat (vp_nar .byte x) → ∀ (H1 : Heap) (locs1 : List Loc), va_P G vwCl (ws.set q0 (a, .inl (t 0, n, .inl f1))) H1 → va_D A (ws.set q0 (a, .inl (t 0, n, .inl f1))) → va_S A H0 H1 locs1 → W p l e R s m args below meth c H1 locs1 cells slots Q (F0 m (pc + 1) ls (rest))) : W p l e R s m args below meth c H locs cells slots Q (F0 m pc ls (.int x :: .int i :: .ref a :: rest)) := by
  subst ei; exact stB hx hb hK hP hD hS q0 ha (znn h.1 h.2).1 hdg rfl rfl (kk _ rfl)
theorem saZ (hx : p.tables.exec = Jvm.exec) (hb : c.code = cc) (hK : tyK G t s) (hP : va_P G vwCl ws H) (hD : va_D A ws) (hS : va_S A H0 H locs) (q0 : Nat) {f : Nat → Int32} (ha : ws[q0]? = some (a, .inl (t 3, n, .inl f))) {i x : Int32} (iz : Int) (ei : i.toInt = iz) (h : 0 ≤ iz ∧ iz < n) (hdg : decode cc pc = .ok (.bastore, 1)) (kk : ∀ f1 : Nat → Int32, f1 = upd f iz.toNat (vp_nar .boolean x) → ∀ (H1 : Heap) (locs1 : List Loc), va_P G vwCl (ws.set q0 (a, .inl (t 3, n, .inl f1))) H1 → va_D A (ws.set q0 (a, .inl (t 3, n, .inl f1))) → va_S A H0 H1 locs1 → W p l e R s m args below meth c H1 locs1 cells slots Q (F0 m (pc + 1) ls (rest))) : W p l e R s m args below meth c H locs cells slots Q (F0 m pc ls (.int x :: .int i :: .ref a :: rest)) := by
  subst ei; exact stZ hx hb hK hP hD hS q0 ha (znn h.1 h.2).1 hdg rfl rfl (kk _ rfl)
theorem saL (hx : p.tables.exec = Jvm.exec) (hb : c.code = cc) (hK : tyK G t s) (hP : va_P G vwCl ws H) (hD : va_D A ws) (hS : va_S A H0 H locs) (q0 : Nat) {f : Nat → Int64} (ha : ws[q0]? = some (a, .inl (t 2, n, .inr (.inl f)))) {i : Int32} {x : Int64} (iz : Int) (ei : i.toInt = iz) (h : 0 ≤ iz ∧ iz < n) (hdg : decode cc pc = .ok (.lastore, 1)) (kk : ∀ f1 : Nat → Int64, f1 = vp_updL f iz.toNat x → ∀ (H1 : Heap) (locs1 : List Loc), va_P G vwCl (ws.set q0 (a, .inl (t 2, n, .inr (.inl f1)))) H1 → va_D A (ws.set q0 (a, .inl (t 2, n, .inr (.inl f1)))) → va_S A H0 H1 locs1 → W p l e R s m args below meth c H1 locs1 cells slots Q (F0 m (pc + 1) ls (rest))) : W p l e R s m args below meth c H locs cells slots Q (F0 m pc ls (.long x :: .int i :: .ref a :: rest)) := by
  subst ei; exact stL hx hb hK hP hD hS q0 ha (znn h.1 h.2).1 hdg rfl rfl (kk _ rfl)
theorem mminZ (hx : p.tables.exec = Jvm.exec) (hb : c.code = cc) {nL : Nat} (hml : c.maxLocals = nL) (hsz : ls.size = nL) {own : String} {index : Nat} (hown : s.vm.findClass own = some m.cls) (hts : ∀ w ∈ TB, w.before args s = true) (hlink : Cond.methodLink own index Lib.Math.min.name ∈ TB) (hstat : Cond.static Lib.Math.min.name ∈ TB) (hini : Cond.initialized "java/lang/Math" ∈ TB) (hcode : Cond.code Lib.Math.min.name Lib.Math.min.code 2 (some .int) ∈ TB) (hframes : 1 ≤ R.frames) (hlocals : (rest.map fun v => v.category).sum + 13 ≤ R.locals) (hc : cells ≤ R.cells) (hs : slots ≤ R.slots) {x y : Int32} (xz yz : Int) (ex : x.toInt = xz) (ey : y.toInt = yz) (hdg : decode cc pc = .ok (.invokestatic index, 3)) (kk : ∀ v : Int32, (v.toInt = xz ∨ v.toInt = yz) ∧ v.toInt ≤ xz ∧ v.toInt ≤ yz → W p l e R s m args below meth c H locs cells slots Q (F0 m (pc + 3) ls (.int v :: rest))) : W p l e R s m args below meth c H locs cells slots Q (F0 m pc ls (.int y :: .int x :: rest)) := by
  subst ex; subst ey
  refine va_mmin hx hb (by rw [hml]; exact hsz.symm) hown (hts _ hlink) (hts _ hstat) (hts _ hini) (hts _ hcode) hframes hlocals hc hs hdg (kk _ ?_)
  split
  · rename_i h; rw [zlt] at h; omega
  · rename_i h; rw [zlt] at h; omega
theorem mmaxZ (hx : p.tables.exec = Jvm.exec) (hb : c.code = cc) {nL : Nat} (hml : c.maxLocals = nL) (hsz : ls.size = nL) {own : String} {index : Nat} (hown : s.vm.findClass own = some m.cls) (hts : ∀ w ∈ TB, w.before args s = true) (hlink : Cond.methodLink own index Lib.Math.max.name ∈ TB) (hstat : Cond.static Lib.Math.max.name ∈ TB) (hini : Cond.initialized "java/lang/Math" ∈ TB) (hcode : Cond.code Lib.Math.max.name Lib.Math.max.code 2 (some .int) ∈ TB) (hframes : 1 ≤ R.frames) (hlocals : (rest.map fun v => v.category).sum + 13 ≤ R.locals) (hc : cells ≤ R.cells) (hs : slots ≤ R.slots) {x y : Int32} (xz yz : Int) (ex : x.toInt = xz) (ey : y.toInt = yz) (hdg : decode cc pc = .ok (.invokestatic index, 3)) (kk : ∀ v : Int32, (v.toInt = xz ∨ v.toInt = yz) ∧ xz ≤ v.toInt ∧ yz ≤ v.toInt → W p l e R s m args below meth c H locs cells slots Q (F0 m (pc + 3) ls (.int v :: rest))) : W p l e R s m args below meth c H locs cells slots Q (F0 m pc ls (.int y :: .int x :: rest)) := by
  subst ex; subst ey
  refine va_mmax hx hb (by rw [hml]; exact hsz.symm) hown (hts _ hlink) (hts _ hstat) (hts _ hini) (hts _ hcode) hframes hlocals hc hs hdg (kk _ ?_)
  split
  · rename_i h; rw [zlt] at h; omega
  · rename_i h; rw [zlt] at h; omega
theorem mabsU (hx : p.tables.exec = Jvm.exec) (hb : c.code = cc) {nL : Nat} (hml : c.maxLocals = nL) (hsz : ls.size = nL) {own : String} {index : Nat} (hown : s.vm.findClass own = some m.cls) (hts : ∀ w ∈ TB, w.before args s = true) (hlink : Cond.methodLink own index Lib.Math.abs.name ∈ TB) (hstat : Cond.static Lib.Math.abs.name ∈ TB) (hini : Cond.initialized "java/lang/Math" ∈ TB) (hcode : Cond.code Lib.Math.abs.name Lib.Math.abs.code 1 (some .int) ∈ TB) (hframes : 1 ≤ R.frames) (hlocals : (rest.map fun v => v.category).sum + 13 ≤ R.locals) (hc : cells ≤ R.cells) (hs : slots ≤ R.slots) {x : Int32} (hdg : decode cc pc = .ok (.invokestatic index, 3)) (kk : ∀ v : Int32, W p l e R s m args below meth c H locs cells slots Q (F0 m (pc + 3) ls (.int v :: rest))) : W p l e R s m args below meth c H locs cells slots Q (F0 m pc ls (.int x :: rest)) :=
  va_mabs hx hb (by rw [hml]; exact hsz.symm) hown (hts _ hlink) (hts _ hstat) (hts _ hini) (hts _ hcode) hframes hlocals hc hs hdg (kk _)
theorem incZ (hx : p.tables.exec = Jvm.exec) (hb : c.code = cc) {i nL k : Nat} {n : Int} {x : Int32} {lv : List (Nat × Value)} (hdg : decode cc pc = .ok (.iinc i n, 3)) (h : lv_has ls nL lv) (hk : lv[k]? = some (i, .int x)) (xz : Int) (ex : x.toInt = xz) (hr : -2147483648 ≤ xz + n ∧ xz + n < 2147483648) (hn : i < nL) (kk : ∀ v : Int32, v.toInt = xz + n → ∀ ls1 : Array Slot, lv_has ls1 nL ((i, Value.int v) :: lv.filter (fun q => !(q.1 == i) && !(q.1 + 1 == i && q.2.category == 2))) → W p l e R s m args below meth c H locs cells slots Q (F0 m (pc + 3) ls1 rest)) : W p l e R s m args below meth c H locs cells slots Q (F0 m pc ls rest) := by
  obtain ⟨v, e1, e2⟩ := zinc x n (by rw [ex]; exact hr)
  exact lv_iinc hx hb hdg h hk e1 hn rfl (fun ls1 h1 => kk v (by rw [e2, ex]) ls1 h1)
theorem incU (hx : p.tables.exec = Jvm.exec) (hb : c.code = cc) {i nL k : Nat} {n : Int} {x : Int32} {lv : List (Nat × Value)} (hdg : decode cc pc = .ok (.iinc i n, 3)) (h : lv_has ls nL lv) (hk : lv[k]? = some (i, .int x)) (hn : i < nL) (kk : ∀ v : Int32, ∀ ls1 : Array Slot, lv_has ls1 nL ((i, Value.int v) :: lv.filter (fun q => !(q.1 == i) && !(q.1 + 1 == i && q.2.category == 2))) → W p l e R s m args below meth c H locs cells slots Q (F0 m (pc + 3) ls1 rest)) : W p l e R s m args below meth c H locs cells slots Q (F0 m pc ls rest) := by
  obtain ⟨v, e1⟩ := zincU x n
  exact lv_iinc hx hb hdg h hk e1 hn rfl (fun ls1 h1 => kk v ls1 h1)
theorem cpL (hx : p.tables.exec = Jvm.exec) (hb : c.code = cc) {nL : Nat} (hml : c.maxLocals = nL) (hsz : ls.size = nL) {own : String} {index : Nat} (hown : s.vm.findClass own = some m.cls) (hts : ∀ w ∈ TB, w.before args s = true) (hlink : Cond.methodLink own index arraycopyName ∈ TB) (hnat : Cond.native arraycopyName ∈ TB) (hstat : Cond.static arraycopyName ∈ TB) (hini : Cond.initialized "java/lang/System" ∈ TB) (hK : tyK G t s) (hP : va_P G vwCl ws H) (hD : va_D A ws) (hS : va_S A H0 H locs) (q0 q1 : Nat) {a0 n0 : Nat} {f g : Nat → Int64} (ha0 : ws[q0]? = some (a0, .inl (t 2, n0, .inr (.inl f)))) (ha1 : ws[q1]? = some (a, .inl (t 2, n, .inr (.inl g)))) {sp dp k : Int32} (sz dz kz : Int) (es : sp.toInt = sz) (ed : dp.toInt = dz) (ek : k.toInt = kz) (h1 : 0 ≤ sz ∧ 0 ≤ dz ∧ 0 ≤ kz ∧ sz + kz ≤ n0 ∧ dz + kz ≤ n) (hframes : 1 ≤ R.frames) (hlocals : (rest.map fun v => v.category).sum + 18 ≤ R.locals) (hdg : decode cc pc = .ok (.invokestatic index, 3)) (kk : ∀ (g1 : Nat → Int64) (H1 : Heap) (locs1 : List Loc), va_P G vwCl (ws.set q1 (a, .inl (t 2, n, .inr (.inl g1)))) H1 → va_D A (ws.set q1 (a, .inl (t 2, n, .inr (.inl g1)))) → va_S A H0 H1 locs1 → W p l e R s m args below meth c H1 locs1 cells slots Q (F0 m (pc + 3) ls rest)) : W p l e R s m args below meth c H locs cells slots Q (F0 m pc ls (.int k :: .int dp :: .ref a :: .int sp :: .ref a0 :: rest)) := by
  subst es; subst ed; subst ek
  have nn : ∀ z : Int32, 0 ≤ z.toInt → (z.toNatClampNeg : Int) = z.toInt := fun z h => Int.toNat_of_nonneg h
  have n1 := nn sp h1.1
  have n2 := nn dp h1.2.1
  have n3 := nn k h1.2.2.1
  exact va_copyl hx hb (by rw [hml]; exact hsz.symm) hown (hts _ hlink) (hts _ hnat) (hts _ hstat) (hts _ hini) hK hP hD hS q0 q1 2 2 ha0 ha1 rfl rfl rfl (by rw [zlt, z0]; omega) (by rw [zlt, z0]; omega) (by rw [zlt, z0]; omega) (by omega) (by omega) (fun _ _ => rfl) hframes hlocals hdg (kk _)
end RZ

/-! ===== what the reference's rows keep ===== -/
theorem zsh9 {y : Int32} (h : 0 ≤ y.toInt ∧ y.toInt ≤ 9) : 1 ≤ ((1 : Int32) <<< (y &&& 31)).toInt ∧ ((1 : Int32) <<< (y &&& 31)).toInt ≤ 512 := by
  by_cases e : y = 9
  · subst e; decide
  · have h2 : ¬ y.toInt = 9 := fun q => e (zeq.mpr q)
    have h3 := zsh1 (y := y) (by omega)
    omega
def unY (x : Int32) : Nat := x.toBitVec.toNat
theorem un_dec {x : Int32} (h : ¬ x.toInt = 0) : unY (x &&& (x - 1)) < unY x := by
  have h0 : x.toBitVec.toNat ≠ 0 := by
    intro q
    apply h
    have e : x.toBitVec = (0 : Int32).toBitVec := BitVec.eq_of_toNat_eq (by rw [q]; rfl)
    have e2 : x = 0 := Int32.toBitVec_inj.mp e
    rw [e2]; rfl
  have hlt := x.toBitVec.isLt
  show (x.toBitVec &&& (x.toBitVec - 1#32)).toNat < x.toBitVec.toNat
  rw [BitVec.toNat_and]
  refine Nat.lt_of_le_of_lt Nat.and_le_right ?_
  rw [BitVec.toNat_sub]
  have e1 : (1#32).toNat = 1 := rfl
  rw [e1]
  omega
/-- how far the reading of a HALL may still go -/
def hmY (b k a : Int) : Nat := if b = 0 ∧ ¬ k = 0 then (1401 - a).toNat else 0
theorem hm_dec {b k a b1 k1 a1 : Int} {n : Nat} (hn : hmY b k a = n) (h1 : b = 0) (h2 : ¬ k = 0) (h3 : a ≤ 1400) (h4 : ¬ b1 = 0 ∨ k1 = 0 ∨ a < a1) : hmY b1 k1 a1 < n := by
  subst hn
  have e : hmY b k a = (1401 - a).toNat := if_pos ⟨h1, h2⟩
  rw [e]
  unfold hmY
  split <;> omega
/-- the changes, in fours -/
def Q4 (f : Nat → Int32) : Prop := ∀ j : Nat, j < 200 → (0 ≤ (f (4 * j + 1)).toInt ∧ (f (4 * j + 1)).toInt ≤ 35) ∧ ((f (4 * j)).toInt = 1 → (f (4 * j + 1)).toInt ≤ 6) ∧ ((f (4 * j)).toInt = 0 → (f (4 * j + 1)).toInt ≤ 8 ∧ 0 ≤ (f (4 * j + 2)).toInt)
theorem Q4.a {f : Nat → Int32} (h : Q4 f) {a b : Int} (ha : 0 ≤ a ∧ a < 800 ∧ a % 4 = 0) (hb : b = a + 1) : (0 ≤ (f b.toNat).toInt ∧ (f b.toNat).toInt ≤ 35) ∧ ((f a.toNat).toInt = 1 → (f b.toNat).toInt ≤ 6) ∧ ((f a.toNat).toInt = 0 → (f b.toNat).toInt ≤ 8) := by
  have e1 : a.toNat = 4 * (a.toNat / 4) := by omega
  have e2 : b.toNat = a.toNat + 1 := by omega
  have h1 := h (a.toNat / 4) (by omega)
  rw [← e1, ← e2] at h1
  exact ⟨h1.1, h1.2.1, fun q => (h1.2.2 q).1⟩
theorem Q4.b {f : Nat → Int32} (h : Q4 f) {a c : Int} (ha : 0 ≤ a ∧ a < 800 ∧ a % 4 = 0) (hc : c = a + 2) : (f a.toNat).toInt = 0 → 0 ≤ (f c.toNat).toInt := by
  have e1 : a.toNat = 4 * (a.toNat / 4) := by omega
  have e2 : c.toNat = a.toNat + 2 := by omega
  have h1 := h (a.toNat / 4) (by omega)
  rw [← e1, ← e2] at h1
  exact fun q => (h1.2.2 q).2
theorem Q4.set {f f1 f2 f3 f4 : Nat → Int32} (h : Q4 f) {a b c d : Int} {x y z w : Int32} (ha : 0 ≤ a ∧ a < 800 ∧ a % 4 = 0) (hb : b = a + 1) (hc : c = a + 2) (hd : d = a + 3) (e1 : f1 = upd f a.toNat x) (e2 : f2 = upd f1 b.toNat y) (e3 : f3 = upd f2 c.toNat z) (e4 : f4 = upd f3 d.toNat w) (hxy : (0 ≤ y.toInt ∧ y.toInt ≤ 35) ∧ (x.toInt = 1 → y.toInt ≤ 6) ∧ (x.toInt = 0 → y.toInt ≤ 8 ∧ 0 ≤ z.toInt)) : Q4 f4 := by
  intro j hj
  subst e1; subst e2; subst e3; subst e4
  by_cases e : j = a.toNat / 4
  · have g1 : 4 * j = a.toNat := by omega
    have g2 : 4 * j + 1 = b.toNat := by omega
    have g3 : 4 * j + 2 = c.toNat := by omega
    have n1 : a.toNat ≠ d.toNat := by omega
    have n2 : a.toNat ≠ c.toNat := by omega
    have n3 : a.toNat ≠ b.toNat := by omega
    have n4 : b.toNat ≠ d.toNat := by omega
    have n5 : b.toNat ≠ c.toNat := by omega
    have n6 : c.toNat ≠ d.toNat := by omega
    rw [g3, g2, g1, pk_un n1, pk_un n2, pk_un n3, pk_us, pk_un n4, pk_un n5, pk_us, pk_un n6, pk_us]
    exact hxy
  · have n : ∀ i : Nat, i < 3 → 4 * j + i ≠ a.toNat ∧ 4 * j + i ≠ b.toNat ∧ 4 * j + i ≠ c.toNat ∧ 4 * j + i ≠ d.toNat := by
      intro i hi; omega
    have g : ∀ i : Nat, i < 3 → upd (upd (upd (upd f a.toNat x) b.toNat y) c.toNat z) d.toNat w (4 * j + i) = f (4 * j + i) := by
      intro i hi
      obtain ⟨m1, m2, m3, m4⟩ := n i hi
      rw [pk_un m4, pk_un m3, pk_un m2, pk_un m1]
    have g0 := g 0 (by omega)
    rw [Nat.add_zero] at g0
    rw [g0, g 1 (by omega), g 2 (by omega)]
    exact h j hj
/-- so much of a block is copied to another -/
def Cq (f0 f : Nat → Int32) (a b k : Int) : Prop := ∀ i : Nat, (160 * b ≤ i → i < 160 * b + k → f i = f0 (i - 160 * b + 160 * a).toNat) ∧ (¬ (160 * b ≤ i ∧ i < 160 * b + k) → f i = f0 i)
theorem Cq.zero {f : Nat → Int32} {a b : Int} : Cq f f a b 0 := by
  intro i
  exact ⟨fun h1 h2 => by omega, fun _ => rfl⟩
theorem Cq.step {f0 f f1 : Nat → Int32} {a b k s d k1 : Int} {x : Int32} (h : Cq f0 f a b k) (hab : ¬ a = b) (h0 : 0 ≤ a ∧ 0 ≤ b ∧ 0 ≤ k ∧ k < 160) (hs : s = 160 * a + k) (hd : d = 160 * b + k) (hk : k1 = k + 1) (ex : x = f s.toNat) (e1 : f1 = upd f d.toNat x) : Cq f0 f1 a b k1 := by
  subst hk
  intro i
  have hx : x = f0 s.toNat := by
    rw [ex]
    exact (h s.toNat).2 (by omega)
  by_cases e : i = d.toNat
  · subst e
    rw [e1, pk_us]
    refine ⟨fun _ _ => ?_, fun q => by omega⟩
    rw [hx]
    congr 1
    omega
  · rw [e1, pk_un e]
    refine ⟨fun q1 q2 => (h i).1 q1 (by omega), fun q => (h i).2 (by omega)⟩
theorem Cq.q4 {f0 f : Nat → Int32} {a b k : Int} (h : Cq f0 f a b k) (hk : k = 160) (h0 : 0 ≤ a ∧ a ≤ 4 ∧ 0 ≤ b ∧ b ≤ 4) (q : Q4 f0) : Q4 f := by
  subst hk
  intro j hj
  by_cases e : 160 * b ≤ 4 * j ∧ (4 * j : Int) < 160 * b + 160
  · have g : ∀ i : Nat, i < 3 → f (4 * j + i) = f0 (4 * (j - 40 * b + 40 * a).toNat + i) := by
      intro i hi
      rw [(h (4 * j + i)).1 (by omega) (by omega)]
      congr 1
      omega
    have g0 := g 0 (by omega)
    rw [Nat.add_zero, Nat.add_zero] at g0
    rw [g0, g 1 (by omega), g 2 (by omega)]
    exact q _ (by omega)
  · have g : ∀ i : Nat, i < 3 → f (4 * j + i) = f0 (4 * j + i) := by
      intro i hi
      exact (h (4 * j + i)).2 (by omega)
    have g0 := g 0 (by omega)
    rw [Nat.add_zero] at g0
    rw [g0, g 1 (by omega), g 2 (by omega)]
    exact q j hj
/-- a SLOT's numbers, each other one an EXIT's -/
def Sn (f : Nat → Int64) (b n : Int) : Prop := ∀ j : Nat, j % 2 = 0 → (j : Int) < n → 0 ≤ (f (b + j).toNat).toInt ∧ (f (b + j).toNat).toInt ≤ 6
theorem Sn.zero {f : Nat → Int64} {b : Int} : Sn f b 0 := fun j _ h => by omega
theorem Sn.step {f : Nat → Int64} {b k k1 s : Int} {x : Int64} (h : Sn f b k) (hk : 0 ≤ k ∧ k % 2 = 0) (h1 : k1 = k + 2) (hs : s = b + k) (ex : x = f s.toNat) (hx : 0 ≤ x.toInt ∧ x.toInt ≤ 6) : Sn f b k1 := by
  intro j hj hl
  by_cases e : (j : Int) < k
  · exact h j hj e
  · have e2 : (j : Int) = k := by omega
    rw [e2, ← hs, ← ex]
    exact hx
theorem Sn.at {f : Nat → Int64} {b n k s : Int} {x : Int64} (h : Sn f b n) (hk : 0 ≤ k ∧ k % 2 = 0 ∧ k < n) (hs : s = b + k) (ex : x = f s.toNat) : 0 ≤ x.toInt ∧ x.toInt ≤ 6 := by
  have h1 := h k.toNat (by omega) (by omega)
  have e : b + (k.toNat : Int) = s := by omega
  rw [e, ← ex] at h1
  exact h1
/-! the search: a tree -/
def Ov (f : Nat → Int32) (n : Int) : Prop := ¬ (f n.toNat).toInt = -1
def Mo (f g : Nat → Int32) : Prop := ∀ i : Nat, ¬ (f i).toInt = -1 → ¬ (g i).toInt = -1
theorem Mo.rf {f : Nat → Int32} : Mo f f := fun _ h => h
theorem Mo.ov {f g : Nat → Int32} {n : Int} (h : Mo f g) (h1 : Ov f n) : Ov g n := h _ h1
def Z1 (k : Int) (f : Nat → Int32) : Prop := ∀ i : Nat, (i : Int) < k → (f i).toInt = -1
theorem Z1.zero {f : Nat → Int32} : Z1 0 f := fun i h => by omega
theorem Z1.step {f f1 : Nat → Int32} {k k1 : Int} {x : Int32} (h : Z1 k f) (hk : 0 ≤ k) (h1 : k1 = k + 1) (hx : x.toInt = -1) (e : f1 = upd f k.toNat x) : Z1 k1 f1 := by
  intro i hi
  rw [e]
  by_cases q : i = k.toNat
  · subst q; rw [pk_us]; exact hx
  · rw [pk_un q]; exact h i (by omega)
def cnY (f : Nat → Int32) : Nat → Nat
  | 0 => 0
  | n + 1 => cnY f n + (if (f n).toInt = -1 then 0 else 1)
theorem cn_le (f : Nat → Int32) (n : Nat) : cnY f n ≤ n := by
  induction n with
  | zero => exact Nat.le_refl _
  | succ n ih => simp only [cnY]; split <;> omega
theorem cn_zero {f : Nat → Int32} {n : Nat} (h : ∀ i : Nat, i < n → (f i).toInt = -1) : cnY f n = 0 := by
  induction n with
  | zero => rfl
  | succ n ih =>
    simp only [cnY]
    rw [ih (fun i hi => h i (by omega)), if_pos (h n (by omega))]
theorem cn_lt {f : Nat → Int32} {n k : Nat} (hk : k < n) (h : (f k).toInt = -1) : cnY f n < n := by
  induction n with
  | zero => omega
  | succ n ih =>
    simp only [cnY]
    by_cases e : k = n
    · subst e
      rw [if_pos h]
      have := cn_le f k
      omega
    · have := ih (by omega)
      split <;> omega
theorem cn_same {f : Nat → Int32} {n k : Nat} {x : Int32} (hk : n ≤ k) : cnY (upd f k x) n = cnY f n := by
  induction n with
  | zero => rfl
  | succ n ih =>
    simp only [cnY]
    rw [ih (by omega), pk_un (by omega)]
theorem cn_up {f : Nat → Int32} {n k : Nat} {x : Int32} (hk : k < n) (h : (f k).toInt = -1) (hx : ¬ x.toInt = -1) : cnY (upd f k x) n = cnY f n + 1 := by
  induction n with
  | zero => omega
  | succ n ih =>
    simp only [cnY]
    by_cases e : k = n
    · subst e
      rw [cn_same (Nat.le_refl _), pk_us, if_neg hx, if_pos h]
    · rw [ih (by omega), pk_un (fun q => e q.symm)]
      omega
def Tr (M : Int) (f e : Nat → Int32) (rk : Nat → Nat) : Prop := ∀ i : Nat, (i : Int) < M → ¬ (f i).toInt = -1 → 0 ≤ (f i).toInt ∧ (f i).toInt < M ∧ Ov f (f i).toInt ∧ ((f i).toInt = i ∨ (0 ≤ (e i).toInt ∧ (e i).toInt ≤ 6 ∧ rk (f i).toInt.toNat < rk i))
def Te (M : Int) (f e : Nat → Int32) : Prop := ∃ rk : Nat → Nat, Tr M f e rk
theorem Tr.at {M : Int} {f e : Nat → Int32} {rk : Nat → Nat} (h : Tr M f e rk) {n : Int} {x : Int32} (hn : 0 ≤ n ∧ n < M) (ho : Ov f n) (ex : x = f n.toNat) : (0 ≤ x.toInt ∧ x.toInt < M) ∧ Ov f x.toInt ∧ (x.toInt = n ∨ ((0 ≤ (e n.toNat).toInt ∧ (e n.toNat).toInt ≤ 6) ∧ rk x.toInt.toNat < rk n.toNat)) := by
  have h1 := h n.toNat (by omega) ho
  rw [← ex] at h1
  refine ⟨⟨h1.1, h1.2.1⟩, h1.2.2.1, ?_⟩
  rcases h1.2.2.2 with q | q
  · exact Or.inl (by omega)
  · exact Or.inr ⟨⟨q.1, q.2.1⟩, q.2.2⟩
def SkY (M q : Int) (f e u : Nat → Int32) : Prop := q = cnY f M.toNat ∧ Te M f e ∧ ∀ i : Nat, (i : Int) < q → 0 ≤ (u i).toInt ∧ (u i).toInt < M ∧ Ov f (u i).toInt
theorem SkY.te {M q : Int} {f e u : Nat → Int32} (h : SkY M q f e u) : Te M f e := h.2.1
theorem SkY.nil {M k : Int} {f e u : Nat → Int32} (hk : M ≤ k) (h : Z1 k f) : SkY M 0 f e u := by
  refine ⟨?_, ⟨fun _ => 0, fun i hi q => absurd (h i (by omega)) q⟩, fun i hi => by omega⟩
  rw [cn_zero (fun i hi => h i (by omega))]; rfl
theorem SkY.at {M q : Int} {f e u : Nat → Int32} (h : SkY M q f e u) {k : Int} {x : Int32} (hk : 0 ≤ k ∧ k < q) (ex : x = u k.toNat) : (0 ≤ x.toInt ∧ x.toInt < M) ∧ Ov f x.toInt := by
  have h1 := h.2.2 k.toNat (by omega)
  rw [← ex] at h1
  exact ⟨⟨h1.1, h1.2.1⟩, h1.2.2⟩
theorem SkY.le {M q : Int} {f e u : Nat → Int32} (h : SkY M q f e u) (hM : 0 ≤ M) : 0 ≤ q ∧ q ≤ M := by
  have h1 := cn_le f M.toNat
  have h2 := h.1
  omega
theorem SkY.room {M q : Int} {f e u : Nat → Int32} (h : SkY M q f e u) {n : Int} (hn : 0 ≤ n ∧ n < M) (hx : (f n.toNat).toInt = -1) : 0 ≤ q ∧ q < M := by
  have h1 := cn_lt (f := f) (n := M.toNat) (k := n.toNat) (by omega) hx
  have h2 := h.1
  omega
theorem SkY.visit {M q q1 : Int} {f e u f1 e1 u1 : Nat → Int32} {n : Int} {x y z : Int32} (h : SkY M q f e u) (hn : 0 ≤ n ∧ n < M) (hx : (f n.toNat).toInt = -1) (hb : x.toInt = n ∨ ((0 ≤ x.toInt ∧ x.toInt < M) ∧ Ov f x.toInt ∧ 0 ≤ y.toInt ∧ y.toInt ≤ 6)) (hz : z.toInt = n) (hq : q1 = q + 1) (g1 : f1 = upd f n.toNat x) (g2 : e1 = upd e n.toNat y) (g3 : u1 = upd u q.toNat z) : SkY M q1 f1 e1 u1 ∧ Mo f f1 := by
  subst hq
  have hx0 : ¬ x.toInt = -1 := by
    rcases hb with p | p
    · omega
    · omega
  have hmo : Mo f f1 := by
    intro i hi
    rw [g1]
    by_cases p : i = n.toNat
    · subst p; rw [pk_us]; exact hx0
    · rw [pk_un p]; exact hi
  have hov : Ov f1 n := by
    show ¬ (f1 n.toNat).toInt = -1
    rw [g1, pk_us]; exact hx0
  have h0 := h.room hn hx
  refine ⟨⟨?_, ?_, ?_⟩, hmo⟩
  · rw [g1, cn_up (by omega) hx hx0]
    have := h.1
    omega
  · obtain ⟨rk, hr⟩ := h.2.1
    refine ⟨fun i => if i = n.toNat then rk x.toInt.toNat + 1 else rk i, ?_⟩
    intro i hi hne
    by_cases p : i = n.toNat
    · subst p
      have ef : f1 n.toNat = x := by rw [g1, pk_us]
      have ee : e1 n.toNat = y := by rw [g2, pk_us]
      rw [ef, ee]
      rcases hb with b | b
      · refine ⟨by omega, by omega, ?_, Or.inl (by omega)⟩
        rw [b]; exact hov
      · refine ⟨b.1.1, b.1.2, hmo.ov b.2.1, ?_⟩
        by_cases c : x.toInt.toNat = n.toNat
        · exact absurd (by rw [c]; exact hx) b.2.1
        · refine Or.inr ⟨b.2.2.1, b.2.2.2, ?_⟩
          show (if x.toInt.toNat = n.toNat then _ else rk x.toInt.toNat) < (if n.toNat = n.toNat then _ else _)
          rw [if_neg c, if_pos rfl]
          omega
    · have ef : f1 i = f i := by rw [g1, pk_un p]
      have ee : e1 i = e i := by rw [g2, pk_un p]
      rw [ef] at hne
      obtain ⟨a1, a2, a3, a4⟩ := hr i hi hne
      rw [ef, ee]
      refine ⟨a1, a2, hmo.ov a3, ?_⟩
      rcases a4 with a4 | a4
      · exact Or.inl a4
      · refine Or.inr ⟨a4.1, a4.2.1, ?_⟩
        have c : (f i).toInt.toNat ≠ n.toNat := fun c => a3 (by rw [c]; exact hx)
        show (if (f i).toInt.toNat = n.toNat then _ else rk (f i).toInt.toNat) < (if i = n.toNat then _ else rk i)
        rw [if_neg c, if_neg p]
        exact a4.2.2
  · intro i hi
    by_cases p : i = q.toNat
    · subst p
      rw [g3, pk_us, hz]
      exact ⟨hn.1, hn.2, hov⟩
    · rw [g3, pk_un p]
      have h1 := h.2.2 i (by omega)
      exact ⟨h1.1, h1.2.1, hmo.ov h1.2.2⟩
theorem Sn.le {f : Nat → Int64} {b k n : Int} (h : Sn f b k) (hk : n ≤ k) : Sn f b n := fun j hj hl => h j hj (by omega)
/-- what row() does to the SLOTS -/
def Rw (r a b c : Int) (w n w1 n1 : Nat → Int32) : Prop := (r = 0 → (∀ i : Nat, ¬ (i : Int) = a → (w1 i).toInt = (w i).toInt ∧ (n1 i).toInt = (n i).toInt) ∧ (w1 a.toNat).toInt = b ∧ (n1 a.toNat).toInt = c) ∧ (¬ r = 0 → ∀ i : Nat, (w1 i).toInt = (w i).toInt ∧ (n1 i).toInt = (n i).toInt)
theorem Rw.same {r a b c : Int} {w n : Nat → Int32} (h : ¬ r = 0) : Rw r a b c w n w n := ⟨fun q => absurd q h, fun _ _ => ⟨rfl, rfl⟩⟩
theorem Rw.set {r a b c : Int} {w n w1 n1 : Nat → Int32} {x y : Int32} (hr : r = 0) (ha : 0 ≤ a) (e1 : w1 = upd w a.toNat x) (e2 : n1 = upd n a.toNat y) (hx : x.toInt = b) (hy : y.toInt = c) : Rw r a b c w n w1 n1 := by
  refine ⟨fun _ => ⟨fun i hi => ?_, ?_, ?_⟩, fun q => absurd hr q⟩
  · have : i ≠ a.toNat := by omega
    rw [e1, e2, pk_un this, pk_un this]
    exact ⟨rfl, rfl⟩
  · rw [e1, pk_us]; exact hx
  · rw [e2, pk_us]; exact hy
/-- what image() does to the marks -/
def Kp (r a : Int) (f f1 : Nat → Int32) : Prop := (r = 0 → (∀ i : Nat, ¬ (i : Int) = a → (f1 i).toInt = (f i).toInt) ∧ (f1 a.toNat).toInt = 1) ∧ (¬ r = 0 → ∀ i : Nat, (f1 i).toInt = (f i).toInt)
theorem Kp.same {r a : Int} {f : Nat → Int32} (h : ¬ r = 0) : Kp r a f f := ⟨fun q => absurd q h, fun _ _ => rfl⟩
theorem Kp.set {r a : Int} {f f1 : Nat → Int32} {x : Int32} (hr : r = 0) (ha : 0 ≤ a) (e1 : f1 = upd f a.toNat x) (hx : x.toInt = 1) : Kp r a f f1 := by
  refine ⟨fun _ => ⟨fun i hi => ?_, ?_⟩, fun q => absurd hr q⟩
  · have : i ≠ a.toNat := by omega
    rw [e1, pk_un this]
  · rw [e1, pk_us]; exact hx
def sel4 (k a b c d : Int) : Int := if k = 0 then a else if k = 1 then b else if k = 2 then c else d
section RZ9
variable {p : Program} {l : Launch} {e : Env} {R : Room} {s : State} {m : MethodId} {args : Array Value} {below : List Frame} {meth : Method} {c : Code} {H H0 : Heap} {locs : List Loc} {cells slots : Nat} {Q : State → Prop}
variable {cc : ByteArray} {pc : Nat} {ls : Array Slot} {rest : List Value} {G : va_G} {t : Nat → ClassId} {ws : va_W} {A : Nat → Prop} {a n : Nat}
theorem sh9 (hx : p.tables.exec = Jvm.exec) (hb : c.code = cc) {y : Int32} (hdg : decode cc pc = .ok (.ishl, 1)) (yz : Int) (ey : y.toInt = yz) (h : 0 ≤ yz ∧ yz ≤ 9) (kk : ∀ v : Int32, 1 ≤ v.toInt ∧ v.toInt ≤ 512 → W p l e R s m args below meth c H locs cells slots Q (F0 m (pc + 1) ls (.int v :: rest))) : W p l e R s m args below meth c H locs cells slots Q (F0 m pc ls (.int y :: .int 1 :: rest)) :=
  lv_ishl hx hb hdg (kk _ (zsh9 (by subst ey; exact h)))
end RZ9

/-! ===== one list of array classes, the links between nest mates, contracts of one shape ===== -/
/-- the array classes of the system: bytes, ints, longs, booleans, Halls, Slots -/
abbrev tyL (t : Nat → ClassId) : List (ClassId × FieldType) := [(t 0, .byte), (t 1, .int), (t 2, .long), (t 3, .boolean), (t 4, .object "MovingExits$Hall"), (t 5, .object "MovingExits$Slot")]
abbrev tyK (G : va_G) (t : Nat → ClassId) (U : State) : Prop := va_K G vwCl (tyL t) U
theorem tyK_same {G : va_G} {cl : List vw_C} {tys : List (ClassId × FieldType)} {cA cB : ClassId} {ty : FieldType} {U : State} (h : va_K G cl (tys ++ [(cA, ty)]) U) (k : Nat) (hk : tys[k]? = some (cB, ty)) : cA = cB := by
  have h1 := (h.2 tys.length (cA, ty) (by simp)).2
  have h2 := (h.2 k (cB, ty) (by
    rw [List.getElem?_append_left (List.getElem?_eq_some_iff.mp hk).1]; exact hk)).2
  dsimp only at h1 h2
  cases ty with
  | object C =>
    obtain ⟨_, _, _, _, _, e1⟩ := h1
    obtain ⟨_, _, _, _, _, e2⟩ := h2
    rw [e1] at e2
    exact Option.some.inj e2
  | _ =>
    have e1 : U.vm.findClass _ = some cA := h1
    have e2 : U.vm.findClass _ = some cB := h2
    rw [e1] at e2
    exact Option.some.inj e2
/-- the links between nest mates -/
def nestL : List Cond := [.methodLinkNest RX11 9 yX10_init RX11, .methodLinkNest RX11 32 yX5_init RX11, .methodLinkNest RX5 38 yX1_init RX11, .methodLinkNest RX11 40 yX8_init RX11, .methodLinkNest RX11 84 yX9_init RX11, .methodLinkNest RX6 134 yX11_spotOf RX11, .methodLinkNest RX5 79 yX11_spotBit RX11, .methodLinkNest RX0 50 yX11_bit RX11, .methodLinkNest RX5 102 yX11_bit RX11, .methodLinkNest RX0 85 yX11_spotOf RX11, .methodLinkNest RX7 123 yX11_spotOf RX11, .methodLinkNest RX5 89 yX11_spotOf RX11, .methodLinkNest RX7 84 yX11_spotBit RX11, .methodLinkNest RX9 54 yX11_spotOf RX11, .methodLinkNest RX9 60 yX11_spotBit RX11, .methodLinkNest RX9 64 yX11_bit RX11, .methodLinkNest RX2 48 yX11_isBehind RX11, .methodLinkNest RX2 59 yX11_spotOf RX11, .methodLinkNest RX3 54 yX11_isBehind RX11]
def nestOK (U : State) : Prop := (∀ w ∈ nestL, va_Nw w U) ∧ va_AO RX5 U ∧ va_AO RX8 U
theorem nestL_in : ∀ w ∈ nestL, w ∈ lw_tbl := by decide +kernel
theorem nestOK.warm {s U : State} (hW : s.WarmedH U.vm) (h : nestOK s) : nestOK U := by
  refine ⟨?_, h.2.1.moved hW.alike, h.2.2.moved hW.alike⟩
  intro w hw
  have h1 := h.1 w hw
  simp only [nestL, List.mem_cons, List.not_mem_nil, or_false] at hw
  rcases hw with rfl | rfl | rfl | rfl | rfl | rfl | rfl | rfl | rfl | rfl | rfl | rfl | rfl | rfl | rfl | rfl | rfl | rfl | rfl <;> exact va_Nw.warmM hW h1
theorem nestOK.calling {U : State} (h : nestOK U) (g : JFrame) (mk : MethodId) (a : Array Value) : nestOK (U.calling g mk a) := by
  refine ⟨fun w hw => va_Nw.same (u := U) (U := U.calling g mk a) ?_ rfl (h.1 w hw), h.2.1.moved (Vm.Alike.refl U.vm), h.2.2.moved (Vm.Alike.refl U.vm)⟩
  simp only [nestL, List.mem_cons, List.not_mem_nil, or_false] at hw
  rcases hw with rfl | rfl | rfl | rfl | rfl | rfl | rfl | rfl | rfl | rfl | rfl | rfl | rfl | rfl | rfl | rfl | rfl | rfl | rfl <;> rfl
/-- what a method finds: its cells, the classes, the links -/
def cPre (G : va_G) (t : Nat → ClassId) (av : List Value) (wc : va_W) (sz : Nat) : Array Value → State → Prop := va_Pc av (fun U => U.heap.size = sz ∧ va_P G vwCl wc U.heap ∧ tyK G t U ∧ nestOK U ∧ va_D (fun _ => True) wc)
def QI (G : va_G) {S : Type} (post : Int32 → S → Prop) (w1 : S → va_W) (A : Nat → Prop) : Array Value → State → Outcome → State → Prop := va_Qi post (fun u T => va_P G vwCl (w1 u) T.heap ∧ va_D A (w1 u)) A
def QL (G : va_G) {S : Type} (post : Int64 → S → Prop) (w1 : S → va_W) (A : Nat → Prop) : Array Value → State → Outcome → State → Prop := va_Ql post (fun u T => va_P G vwCl (w1 u) T.heap ∧ va_D A (w1 u)) A
def QV (G : va_G) {S : Type} (post : S → Prop) (w1 : S → va_W) (A : Nat → Prop) : Array Value → State → Outcome → State → Prop := va_Qv post (fun u T => va_P G vwCl (w1 u) T.heap ∧ va_D A (w1 u)) A
def Ct (l : Launch) (G : va_G) (t : Nat → ClassId) (y : MethodName) (c : ByteArray) (n : Nat) (rt : Option FieldType) (rm : Room) (av : List Value) (wc : va_W) (Qf : (Nat → Prop) → Array Value → State → Outcome → State → Prop) : Prop := ∀ sz, Met l y (Cond.code y c n rt :: TB) rm (cPre G t av wc sz) (Qf (va_A wc sz)) rm.cells rm.slots (va_A wc sz)
theorem cPre_blind {G : va_G} {t : Nat → ClassId} {av : List Value} {wc : va_W} {sz : Nat} : FrameBlind (cPre G t av wc sz) := fun a U g mk q => by
  obtain ⟨q0, q1, qP, qK, qN, qD⟩ := q
  exact ⟨q0, q1, qP, va_K.moved (u := U) (U := U.calling g mk a) (Vm.Alike.refl U.vm) qK, qN.calling g mk a, qD⟩
theorem ent {l : Launch} {G : va_G} {t : Nat → ClassId} {y : MethodName} {cc : ByteArray} {n : Nat} {rt : Option FieldType} {rm : Room} {av : List Value} {wc : va_W} {Qf : (Nat → Prop) → Array Value → State → Outcome → State → Prop} (hy : plainName y.cls = true) (hn : (lg_sl av).length ≤ n)
    (body : ∀ (p : Program) (e : Env) (s : State) (m : MethodId) (args : Array Value) (below : List Frame) (meth : Method) (c : Code), p.tables.exec = Jvm.exec → c.code = cc → meth.sig.returnType = rt → c.maxLocals = n → (∀ w ∈ TB, w.before args s = true) → s.vm.findClass y.cls = some m.cls → meth.locks = false → meth.name = y.name → ∀ A : Nat → Prop, (∀ q : Nat, s.heap.size ≤ q → A q) → tyK G t s → nestOK s → va_P G vwCl wc s.heap → va_D A wc → va_S A s.heap s.heap [] → ∀ ls : Array Slot, lv_has ls n (lv_args 0 av) →
      W p l e rm s m args below meth c s.heap [] 0 0 (MQ below (Qf A) args s rm.cells rm.slots A) (F0 m 0 ls [])) : Ct l G t y cc n rt rm av wc Qf := by
  intro sz
  refine Met.ofW (cc := cc) (maxL := n) (ret := rt) hy rfl ?_
  intro p e s m args below meth c s₁ B hml hv
  obtain ⟨rfl, hsz, hP, hK, hN, hD0⟩ := hv
  subst hsz
  have hD := hD0.self (sz := s.heap.size)
  have hl := lv_entry av (n := n) hn
  rw [lg_entry_eq]
  exact body p e s m av.toArray below meth c B.exec B.bytes B.returns hml (fun w h => atoms_spec (ws := Cond.code y cc n rt :: TB) B.pre w (List.mem_cons_of_mem _ h)) (findClass_of_methodNamed B.named) B.notSynchronized (name_of_methodNamed B.named B.method).1 (va_A wc s.heap.size) (fun q h => Or.inr h) hK hN hP hD va_S.rf _ hl
section RW
variable {p : Program} {l : Launch} {e : Env} {R : Room} {s : State} {m : MethodId} {args : Array Value} {below : List Frame} {meth : Method} {c : Code} {H H0 : Heap} {locs : List Loc} {cells slots : Nat} {Q : State → Prop}
variable {cc : ByteArray} {pc : Nat} {ls : Array Slot} {rest : List Value} {G : va_G} {t : Nat → ClassId} {ws wc wr : va_W} {A : Nat → Prop} {own : String} {index a b nL : Nat} {S : Type}
theorem gf (hx : p.tables.exec = Jvm.exec) (hb : c.code = cc) (hts : ∀ w ∈ TB, w.before args s = true) (hown : s.vm.findClass own = some m.cls) (hK : tyK G t s) (hP : va_P G vwCl ws H) (q0 : Nat) {ci N : Nat} {C : String} {T : u_T} {fs : List Value} (hin : ∀ w ∈ u_ws C T N, w ∈ TB) (he : ws[q0]? = some (a, .inr (ci, fs))) (hc : vwCl[ci]? = some (C, T, N)) (k : Nat) (hk : k < N) (hlink : Cond.fieldLink own index (T k).1 (T k).2.1 (T k).2.2.1 ∈ TB) {v : Value} (hv : fs[k]? = some v) (hdg : decode cc pc = .ok (.getfield index, 3))
    (kk : W p l e R s m args below meth c H locs cells slots Q (F0 m (pc + 3) ls (v :: rest))) : W p l e R s m args below meth c H locs cells slots Q (F0 m pc ls (.ref a :: rest)) :=
  va_get hx hb hts hin hown hK hP q0 he hc k hk (hts _ hlink) (fun _ h => h) hv hdg kk
theorem pf (hx : p.tables.exec = Jvm.exec) (hb : c.code = cc) (hts : ∀ w ∈ TB, w.before args s = true) (hown : s.vm.findClass own = some m.cls) (hK : tyK G t s) (hP : va_P G vwCl ws H) (hD : va_D A ws) (hS : va_S A H0 H locs) (q0 : Nat) {ci N : Nat} {C : String} {T : u_T} {fs : List Value} (hin : ∀ w ∈ u_ws C T N, w ∈ TB) {ty0 : Nat → FieldType} (hty : ∀ k, k < N → parseFieldDescriptor (T k).2.2.1 = some (ty0 k)) (hnm : ∀ a, a < N → ∀ b, b < N → a ≠ b → (T a).2.1 ≠ (T b).2.1) (he : ws[q0]? = some (a, .inr (ci, fs))) (hc : vwCl[ci]? = some (C, T, N)) (k : Nat) (hk : k < N) (hlink : Cond.fieldLink own index (T k).1 (T k).2.1 (T k).2.2.1 ∈ TB) (hfin : (T k).2.2.2 = false) {v : Value} (hn : narrow (ty0 k) v = v) (hfit : fits (ty0 k) v = true) (hl : k < fs.length) (hdg : decode cc pc = .ok (.putfield index, 3)) {ws' : va_W} (hw : ws.set q0 (a, .inr (ci, fs.set k v)) = ws')
    (kk : ∀ (H1 : Heap) (locs1 : List Loc), va_P G vwCl ws' H1 → va_D A ws' → va_S A H0 H1 locs1 → W p l e R s m args below meth c H1 locs1 cells slots Q (F0 m (pc + 3) ls rest)) : W p l e R s m args below meth c H locs cells slots Q (F0 m pc ls (v :: .ref a :: rest)) := by
  subst hw
  exact va_put hx hb hts hin ty0 hty hnm hown hK hP hD hS q0 he hc k hk (hts _ hlink) (fun _ h => h) hfin (hty k hk) hn hfit hl hdg kk
theorem pfF (hx : p.tables.exec = Jvm.exec) (hb : c.code = cc) (hts : ∀ w ∈ TB, w.before args s = true) (hown : s.vm.findClass own = some m.cls) (hK : tyK G t s) (hP : va_P G vwCl ws H) (hD : va_D A ws) (hS : va_S A H0 H locs) (q0 : Nat) {ci N : Nat} {C : String} {T : u_T} {fs : List Value} (hin : ∀ w ∈ u_ws C T N, w ∈ TB) {ty0 : Nat → FieldType} (hty : ∀ k, k < N → parseFieldDescriptor (T k).2.2.1 = some (ty0 k)) (hnm : ∀ a, a < N → ∀ b, b < N → a ≠ b → (T a).2.1 ≠ (T b).2.1) (he : ws[q0]? = some (a, .inr (ci, fs))) (hc : vwCl[ci]? = some (C, T, N)) (k : Nat) (hk : k < N) (hlink : Cond.fieldLink own index (T k).1 (T k).2.1 (T k).2.2.1 ∈ TB) (hfin : (T k).2.2.2 = true) (hin2 : meth.name = "<init>") (hdecl : (T k).1 = own) {v : Value} (hn : narrow (ty0 k) v = v) (hfit : fits (ty0 k) v = true) (hl : k < fs.length) (hdg : decode cc pc = .ok (.putfield index, 3)) {ws' : va_W} (hw : ws.set q0 (a, .inr (ci, fs.set k v)) = ws')
    (kk : ∀ (H1 : Heap) (locs1 : List Loc), va_P G vwCl ws' H1 → va_D A ws' → va_S A H0 H1 locs1 → W p l e R s m args below meth c H1 locs1 cells slots Q (F0 m (pc + 3) ls rest)) : W p l e R s m args below meth c H locs cells slots Q (F0 m pc ls (v :: .ref a :: rest)) := by
  subst hw
  exact va_putF hx hb hts hin ty0 hty hnm hown hK hP hD hS q0 he hc k hk (hts _ hlink) (fun _ h => h) hfin hin2 hdecl (hty k hk) hn hfit hl hdg kk
theorem nw (hx : p.tables.exec = Jvm.exec) (hb : c.code = cc) (hts : ∀ w ∈ TB, w.before args s = true) (hown : s.vm.findClass own = some m.cls) (hK : tyK G t s) (hP : va_P G vwCl ws H) (hD : va_D A ws) (hS : va_S A H0 H locs) (hA : ∀ q, H0.size ≤ q → A q) {ci N : Nat} {C : String} {T : u_T} (hin : ∀ w ∈ u_ws C T N, w ∈ TB) {ty0 : Nat → FieldType} (hty : ∀ k, k < N → parseFieldDescriptor (T k).2.2.1 = some (ty0 k)) (hcl : Cond.classLink own index C ∈ TB) (hinst : Cond.instantiable C N ∈ TB) (hini : Cond.initialized C ∈ TB) (hc : vwCl[ci]? = some (C, T, N)) {fs : List Value} (hfs : ∀ j, j < N → defaultValue (ty0 j) = vp_V fs j) (hcells : cells + 1 ≤ R.cells) (hslots : slots + N ≤ R.slots) (hdg : decode cc pc = .ok (.new index, 3))
    (kk : ∀ (q : Nat) (H1 : Heap), va_P G vwCl (ws ++ [(q, .inr (ci, fs))]) H1 → va_D A (ws ++ [(q, .inr (ci, fs))]) → va_S A H0 H1 locs → W p l e R s m args below meth c H1 locs (cells + 1) (slots + N) Q (F0 m (pc + 3) ls (.ref q :: rest))) : W p l e R s m args below meth c H locs cells slots Q (F0 m pc ls rest) :=
  va_new hx hb hts hin ty0 hty hown (hts _ hcl) (hts _ hinst) (hts _ hini) hK hP hD hS hA hc hfs hcells hslots hdg kk
theorem nwa (hx : p.tables.exec = Jvm.exec) (hb : c.code = cc) (hts : ∀ w ∈ TB, w.before args s = true) (hK : tyK G t s) (hP : va_P G vwCl ws H) (hD : va_D A ws) (hS : va_S A H0 H locs) (hA : ∀ q, H0.size ≤ q → A q) {atype : ArrayType} {ty : FieldType} (harr : Cond.arrayClass ty ∈ TB) (hty : newarray.typeOf atype = ty) (kt : Nat) (hkt : (tyL t)[kt]? = some (t kt, ty)) {n : Int32} (N : Nat) (a0 : vp_A) (ha : ∀ cA : ClassId, vp_cell cA a0 = arrV cA N (fun _ => defaultValue ty)) (hn : ¬ n < 0) (hN : n.toNatClampNeg = N) (hbytes : N * componentBytes ty ≤ 536870912) (hcells : cells + 1 ≤ R.cells) (hslots : slots + N ≤ R.slots) (hdg : decode cc pc = .ok (.newarray atype, 2))
    (kk : ∀ (q : Nat) (H1 : Heap), va_P G vwCl (ws ++ [(q, .inl (t kt, a0))]) H1 → va_D A (ws ++ [(q, .inl (t kt, a0))]) → va_S A H0 H1 locs → W p l e R s m args below meth c H1 locs (cells + 1) (slots + N) Q (F0 m (pc + 2) ls (.ref q :: rest))) : W p l e R s m args below meth c H locs cells slots Q (F0 m pc ls (.int n :: rest)) := by
  subst hty
  refine va_newa hx hb (hts _ harr) rfl hK hP hD hS hA ha hn hN hbytes hcells hslots hdg (fun q cA H1 hK1 hP1 hD1 hS1 => ?_)
  obtain rfl := tyK_same hK1 kt hkt
  exact kk q H1 hP1 hD1 hS1
theorem nwq (hx : p.tables.exec = Jvm.exec) (hb : c.code = cc) (hts : ∀ w ∈ TB, w.before args s = true) (hown : s.vm.findClass own = some m.cls) (hK : tyK G t s) (hP : va_P G vwCl ws H) (hD : va_D A ws) (hS : va_S A H0 H locs) (hA : ∀ q, H0.size ≤ q → A q) {C : String} (hcl : Cond.classLink own index C ∈ TB) (hover : va_AO C s) (kt : Nat) (hkt : (tyL t)[kt]? = some (t kt, .object C)) {n : Int32} (N : Nat) (hn : ¬ n < 0) (hN : n.toNatClampNeg = N) (hbytes : N * 4 ≤ 536870912) (hcells : cells + 1 ≤ R.cells) (hslots : slots + N ≤ R.slots) (hdg : decode cc pc = .ok (.anewarray index, 3))
    (kk : ∀ (q : Nat) (H1 : Heap), va_P G vwCl (ws ++ [(q, .inl (t kt, N, .inr (.inr (.inr (.inr (fun _ => none))))))]) H1 → va_D A (ws ++ [(q, .inl (t kt, N, .inr (.inr (.inr (.inr (fun _ => none))))))]) → va_S A H0 H1 locs → W p l e R s m args below meth c H1 locs (cells + 1) (slots + N) Q (F0 m (pc + 3) ls (.ref q :: rest))) : W p l e R s m args below meth c H locs cells slots Q (F0 m pc ls (.int n :: rest)) := by
  refine va_newq hx hb hown (hts _ hcl) hover hK hP hD hS hA hn hN hbytes hcells hslots hdg (fun q cA H1 hK1 hP1 hD1 hS1 => ?_)
  obtain rfl := tyK_same hK1 kt hkt
  exact kk q H1 hP1 hD1 hS1
theorem obi (hx : p.tables.exec = Jvm.exec) (hb : c.code = cc) (hts : ∀ w ∈ TB, w.before args s = true) (hown : s.vm.findClass own = some m.cls) (hml : c.maxLocals = nL) (hsz : ls.size = nL) (hlink : Cond.methodLink own index objectInit ∈ TB) (hinst : Cond.instanceMethod objectInit ∈ TB) (hcode : Cond.code objectInit ⟨#[0xb1]⟩ 1 none ∈ TB) (hdg : decode cc pc = .ok (.invokespecial index, 3)) (hframes : 1 ≤ R.frames) (hlocals : (rest.map fun v => v.category).sum + 12 ≤ R.locals)
    (kk : W p l e R s m args below meth c H locs cells slots Q (F0 m (pc + 3) ls rest)) : W p l e R s m args below meth c H locs cells slots Q (F0 m pc ls (.ref a :: rest)) :=
  W.objInit hx hb hown (hts _ hlink) (hts _ hinst) (hts _ hcode) rfl (by rw [hml]; exact hsz) rfl hdg hframes (by show 2 * 0 + _ + 12 ≤ _; rw [Nat.mul_zero, Nat.zero_add]; exact hlocals) kk
/-- a call's own facts: its words, its descriptor -/
abbrev LkD (y : MethodName) (n : Nat) : Prop := y.cls ≠ "java/lang/invoke/MethodHandle" ∧ y.cls ≠ "java/lang/invoke/VarHandle" ∧ (parseMethodDescriptor y.desc).map (fun d => d.parameters.length) = some n
abbrev LkV (own : String) (index : Nat) (y : MethodName) (c : ByteArray) (n : Nat) (rt : Option FieldType) (k : Nat) : Prop := Cond.methodLink own index y ∈ TB ∧ Cond.instanceMethod y ∈ TB ∧ Cond.selects y.cls y y ∈ TB ∧ Cond.initialized y.cls ∈ TB ∧ Cond.code y c n rt ∈ TB ∧ LkD y k
abbrev LkS (own : String) (index : Nat) (y : MethodName) (c : ByteArray) (n : Nat) (rt : Option FieldType) (k : Nat) : Prop := Cond.methodLink own index y ∈ TB ∧ Cond.static y ∈ TB ∧ Cond.initialized y.cls ∈ TB ∧ Cond.code y c n rt ∈ TB ∧ LkD y k
abbrev LkI (own : String) (index : Nat) (y : MethodName) (c : ByteArray) (n : Nat) (k : Nat) : Prop := Cond.methodLink own index y ∈ TB ∧ Cond.instanceMethod y ∈ TB ∧ Cond.initialized y.cls ∈ TB ∧ Cond.code y c n none ∈ TB ∧ LkD y k
abbrev LkN (own : String) (index : Nat) (y : MethodName) (c : ByteArray) (n : Nat) (k : Nat) : Prop := Cond.methodLinkNest own index y RX11 ∈ nestL ∧ Cond.instanceMethod y ∈ TB ∧ Cond.initialized y.cls ∈ TB ∧ Cond.code y c n none ∈ TB ∧ LkD y k
abbrev LkSN (own : String) (index : Nat) (y : MethodName) (c : ByteArray) (n : Nat) (rt : Option FieldType) (k : Nat) : Prop := Cond.methodLinkNest own index y RX11 ∈ nestL ∧ Cond.static y ∈ TB ∧ Cond.initialized y.cls ∈ TB ∧ Cond.code y c n rt ∈ TB ∧ LkD y k
abbrev Cx (p : Program) (s : State) (m : MethodId) (args : Array Value) (c : Code) (cc : ByteArray) (nL : Nat) (own : String) (G : va_G) (t : Nat → ClassId) : Prop := p.tables.exec = Jvm.exec ∧ c.code = cc ∧ c.maxLocals = nL ∧ s.vm.findClass own = some m.cls ∧ (∀ w ∈ TB, w.before args s = true) ∧ tyK G t s ∧ nestOK s
variable {y : MethodName} {c2 : ByteArray} {n2 k2 : Nat} {rt2 : Option FieldType} {rm : Room} {As : List Value} {Qf : (Nat → Prop) → Array Value → State → Outcome → State → Prop}
theorem run_pre (C : Cx p s m args c cc nL own G t) (hP : va_P G vwCl wc H) (hD : va_D A wc) (av : List Value) : PreS s H (cPre G t av wc H.size) av :=
  ⟨cPre_blind, fun U hU hW => ⟨rfl, by rw [hU], by rw [hU]; exact hP, va_K.moved hW.alike C.2.2.2.2.2.1, C.2.2.2.2.2.2.warm hW, hD.weaken (fun _ _ _ _ => trivial)⟩⟩
theorem rnV (C : Cx p s m args c cc nL own G t) (hM : Ct l G t y c2 n2 rt2 rm (.ref b :: As) wc Qf) (L : LkV own index y c2 n2 rt2 k2) (hR : rm.frames + 1 ≤ R.frames ∧ 8 + (n2 + 11) + rm.locals ≤ R.locals) (hP : va_P G vwCl wc H) (hD : va_D A wc) (q0 ci : Nat) {q : vw_C} {fs : List Value} (hc : vwCl[ci]? = some q) (he : wc[q0]? = some (b, .inr (ci, fs))) (hcl : y.cls = q.1) (hn : As.length = k2) (hsz : ls.size = nL) {st0 : List Value} (hst : st0 = As.reverse ++ .ref b :: rest) (hW : (rest.map fun v => v.category).sum ≤ 8) (hdg : decode cc pc = .ok (.invokevirtual index, 3)) (hf : cells + rm.cells ≤ R.cells ∧ slots + rm.slots ≤ R.slots) :
    va_Run p l e R s m args below meth c H locs cells slots rm.cells rm.slots (F0 m pc ls st0) rest (Qf (va_A wc H.size) (Value.ref b :: As).toArray) (va_A wc H.size) := by
  obtain ⟨h1, h2, h3, h4, h5, h6⟩ := L
  have hts := C.2.2.2.2.1
  have hG := tb_law h5
  refine va_runV (C := y.cls) (As := As) ⟨C.1, C.2.1, C.2.2.1, C.2.2.2.1, hts⟩ (hM H.size) (⟨callB_of k2 hts hG rfl rfl rfl (hts _ h4) (hts _ h1) h6 hR, hts _ h2, hts _ h3⟩) ⟨cPre_blind, ?_, (run_pre C hP hD _).2⟩ rfl hn hsz hst ?_ hdg hf
  · rw [hcl]; exact va_recv C.2.2.2.2.2.1 hP hc he
  · show 2 * 0 + _ ≤ 8; rw [Nat.mul_zero, Nat.zero_add]; exact hW
theorem rnS (C : Cx p s m args c cc nL own G t) (hM : Ct l G t y c2 n2 rt2 rm As wc Qf) (L : LkS own index y c2 n2 rt2 k2) (hR : rm.frames + 1 ≤ R.frames ∧ 8 + (n2 + 11) + rm.locals ≤ R.locals) (hP : va_P G vwCl wc H) (hD : va_D A wc) (hn : As.length = k2) (hsz : ls.size = nL) {st0 : List Value} (hst : st0 = As.reverse ++ rest) (hW : (rest.map fun v => v.category).sum ≤ 8) (hdg : decode cc pc = .ok (.invokestatic index, 3)) (hf : cells + rm.cells ≤ R.cells ∧ slots + rm.slots ≤ R.slots) :
    va_Run p l e R s m args below meth c H locs cells slots rm.cells rm.slots (F0 m pc ls st0) rest (Qf (va_A wc H.size) As.toArray) (va_A wc H.size) := by
  obtain ⟨h1, h2, h4, h5, h6⟩ := L
  have hts := C.2.2.2.2.1
  have hG := tb_law h5
  refine va_runS (As := As) ⟨C.1, C.2.1, C.2.2.1, C.2.2.2.1, hts⟩ (hM H.size) (⟨callB_of k2 hts hG rfl rfl rfl (hts _ h4) (hts _ h1) h6 hR, hts _ h2⟩) (run_pre C hP hD _) rfl hn hsz hst ?_ hdg hf
  show 2 * 0 + _ ≤ 8; rw [Nat.mul_zero, Nat.zero_add]; exact hW
theorem rnI (C : Cx p s m args c cc nL own G t) (hM : Ct l G t y c2 n2 none rm (.ref b :: As) wc Qf) (L : LkI own index y c2 n2 k2) (hy : y.name = "<init>") (hR : rm.frames + 1 ≤ R.frames ∧ 8 + (n2 + 11) + rm.locals ≤ R.locals) (hP : va_P G vwCl wc H) (hD : va_D A wc) (hn : As.length = k2) (hsz : ls.size = nL) {st0 : List Value} (hst : st0 = As.reverse ++ .ref b :: rest) (hW : (rest.map fun v => v.category).sum ≤ 8) (hdg : decode cc pc = .ok (.invokespecial index, 3)) (hf : cells + rm.cells ≤ R.cells ∧ slots + rm.slots ≤ R.slots) :
    va_Run p l e R s m args below meth c H locs cells slots rm.cells rm.slots (F0 m pc ls st0) rest (Qf (va_A wc H.size) (Value.ref b :: As).toArray) (va_A wc H.size) := by
  obtain ⟨h1, h2, h4, h5, h6⟩ := L
  have hts := C.2.2.2.2.1
  have hG := tb_law h5
  refine va_runI (As := As) ⟨C.1, C.2.1, C.2.2.1, C.2.2.2.1, hts⟩ (hM H.size) (⟨callB_of k2 hts hG rfl rfl rfl (hts _ h4) (hts _ h1) h6 hR, hy, hts _ h2⟩) (run_pre C hP hD _) rfl hn hsz hst ?_ hdg hf
  show 2 * 0 + _ ≤ 8; rw [Nat.mul_zero, Nat.zero_add]; exact hW
theorem rnN (C : Cx p s m args c cc nL own G t) (hM : Ct l G t y c2 n2 none rm (.ref b :: As) wc Qf) (L : LkN own index y c2 n2 k2) (hy : y.name = "<init>") (hR : rm.frames + 1 ≤ R.frames ∧ 8 + (n2 + 11) + rm.locals ≤ R.locals) (hP : va_P G vwCl wc H) (hD : va_D A wc) (hn : As.length = k2) (hsz : ls.size = nL) {st0 : List Value} (hst : st0 = As.reverse ++ .ref b :: rest) (hW : (rest.map fun v => v.category).sum ≤ 8) (hdg : decode cc pc = .ok (.invokespecial index, 3)) (hf : cells + rm.cells ≤ R.cells ∧ slots + rm.slots ≤ R.slots) :
    va_Run p l e R s m args below meth c H locs cells slots rm.cells rm.slots (F0 m pc ls st0) rest (Qf (va_A wc H.size) (Value.ref b :: As).toArray) (va_A wc H.size) := by
  obtain ⟨h1, h2, h4, h5, h6⟩ := L
  have hts := C.2.2.2.2.1
  have hG := tb_law h5
  refine va_runIN (As := As) ⟨C.1, C.2.1, C.2.2.1, C.2.2.2.1, hts⟩ (hM H.size) (⟨va_cnB k2 hts hG rfl rfl rfl (C.2.2.2.2.2.2.1 _ h1) (hts _ h4) h6 hR, hy, hts _ h2⟩) (run_pre C hP hD _) rfl hn hsz hst ?_ hdg hf
  show 2 * 0 + _ ≤ 8; rw [Nat.mul_zero, Nat.zero_add]; exact hW
theorem rnSN (C : Cx p s m args c cc nL own G t) (hM : Ct l G t y c2 n2 rt2 rm As wc Qf) (L : LkSN own index y c2 n2 rt2 k2) (hR : rm.frames + 1 ≤ R.frames ∧ 8 + (n2 + 11) + rm.locals ≤ R.locals) (hP : va_P G vwCl wc H) (hD : va_D A wc) (hn : As.length = k2) (hsz : ls.size = nL) {st0 : List Value} (hst : st0 = As.reverse ++ rest) (hW : (rest.map fun v => v.category).sum ≤ 8) (hdg : decode cc pc = .ok (.invokestatic index, 3)) (hf : cells + rm.cells ≤ R.cells ∧ slots + rm.slots ≤ R.slots) :
    va_Run p l e R s m args below meth c H locs cells slots rm.cells rm.slots (F0 m pc ls st0) rest (Qf (va_A wc H.size) As.toArray) (va_A wc H.size) := by
  obtain ⟨h1, h2, h4, h5, h6⟩ := L
  have hts := C.2.2.2.2.1
  have hG := tb_law h5
  refine va_runSN (As := As) ⟨C.1, C.2.1, C.2.2.1, C.2.2.2.1, hts⟩ (hM H.size) (⟨va_cnB k2 hts hG rfl rfl rfl (C.2.2.2.2.2.2.1 _ h1) (hts _ h4) h6 hR, hts _ h2, trivial⟩) (run_pre C hP hD _) rfl hn hsz hst ?_ hdg hf
  show 2 * 0 + _ ≤ 8; rw [Nat.mul_zero, Nat.zero_add]; exact hW
/-- behind a call: the callee's cells as they came back beside the rest -/
theorem goI {post : Int32 → S → Prop} {w1 : S → va_W} {st0 : List Value} {av : Array Value} (hr : va_Run p l e R s m args below meth c H locs cells slots rm.cells rm.slots (F0 m pc ls st0) rest (QI G post w1 (va_A wc H.size) av) (va_A wc H.size)) (hP : va_P G vwCl ws H) (hD : va_D A ws) (hS : va_S A H0 H locs) (hA : ∀ q, H0.size ≤ q → A q) (isC isR : List Nat) (hC : isC.map (fun i => ws[i]?) = wc.map some) (hR : isR.map (fun i => ws[i]?) = wr.map some) (hnd : va_nd isR = true) (hdis : ∀ i ∈ isR, i ∉ isC)
    (kk : ∀ (r : Int32) (u : S) (H1 : Heap) (locs1 : List Loc), post r u → va_P G vwCl (wr ++ w1 u) H1 → va_D A (wr ++ w1 u) → va_S A H0 H1 locs1 → W p l e R s m args below meth c H1 locs1 (cells + rm.cells) (slots + rm.slots) Q (F0 m (pc + 3) ls (.int r :: rest))) : W p l e R s m args below meth c H locs cells slots Q (F0 m pc ls st0) := by
  have hF := va_free (wc := wc) hD hS hA isC hC
  refine va_calli hr hS (fun q _ h => hF q h) hF (fun r u T H1 locs1 ht _ hp hB _ hk hS1 => ?_)
  obtain ⟨hP1, hD1⟩ := hB
  rw [ht] at hP1
  obtain ⟨hP2, hD2⟩ := va_join hP hD isC isR hC hR hnd hdis hk hF hP1 hD1
  exact kk r u H1 locs1 hp hP2 hD2 hS1
theorem goL {post : Int64 → S → Prop} {w1 : S → va_W} {st0 : List Value} {av : Array Value} (hr : va_Run p l e R s m args below meth c H locs cells slots rm.cells rm.slots (F0 m pc ls st0) rest (QL G post w1 (va_A wc H.size) av) (va_A wc H.size)) (hP : va_P G vwCl ws H) (hD : va_D A ws) (hS : va_S A H0 H locs) (hA : ∀ q, H0.size ≤ q → A q) (isC isR : List Nat) (hC : isC.map (fun i => ws[i]?) = wc.map some) (hR : isR.map (fun i => ws[i]?) = wr.map some) (hnd : va_nd isR = true) (hdis : ∀ i ∈ isR, i ∉ isC)
    (kk : ∀ (r : Int64) (u : S) (H1 : Heap) (locs1 : List Loc), post r u → va_P G vwCl (wr ++ w1 u) H1 → va_D A (wr ++ w1 u) → va_S A H0 H1 locs1 → W p l e R s m args below meth c H1 locs1 (cells + rm.cells) (slots + rm.slots) Q (F0 m (pc + 3) ls (.long r :: rest))) : W p l e R s m args below meth c H locs cells slots Q (F0 m pc ls st0) := by
  have hF := va_free (wc := wc) hD hS hA isC hC
  refine va_calll hr hS (fun q _ h => hF q h) hF (fun r u T H1 locs1 ht _ hp hB _ hk hS1 => ?_)
  obtain ⟨hP1, hD1⟩ := hB
  rw [ht] at hP1
  obtain ⟨hP2, hD2⟩ := va_join hP hD isC isR hC hR hnd hdis hk hF hP1 hD1
  exact kk r u H1 locs1 hp hP2 hD2 hS1
theorem goV {post : S → Prop} {w1 : S → va_W} {st0 : List Value} {av : Array Value} (hr : va_Run p l e R s m args below meth c H locs cells slots rm.cells rm.slots (F0 m pc ls st0) rest (QV G post w1 (va_A wc H.size) av) (va_A wc H.size)) (hP : va_P G vwCl ws H) (hD : va_D A ws) (hS : va_S A H0 H locs) (hA : ∀ q, H0.size ≤ q → A q) (isC isR : List Nat) (hC : isC.map (fun i => ws[i]?) = wc.map some) (hR : isR.map (fun i => ws[i]?) = wr.map some) (hnd : va_nd isR = true) (hdis : ∀ i ∈ isR, i ∉ isC)
    (kk : ∀ (u : S) (H1 : Heap) (locs1 : List Loc), post u → va_P G vwCl (wr ++ w1 u) H1 → va_D A (wr ++ w1 u) → va_S A H0 H1 locs1 → W p l e R s m args below meth c H1 locs1 (cells + rm.cells) (slots + rm.slots) Q (F0 m (pc + 3) ls rest)) : W p l e R s m args below meth c H locs cells slots Q (F0 m pc ls st0) := by
  have hF := va_free (wc := wc) hD hS hA isC hC
  refine va_callv hr hS (fun q _ h => hF q h) hF (fun u T H1 locs1 ht _ hp hB _ hk hS1 => ?_)
  obtain ⟨hP1, hD1⟩ := hB
  rw [ht] at hP1
  obtain ⟨hP2, hD2⟩ := va_join hP hD isC isR hC hR hnd hdis hk hF hP1 hD1
  exact kk u H1 locs1 hp hP2 hD2 hS1
theorem rtI {post : Int32 → S → Prop} {w1 : S → va_W} (hx : p.tables.exec = Jvm.exec) (hb : c.code = cc) (hr : meth.sig.returnType = some .int) (hlocks : meth.locks = false) (hS : va_S A s.heap H locs) {v : Int32} (u : S) (hp : post v u) (hP : va_P G vwCl (w1 u) H) (hD : va_D A (w1 u)) (hdg : decode cc pc = .ok (.ireturn, 1)) : W p l e R s m args below meth c H locs cells slots (MQ below (QI G post w1 A) args s cells slots A) (F0 m pc ls [.int v]) :=
  W.iret hx hb hr (fun T ht hW => ⟨⟨v, u, rfl, hp, by rw [ht]; exact hP, hD⟩, hS.F ht⟩) hS.2.2 hdg hlocks
theorem rtZ {post : Int32 → S → Prop} {w1 : S → va_W} (hx : p.tables.exec = Jvm.exec) (hb : c.code = cc) (hr : meth.sig.returnType = some .boolean) (hlocks : meth.locks = false) (hS : va_S A s.heap H locs) {v : Int32} (hz : narrow .boolean (.int v) = .int v) (u : S) (hp : post v u) (hP : va_P G vwCl (w1 u) H) (hD : va_D A (w1 u)) (hdg : decode cc pc = .ok (.ireturn, 1)) : W p l e R s m args below meth c H locs cells slots (MQ below (QI G post w1 A) args s cells slots A) (F0 m pc ls [.int v]) :=
  W.zret hx hb hr hz (fun T ht hW => ⟨⟨v, u, rfl, hp, by rw [ht]; exact hP, hD⟩, hS.F ht⟩) hS.2.2 hdg hlocks
theorem rtL {post : Int64 → S → Prop} {w1 : S → va_W} (hx : p.tables.exec = Jvm.exec) (hb : c.code = cc) (hr : meth.sig.returnType = some .long) (hlocks : meth.locks = false) (hS : va_S A s.heap H locs) {v : Int64} (u : S) (hp : post v u) (hP : va_P G vwCl (w1 u) H) (hD : va_D A (w1 u)) (hdg : decode cc pc = .ok (.lreturn, 1)) : W p l e R s m args below meth c H locs cells slots (MQ below (QL G post w1 A) args s cells slots A) (F0 m pc ls [.long v]) :=
  W.lret hx hb hr (fun T ht hW => ⟨⟨v, u, rfl, hp, by rw [ht]; exact hP, hD⟩, hS.F ht⟩) hS.2.2 hdg hlocks
theorem rtV {post : S → Prop} {w1 : S → va_W} (hx : p.tables.exec = Jvm.exec) (hb : c.code = cc) (hr : meth.sig.returnType = none) (hlocks : meth.locks = false) (hS : va_S A s.heap H locs) (u : S) (hp : post u) (hP : va_P G vwCl (w1 u) H) (hD : va_D A (w1 u)) (hdg : decode cc pc = .ok (.return_, 1)) : W p l e R s m args below meth c H locs cells slots (MQ below (QV G post w1 A) args s cells slots A) (F0 m pc ls []) :=
  W.vret hx hb hr (fun T ht hW => ⟨⟨u, rfl, hp, by rw [ht]; exact hP, hD⟩, hS.F ht⟩) hS.2.2 hdg hlocks
end RW
section RX
variable {p : Program} {l : Launch} {e : Env} {R : Room} {s : State} {m : MethodId} {args : Array Value} {below : List Frame} {meth : Method} {c : Code} {H H0 : Heap} {locs : List Loc} {cells slots : Nat} {Q : State → Prop}
variable {cc : ByteArray} {pc : Nat} {ls : Array Slot} {rest : List Value} {G : va_G} {t : Nat → ClassId} {ws ws' : va_W} {A : Nat → Prop} {own : String} {index a n : Nat}
theorem tpi {x v : Int32} (h : x = v) (k : W p l e R s m args below meth c H locs cells slots Q (F0 m pc ls (.int v :: rest))) : W p l e R s m args below meth c H locs cells slots Q (F0 m pc ls (.int x :: rest)) := h ▸ k
theorem tpl {x v : Int64} (h : x = v) (k : W p l e R s m args below meth c H locs cells slots Q (F0 m pc ls (.long v :: rest))) : W p l e R s m args below meth c H locs cells slots Q (F0 m pc ls (.long x :: rest)) := h ▸ k
theorem tpr {x : Option Nat} {v : Nat} (h : x = some v) (k : W p l e R s m args below meth c H locs cells slots Q (F0 m pc ls (.ref v :: rest))) : W p l e R s m args below meth c H locs cells slots Q (F0 m pc ls (va_rf x :: rest)) := by subst h; exact k
theorem ldI (hx : p.tables.exec = Jvm.exec) (hb : c.code = cc) (hK : tyK G t s) (hP : va_P G vwCl ws H) (q0 : Nat) {f : Nat → Int32} (ha : ws[q0]? = some (a, .inl (t 1, n, .inl f))) {i : Int32} (hin : vp_in i n) (hdg : decode cc pc = .ok (.iaload, 1)) {v : Int32} (hv : f i.toNatClampNeg = v) (kk : W p l e R s m args below meth c H locs cells slots Q (F0 m (pc + 1) ls (.int v :: rest))) : W p l e R s m args below meth c H locs cells slots Q (F0 m pc ls (.int i :: .ref a :: rest)) := by
  subst hv; exact va_iald hx hb hK hP q0 1 ha rfl hin hdg kk
theorem ldB (hx : p.tables.exec = Jvm.exec) (hb : c.code = cc) (hK : tyK G t s) (hP : va_P G vwCl ws H) (q0 : Nat) {f : Nat → Int32} (ha : ws[q0]? = some (a, .inl (t 0, n, .inl f))) {i : Int32} (hin : vp_in i n) (hdg : decode cc pc = .ok (.baload, 1)) {v : Int32} (hv : f i.toNatClampNeg = v) (kk : W p l e R s m args below meth c H locs cells slots Q (F0 m (pc + 1) ls (.int v :: rest))) : W p l e R s m args below meth c H locs cells slots Q (F0 m pc ls (.int i :: .ref a :: rest)) := by
  subst hv; exact va_bald hx hb hK hP q0 0 ha rfl hin hdg kk
theorem ldZ (hx : p.tables.exec = Jvm.exec) (hb : c.code = cc) (hK : tyK G t s) (hP : va_P G vwCl ws H) (q0 : Nat) {f : Nat → Int32} (ha : ws[q0]? = some (a, .inl (t 3, n, .inl f))) {i : Int32} (hin : vp_in i n) (hdg : decode cc pc = .ok (.baload, 1)) {v : Int32} (hv : f i.toNatClampNeg = v) (kk : W p l e R s m args below meth c H locs cells slots Q (F0 m (pc + 1) ls (.int v :: rest))) : W p l e R s m args below meth c H locs cells slots Q (F0 m pc ls (.int i :: .ref a :: rest)) := by
  subst hv; exact va_zald hx hb hK hP q0 3 ha rfl hin hdg kk
theorem ldL (hx : p.tables.exec = Jvm.exec) (hb : c.code = cc) (hK : tyK G t s) (hP : va_P G vwCl ws H) (q0 : Nat) {f : Nat → Int64} (ha : ws[q0]? = some (a, .inl (t 2, n, .inr (.inl f)))) {i : Int32} (hin : vp_in i n) (hdg : decode cc pc = .ok (.laload, 1)) {v : Int64} (hv : f i.toNatClampNeg = v) (kk : W p l e R s m args below meth c H locs cells slots Q (F0 m (pc + 1) ls (.long v :: rest))) : W p l e R s m args below meth c H locs cells slots Q (F0 m pc ls (.int i :: .ref a :: rest)) := by
  subst hv; exact va_lald hx hb hK hP q0 2 ha rfl hin hdg kk
theorem ldQ (hx : p.tables.exec = Jvm.exec) (hb : c.code = cc) (hK : tyK G t s) (hP : va_P G vwCl ws H) (q0 kt : Nat) {C : String} (hkt : (tyL t)[kt]? = some (t kt, .object C)) {f : Nat → Option Nat} (ha : ws[q0]? = some (a, .inl (t kt, n, .inr (.inr (.inr (.inr f)))))) {i : Int32} (hin : vp_in i n) (hdg : decode cc pc = .ok (.aaload, 1)) {v : Nat} (hv : f i.toNatClampNeg = some v) (kk : W p l e R s m args below meth c H locs cells slots Q (F0 m (pc + 1) ls (.ref v :: rest))) : W p l e R s m args below meth c H locs cells slots Q (F0 m pc ls (.int i :: .ref a :: rest)) :=
  va_aldq hx hb hK hP q0 kt ha hkt hin hdg (tpr hv kk)
theorem stI (hx : p.tables.exec = Jvm.exec) (hb : c.code = cc) (hK : tyK G t s) (hP : va_P G vwCl ws H) (hD : va_D A ws) (hS : va_S A H0 H locs) (q0 : Nat) {f : Nat → Int32} (ha : ws[q0]? = some (a, .inl (t 1, n, .inl f))) {i x : Int32} (hin : vp_in i n) (hdg : decode cc pc = .ok (.iastore, 1)) {f' : Nat → Int32} (hf : upd f i.toNatClampNeg x = f') (hw : ws.set q0 (a, .inl (t 1, n, .inl f')) = ws')
    (kk : ∀ (H1 : Heap) (locs1 : List Loc), va_P G vwCl ws' H1 → va_D A ws' → va_S A H0 H1 locs1 → W p l e R s m args below meth c H1 locs1 cells slots Q (F0 m (pc + 1) ls rest)) : W p l e R s m args below meth c H locs cells slots Q (F0 m pc ls (.int x :: .int i :: .ref a :: rest)) := by
  subst hf; subst hw; exact va_iast hx hb hK hP hD hS q0 1 ha rfl hin hdg kk
theorem stB (hx : p.tables.exec = Jvm.exec) (hb : c.code = cc) (hK : tyK G t s) (hP : va_P G vwCl ws H) (hD : va_D A ws) (hS : va_S A H0 H locs) (q0 : Nat) {f : Nat → Int32} (ha : ws[q0]? = some (a, .inl (t 0, n, .inl f))) {i x : Int32} (hin : vp_in i n) (hdg : decode cc pc = .ok (.bastore, 1)) {f' : Nat → Int32} (hf : upd f i.toNatClampNeg (vp_nar .byte x) = f') (hw : ws.set q0 (a, .inl (t 0, n, .inl f')) = ws')
    (kk : ∀ (H1 : Heap) (locs1 : List Loc), va_P G vwCl ws' H1 → va_D A ws' → va_S A H0 H1 locs1 → W p l e R s m args below meth c H1 locs1 cells slots Q (F0 m (pc + 1) ls rest)) : W p l e R s m args below meth c H locs cells slots Q (F0 m pc ls (.int x :: .int i :: .ref a :: rest)) := by
  subst hf; subst hw; exact va_bast hx hb hK hP hD hS q0 0 ha rfl hin hdg kk
theorem stZ (hx : p.tables.exec = Jvm.exec) (hb : c.code = cc) (hK : tyK G t s) (hP : va_P G vwCl ws H) (hD : va_D A ws) (hS : va_S A H0 H locs) (q0 : Nat) {f : Nat → Int32} (ha : ws[q0]? = some (a, .inl (t 3, n, .inl f))) {i x : Int32} (hin : vp_in i n) (hdg : decode cc pc = .ok (.bastore, 1)) {f' : Nat → Int32} (hf : upd f i.toNatClampNeg (vp_nar .boolean x) = f') (hw : ws.set q0 (a, .inl (t 3, n, .inl f')) = ws')
    (kk : ∀ (H1 : Heap) (locs1 : List Loc), va_P G vwCl ws' H1 → va_D A ws' → va_S A H0 H1 locs1 → W p l e R s m args below meth c H1 locs1 cells slots Q (F0 m (pc + 1) ls rest)) : W p l e R s m args below meth c H locs cells slots Q (F0 m pc ls (.int x :: .int i :: .ref a :: rest)) := by
  subst hf; subst hw; exact va_zast hx hb hK hP hD hS q0 3 ha rfl hin hdg kk
theorem stL (hx : p.tables.exec = Jvm.exec) (hb : c.code = cc) (hK : tyK G t s) (hP : va_P G vwCl ws H) (hD : va_D A ws) (hS : va_S A H0 H locs) (q0 : Nat) {f : Nat → Int64} (ha : ws[q0]? = some (a, .inl (t 2, n, .inr (.inl f)))) {i : Int32} {x : Int64} (hin : vp_in i n) (hdg : decode cc pc = .ok (.lastore, 1)) {f' : Nat → Int64} (hf : vp_updL f i.toNatClampNeg x = f') (hw : ws.set q0 (a, .inl (t 2, n, .inr (.inl f'))) = ws')
    (kk : ∀ (H1 : Heap) (locs1 : List Loc), va_P G vwCl ws' H1 → va_D A ws' → va_S A H0 H1 locs1 → W p l e R s m args below meth c H1 locs1 cells slots Q (F0 m (pc + 1) ls rest)) : W p l e R s m args below meth c H locs cells slots Q (F0 m pc ls (.long x :: .int i :: .ref a :: rest)) := by
  subst hf; subst hw; exact va_last hx hb hK hP hD hS q0 2 ha rfl hin hdg kk
theorem stQ (hx : p.tables.exec = Jvm.exec) (hb : c.code = cc) (hK : tyK G t s) (hP : va_P G vwCl ws H) (hD : va_D A ws) (hS : va_S A H0 H locs) (q0 kt qk ci : Nat) {r : vw_C} {v : Nat} {vs : List Value} {f : Nat → Option Nat} (hc : vwCl[ci]? = some r) (hkt : (tyL t)[kt]? = some (t kt, .object r.1)) (ha : ws[q0]? = some (a, .inl (t kt, n, .inr (.inr (.inr (.inr f)))))) (hv : ws[qk]? = some (v, .inr (ci, vs))) {i : Int32} (hin : vp_in i n) (hdg : decode cc pc = .ok (.aastore, 1)) {f' : Nat → Option Nat} (hf : va_up f i.toNatClampNeg (some v) = f') (hw : ws.set q0 (a, .inl (t kt, n, .inr (.inr (.inr (.inr f'))))) = ws')
    (kk : ∀ (H1 : Heap) (locs1 : List Loc), va_P G vwCl ws' H1 → va_D A ws' → va_S A H0 H1 locs1 → W p l e R s m args below meth c H1 locs1 cells slots Q (F0 m (pc + 1) ls rest)) : W p l e R s m args below meth c H locs cells slots Q (F0 m pc ls (.ref v :: .int i :: .ref a :: rest)) := by
  subst hf; subst hw; exact va_astq hx hb hK hP hD hS q0 kt qk ci ha hkt hv hc hin hdg kk
theorem cpI (hx : p.tables.exec = Jvm.exec) (hb : c.code = cc) {nL : Nat} (hml : c.maxLocals = nL) (hsz : ls.size = nL) (hown : s.vm.findClass own = some m.cls) (hts : ∀ w ∈ TB, w.before args s = true) (hlink : Cond.methodLink own index arraycopyName ∈ TB) (hnat : Cond.native arraycopyName ∈ TB) (hstat : Cond.static arraycopyName ∈ TB) (hini : Cond.initialized "java/lang/System" ∈ TB) (hK : tyK G t s) (hP : va_P G vwCl ws H) (hD : va_D A ws) (hS : va_S A H0 H locs) (q0 q1 : Nat) {a0 n0 : Nat} {f g : Nat → Int32} (ha0 : ws[q0]? = some (a0, .inl (t 1, n0, .inl f))) (ha1 : ws[q1]? = some (a, .inl (t 1, n, .inl g)))
    {sp dp k : Int32} (h1 : ¬ sp < 0) (h2 : ¬ dp < 0) (h3 : ¬ k < 0) (h4 : sp.toNatClampNeg + k.toNatClampNeg ≤ n0) (h5 : dp.toNatClampNeg + k.toNatClampNeg ≤ n) (hframes : 1 ≤ R.frames) (hlocals : (rest.map fun v => v.category).sum + 18 ≤ R.locals) (hdg : decode cc pc = .ok (.invokestatic index, 3)) {g' : Nat → Int32} (hf : va_cpy f g sp.toNatClampNeg dp.toNatClampNeg k.toNatClampNeg = g') (hw : ws.set q1 (a, .inl (t 1, n, .inl g')) = ws')
    (kk : ∀ (H1 : Heap) (locs1 : List Loc), va_P G vwCl ws' H1 → va_D A ws' → va_S A H0 H1 locs1 → W p l e R s m args below meth c H1 locs1 cells slots Q (F0 m (pc + 3) ls rest)) : W p l e R s m args below meth c H locs cells slots Q (F0 m pc ls (.int k :: .int dp :: .ref a :: .int sp :: .ref a0 :: rest)) := by
  subst hf; subst hw; exact va_copyi hx hb (by rw [hml]; exact hsz.symm) hown (hts _ hlink) (hts _ hnat) (hts _ hstat) (hts _ hini) hK hP hD hS q0 q1 1 1 ha0 ha1 rfl rfl rfl h1 h2 h3 h4 h5 (fun _ _ => rfl) hframes hlocals hdg kk
end RX
theorem upd_z (k : Nat) : upd (fun _ => (0 : Int32)) k 0 = fun _ => 0 := by funext j; unfold upd; split <;> rfl
theorem cpy_z (a b n : Nat) : va_cpy (fun _ => (0 : Int32)) (fun _ => 0) a b n = fun _ => 0 := by funext j; unfold va_cpy; split <;> rfl
theorem upd_zL (k : Nat) : vp_updL (fun _ => (0 : Int64)) k 0 = fun _ => 0 := by funext j; unfold vp_updL; split <;> rfl
theorem zlt {a b : Int32} : a < b ↔ a.toInt < b.toInt := Int32.lt_iff_toInt_lt
theorem zle {a b : Int32} : a ≤ b ↔ a.toInt ≤ b.toInt := Int32.le_iff_toInt_le
theorem zeq {a b : Int32} : a = b ↔ a.toInt = b.toInt := Int32.toInt_inj.symm
theorem zle64 {a b : Int64} : a ≤ b ↔ a.toInt ≤ b.toInt := Int64.le_iff_toInt_le
theorem z64 (a : Int32) : a.toInt64.toInt = a.toInt := Int32.toInt_toInt64 a
theorem zN (k : Nat) (h : k < 2 ^ 31) : (OfNat.ofNat k : Int32).toInt = k := by
  show (Int32.ofNat k).toInt = k
  exact nI_toInt h
theorem z0 : (0 : Int32).toInt = 0 := rfl
theorem z1 : (1 : Int32).toInt = 1 := rfl
theorem z2 : (2 : Int32).toInt = 2 := rfl
theorem z3 : (3 : Int32).toInt = 3 := rfl
theorem z4 : (4 : Int32).toInt = 4 := rfl
theorem z5 : (5 : Int32).toInt = 5 := rfl
theorem z6 : (6 : Int32).toInt = 6 := rfl
theorem z7 : (7 : Int32).toInt = 7 := rfl
theorem z8 : (8 : Int32).toInt = 8 := rfl
theorem z9 : (9 : Int32).toInt = 9 := rfl
theorem z60 : (60 : Int32).toInt = 60 := rfl
theorem zm1 : (-1 : Int32).toInt = -1 := rfl
theorem y0 : (0 : Int64).toInt = 0 := rfl
theorem y2 : (2 : Int64).toInt = 2 := rfl
theorem y3 : (3 : Int64).toInt = 3 := rfl
theorem y4 : (4 : Int64).toInt = 4 := rfl
theorem ym1 : (-1 : Int64).toInt = -1 := rfl
theorem i_lt3 {k : Int32} (h1 : ¬ k < 0) (h2 : k < 3) : k = 0 ∨ k = 1 ∨ k = 2 := by
  simp only [zlt, z0, z3] at h1 h2
  simp only [zeq, z0, z1, z2]
  omega
theorem i_in4 {k : Int32} (h : 0 ≤ k.toInt ∧ k.toInt ≤ 3) : k = 0 ∨ k = 1 ∨ k = 2 ∨ k = 3 := by
  simp only [zeq, z0, z1, z2, z3]
  omega
theorem i_vin {k : Int32} {n : Nat} (h : 0 ≤ k.toInt) (h2 : k.toInt < n) : vp_in k n := vp_in_iff.mpr ⟨h, h2⟩
theorem in_none (v : Int64) (h : 0 ≤ v ∧ v ≤ -1) : False := by
  simp only [zle64, y0, ym1] at h
  omega
theorem in_gt {v : Int64} (h : ¬ lg_cmp v 0 < 0) : (-1 : Int64) < v := by
  have h1 : (0 : Int64) ≤ v := Int64.not_lt.mp (fun q => h ((lg_cmp_lt _ _).mpr q))
  rw [Int64.lt_iff_toInt_lt, ym1]
  rw [zle64, y0] at h1
  omega
theorem i_in3 {k : Int32} (h : 0 ≤ k.toInt ∧ k.toInt ≤ 2) : k = 0 ∨ k = 1 ∨ k = 2 := by
  simp only [zeq, z0, z1, z2]
  omega
theorem i_nat60 {k : Int32} (h : 0 ≤ k) (h2 : k ≤ 60) : ∃ n : Nat, n ≤ 60 ∧ k = nI n := nI_of2 (M := 60) (n := 60) rfl (Int32.not_lt.mpr h) h2

/-! THE CLAIM OUT OF ONE WALK OF THE LAW'S BODY. Your part is whole_start (and what it stands on); all else here is the same for every law, but numbers. -/
def R_law : String := "MovingExitsLaw"
def lw_P (b : Addr) (xs : List Int32) (args : Array Value) (s : State) : Prop := args = #[.ref b] ∧ s.IntsAt b xs ∧ xs.length ≤ 6 ∧ (Jvm.Cond.and given_1 narrow_1).before args s = true
def lw_Q (_ : Array Value) (s : State) (o : Outcome) (t : State) : Prop := o = .returned (some (.int 1)) ∧ Framed s o t [] 600000 7302250
def lw_Z (below : List Frame) (a : Array Value) (s : State) : State → Prop := fun t => ∃ o, t.status = .running ∧ Ended t below o ∧ lw_Q a s o t
/-- the law's own end, with 1 on the stack, nothing written that was there before, its room as the claim has it -/
theorem lw_ret {p : Program} {l : Launch} {e : Env} {s : State} {m : MethodId} {below : List Frame} {meth : Method} {c : Code} {b : Nat} (hx : p.tables.exec = Jvm.exec) (hb : c.code = code) (hr : meth.sig.returnType = ret) (hlocks : meth.locks = false) {pc : Nat} {H : Heap} {ls : Array Slot} (hdg : decode code pc = .ok (.ireturn, 1)) : W p l e room_1 s m #[Value.ref b] below meth c H [] 600000 7302250 (lw_Z below #[Value.ref b] s) (F0 m pc ls [.int 1]) := by
  intro T hT X
  obtain ⟨fs, hret, hrun, hended, hW, hframe⟩ := X.leave (v := some (.int 1)) (hlocks := hlocks) (fun h => by rw [hr] at h; cases h)
  have hmeth' : T.vm.method? m = some meth := X.method'
  refine ⟨T.setFrames fs, ?_, .returned (some (.int 1)), hrun, hended, rfl, ⟨_, rfl⟩, hW, hframe⟩
  jvm_step X.here [X.here.top, hx, hb, hdg, hmeth', hr, ret, narrow_b1]
  (try refine ⟨rfl, ?_⟩); (try refine ⟨rfl, ?_⟩)
  first | (intro acts; rw [hret _ acts rfl rfl rfl]) | rw [hret _ _ rfl rfl rfl]
  exact Steps.refl _
/-- what holds at the law's entry: the machine, the code, the tables' words (any of lw_tbl by 'hts w (by decide +kernel)'), the script of L ints xs at the cell b, what the Statement gives of the start (any of its parts by flat_of_before) -/
def lw_At (p : Program) (s : State) (m : MethodId) (meth : Method) (c : Code) (b L : Nat) (xs : Nat → Int32) : Prop :=
  p.tables.exec = Jvm.exec ∧ c.code = code ∧ meth.sig.returnType = ret ∧ c.maxLocals = 4 ∧ s.vm.findClass R_law = some m.cls ∧ (∀ w ∈ lw_tbl, w.before #[Value.ref b] s = true) ∧ va_X b L xs s s.heap ∧ b < s.heap.size ∧ meth.locks = false ∧ (Jvm.Cond.and given_1 narrow_1).before #[Value.ref b] s = true
/-- the cells of a new MovingExits, and of a new reference -/
def wX (t : Nat → ClassId) (x : Nat) (u : Nat → Nat) : va_W := [(x, .inr (11, [.ref (u 0), .ref (u 1), .ref (u 2), .ref (u 3), .ref (u 4), .ref (u 5), .ref (u 6), .ref (u 7), .ref (u 8), .ref (u 9), .ref (u 10), .ref (u 11), .ref (u 12)])), ((u 0), .inr (10, [.ref (u 13), .int 0])), ((u 13), .inl (t 0, 1400, .inl (fun _ => 0))), ((u 1), .inr (6, [.int 0, .int (-1), .ref (u 0), .ref (u 12), .int 0, .int 0, .int 0, .int 0, .int 0, .int 0])), ((u 2), .inl (t 4, 3, .inr (.inr (.inr (.inr (va_up (va_up (va_up (fun _ => none) 0 (some (u 14))) 1 (some (u 15))) 2 (some (u 16)))))))), ((u 3), .inl (t 3, 3, .inl (fun _ => 0))), ((u 4), .inl (t 5, 4, .inr (.inr (.inr (.inr (va_up (va_up (va_up (va_up (fun _ => none) 0 (some (u 17))) 1 (some (u 18))) 2 (some (u 19))) 3 (some (u 20)))))))), ((u 17), .inr (8, [.ref (u 21), .int 0, .int (-1)])), ((u 21), .inl (t 2, 60, .inr (.inl (fun _ => 0)))), ((u 18), .inr (8, [.ref (u 22), .int 0, .int (-1)])), ((u 22), .inl (t 2, 60, .inr (.inl (fun _ => 0)))), ((u 19), .inr (8, [.ref (u 23), .int 0, .int (-1)])), ((u 23), .inl (t 2, 60, .inr (.inl (fun _ => 0)))), ((u 20), .inr (8, [.ref (u 24), .int 0, .int (-1)])), ((u 24), .inl (t 2, 60, .inr (.inl (fun _ => 0)))), ((u 5), .inr (0, [.ref (u 11), .ref (u 25), .ref (u 26), .ref (u 27), .ref (u 28)])), ((u 26), .inl (t 3, 60, .inl (fun _ => 0))), ((u 11), .inr (5, [.int 0, .int 0, .int 0, .int 0, .int 0, .int 0, .long 0, .ref (u 29), .ref (u 30), .ref (u 31), .ref (u 32), .ref (u 33), .ref (u 34), .ref (u 35), .ref (u 36), .ref (u 37)])), ((u 29), .inl (t 1, 9, .inl (fun _ => 0))), ((u 30), .inl (t 1, 9, .inl (fun _ => 0))), ((u 31), .inl (t 1, 9, .inl (fun _ => 0))), ((u 32), .inl (t 1, 9, .inl (fun _ => 0))), ((u 33), .inl (t 1, 7, .inl (fun _ => 0))), ((u 34), .inl (t 1, 7, .inl (fun _ => 0))), ((u 35), .inl (t 1, 7, .inl (fun _ => 0))), ((u 36), .inl (t 1, 7, .inl (fun _ => 0))), ((u 37), .inr (1, [.int 0, .ref (u 38), .ref (u 39), .ref (u 40), .ref (u 41)])), ((u 38), .inl (t 1, 40, .inl (fun _ => 0))), ((u 39), .inl (t 1, 40, .inl (fun _ => 0))), ((u 40), .inl (t 1, 40, .inl (fun _ => 0))), ((u 41), .inl (t 1, 40, .inl (fun _ => 0))), ((u 12), .inr (5, [.int 0, .int 0, .int 0, .int 0, .int 0, .int 0, .long 0, .ref (u 42), .ref (u 43), .ref (u 44), .ref (u 45), .ref (u 46), .ref (u 47), .ref (u 48), .ref (u 49), .ref (u 50)])), ((u 42), .inl (t 1, 9, .inl (fun _ => 0))), ((u 43), .inl (t 1, 9, .inl (fun _ => 0))), ((u 44), .inl (t 1, 9, .inl (fun _ => 0))), ((u 45), .inl (t 1, 9, .inl (fun _ => 0))), ((u 46), .inl (t 1, 7, .inl (fun _ => 0))), ((u 47), .inl (t 1, 7, .inl (fun _ => 0))), ((u 48), .inl (t 1, 7, .inl (fun _ => 0))), ((u 49), .inl (t 1, 7, .inl (fun _ => 0))), ((u 50), .inr (1, [.int 0, .ref (u 51), .ref (u 52), .ref (u 53), .ref (u 54)])), ((u 51), .inl (t 1, 40, .inl (fun _ => 0))), ((u 52), .inl (t 1, 40, .inl (fun _ => 0))), ((u 53), .inl (t 1, 40, .inl (fun _ => 0))), ((u 54), .inl (t 1, 40, .inl (fun _ => 0))), ((u 14), .inr (5, [.int 0, .int 0, .int 0, .int 0, .int 0, .int 0, .long 0, .ref (u 55), .ref (u 56), .ref (u 57), .ref (u 58), .ref (u 59), .ref (u 60), .ref (u 61), .ref (u 62), .ref (u 63)])), ((u 55), .inl (t 1, 9, .inl (fun _ => 0))), ((u 56), .inl (t 1, 9, .inl (fun _ => 0))), ((u 57), .inl (t 1, 9, .inl (fun _ => 0))), ((u 58), .inl (t 1, 9, .inl (fun _ => 0))), ((u 59), .inl (t 1, 7, .inl (fun _ => 0))), ((u 60), .inl (t 1, 7, .inl (fun _ => 0))), ((u 61), .inl (t 1, 7, .inl (fun _ => 0))), ((u 62), .inl (t 1, 7, .inl (fun _ => 0))), ((u 63), .inr (1, [.int 0, .ref (u 64), .ref (u 65), .ref (u 66), .ref (u 67)])), ((u 64), .inl (t 1, 40, .inl (fun _ => 0))), ((u 65), .inl (t 1, 40, .inl (fun _ => 0))), ((u 66), .inl (t 1, 40, .inl (fun _ => 0))), ((u 67), .inl (t 1, 40, .inl (fun _ => 0))), ((u 15), .inr (5, [.int 0, .int 0, .int 0, .int 0, .int 0, .int 0, .long 0, .ref (u 68), .ref (u 69), .ref (u 70), .ref (u 71), .ref (u 72), .ref (u 73), .ref (u 74), .ref (u 75), .ref (u 76)])), ((u 68), .inl (t 1, 9, .inl (fun _ => 0))), ((u 69), .inl (t 1, 9, .inl (fun _ => 0))), ((u 70), .inl (t 1, 9, .inl (fun _ => 0))), ((u 71), .inl (t 1, 9, .inl (fun _ => 0))), ((u 72), .inl (t 1, 7, .inl (fun _ => 0))), ((u 73), .inl (t 1, 7, .inl (fun _ => 0))), ((u 74), .inl (t 1, 7, .inl (fun _ => 0))), ((u 75), .inl (t 1, 7, .inl (fun _ => 0))), ((u 76), .inr (1, [.int 0, .ref (u 77), .ref (u 78), .ref (u 79), .ref (u 80)])), ((u 77), .inl (t 1, 40, .inl (fun _ => 0))), ((u 78), .inl (t 1, 40, .inl (fun _ => 0))), ((u 79), .inl (t 1, 40, .inl (fun _ => 0))), ((u 80), .inl (t 1, 40, .inl (fun _ => 0))), ((u 16), .inr (5, [.int 0, .int 0, .int 0, .int 0, .int 0, .int 0, .long 0, .ref (u 81), .ref (u 82), .ref (u 83), .ref (u 84), .ref (u 85), .ref (u 86), .ref (u 87), .ref (u 88), .ref (u 89)])), ((u 81), .inl (t 1, 9, .inl (fun _ => 0))), ((u 82), .inl (t 1, 9, .inl (fun _ => 0))), ((u 83), .inl (t 1, 9, .inl (fun _ => 0))), ((u 84), .inl (t 1, 9, .inl (fun _ => 0))), ((u 85), .inl (t 1, 7, .inl (fun _ => 0))), ((u 86), .inl (t 1, 7, .inl (fun _ => 0))), ((u 87), .inl (t 1, 7, .inl (fun _ => 0))), ((u 88), .inl (t 1, 7, .inl (fun _ => 0))), ((u 89), .inr (1, [.int 0, .ref (u 90), .ref (u 91), .ref (u 92), .ref (u 93)])), ((u 90), .inl (t 1, 40, .inl (fun _ => 0))), ((u 91), .inl (t 1, 40, .inl (fun _ => 0))), ((u 92), .inl (t 1, 40, .inl (fun _ => 0))), ((u 93), .inl (t 1, 40, .inl (fun _ => 0)))]
def wM (t : Nat → ClassId) (z : Nat) (v : Nat → Nat) : va_W := [(z, .inr (12, [.int 0, .ref (v 0), .ref (v 1), .ref (v 2), .ref (v 3), .ref (v 4), .int 0, .int 0, .int 0, .int 0, .int 0, .long 0, .int 0, .int 0, .int 0, .int (-1), .ref (v 5), .ref (v 6), .ref (v 7), .ref (v 8), .ref (v 9), .ref (v 10), .ref (v 11), .ref (v 12), .ref (v 13), .ref (v 14), .ref (v 15), .ref (v 16), .ref (v 17), .int 0, .int 0, .int 0, .int 0, .int 0, .int 0, .ref (v 18)])), ((v 0), .inl (t 1, 4, .inl (upd (upd (upd (upd (fun _ => 0) 0 (-1)) 1 (-1)) 2 (-1)) 3 (-1)))), ((v 1), .inl (t 1, 4, .inl (fun _ => 0))), ((v 2), .inl (t 2, 240, .inr (.inl (fun _ => 0)))), ((v 4), .inl (t 0, 1400, .inl (fun _ => 0))), ((v 5), .inl (t 1, 5, .inl (fun _ => 0))), ((v 6), .inl (t 1, 30, .inl (fun _ => 0))), ((v 7), .inl (t 1, 180, .inl (fun _ => 0))), ((v 8), .inl (t 1, 140, .inl (fun _ => 0))), ((v 9), .inl (t 3, 180, .inl (fun _ => 0))), ((v 10), .inl (t 1, 800, .inl (fun _ => 0))), ((v 11), .inl (t 3, 3, .inl (fun _ => 0)))]
theorem wX_len (t : Nat → ClassId) (x : Nat) (u : Nat → Nat) : (wX t x u).length = 87 := rfl

theorem ac_prim {s : State} {args : Array Value} {ty : FieldType} (ho : ∀ C, ty ≠ .object C) (h : (Cond.arrayClass ty).before args s = true) : ∃ cA : ClassId, ArrOfT s cA ty ∧ va_RA s cA ty := by
  obtain ⟨cA, kA, comp, h1, h2, h3⟩ := Cond.arrayClass_spec h
  refine ⟨cA, fun n z => ⟨fun k h => (by cases h), kA, h2, comp, h3⟩, ?_⟩
  cases ty with
  | object C => exact absurd rfl (ho C)
  | _ => exact h1
theorem ac_ref {s : State} {args : Array Value} {C : String} (h : (Cond.arrayOver (.object C)).before args s = true) : ∃ cA : ClassId, ArrOfT s cA (.object C) ∧ va_RA s cA (.object C) := by
  obtain ⟨comp, cA, kA, h1, h2, h3, h4, h5⟩ := Cond.arrayOver_spec h
  exact ⟨cA, fun n z => ⟨fun k h => (by cases h), kA, h3, comp, h4⟩, kA, comp, h3, h4, h1, h5⟩
theorem law_nest {s : State} {args : Array Value} (hts : ∀ w ∈ lw_tbl, w.before args s = true) : nestOK s := by
  refine ⟨fun w hw => ?_, va_AO.of (hts (Cond.arrayOver (.object RX5)) (List.mem_append_right _ (List.mem_append_left _ (List.mem_of_getElem? (i := 42) (by decide +kernel))))), va_AO.of (hts (Cond.arrayOver (.object RX8)) (List.mem_append_right _ (List.mem_append_left _ (List.mem_of_getElem? (i := 44) (by decide +kernel)))))⟩
  have h1 := hts w (nestL_in w hw)
  simp only [nestL, List.mem_cons, List.not_mem_nil, or_false] at hw
  rcases hw with rfl | rfl | rfl | rfl | rfl <;> exact va_Nw.of rfl h1
theorem law_known {s : State} {args : Array Value} (hts : ∀ w ∈ TB, w.before args s = true) (hts0 : ∀ w ∈ lw_tbl, w.before args s = true) : ∃ (G : va_G) (t : Nat → ClassId), tyK G t s := by
  obtain ⟨c0, i0, k0⟩ := u_known (C := RX0) (T := TX0) (N := 5) (n := 5) hts inT0 (hts _ tw1_236)
  obtain ⟨c1, i1, k1⟩ := u_known (C := RX1) (T := TX1) (N := 5) (n := 5) hts inT1 (hts _ tw1_51)
  obtain ⟨c2, i2, k2⟩ := u_known (C := RX2) (T := TX2) (N := 2) (n := 2) hts inT2 (hts _ tw2_22)
  obtain ⟨c3, i3, k3⟩ := u_known (C := RX3) (T := TX3) (N := 3) (n := 3) hts inT3 (hts _ tw2_110)
  obtain ⟨c4, i4, k4⟩ := u_known (C := RX4) (T := TX4) (N := 2) (n := 2) hts inT4 (hts _ tw2_35)
  obtain ⟨c5, i5, k5⟩ := u_known (C := RX5) (T := TX5) (N := 16) (n := 16) hts inT5 (hts _ tw1_45)
  obtain ⟨c6, i6, k6⟩ := u_known (C := RX6) (T := TX6) (N := 10) (n := 10) hts inT6 (hts _ tw1_197)
  obtain ⟨c7, i7, k7⟩ := u_known (C := RX7) (T := TX7) (N := 15) (n := 15) hts inT7 (hts _ tw2_48)
  obtain ⟨c8, i8, k8⟩ := u_known (C := RX8) (T := TX8) (N := 3) (n := 3) hts inT8 (hts _ tw1_176)
  obtain ⟨c9, i9, k9⟩ := u_known (C := RX9) (T := TX9) (N := 1) (n := 1) hts inT9 (hts _ tw2_100)
  obtain ⟨c10, i10, k10⟩ := u_known (C := RX10) (T := TX10) (N := 2) (n := 2) hts inT10 (hts _ tw1_27)
  obtain ⟨c11, i11, k11⟩ := u_known (C := RX11) (T := TX11) (N := 13) (n := 13) hts inT11 (hts _ tw1_19)
  obtain ⟨c12, i12, k12⟩ := u_known (C := RX12) (T := TX12) (N := 36) (n := 36) hts inT12 (hts _ tw5_220)
  obtain ⟨t0, a0⟩ := ac_prim (fun C h => by cases h) (hts _ tw1_40)
  obtain ⟨t1, a1⟩ := ac_prim (fun C h => by cases h) (hts _ tw1_79)
  obtain ⟨t2, a2⟩ := ac_prim (fun C h => by cases h) (hts _ tw1_195)
  obtain ⟨t3, a3⟩ := ac_prim (fun C h => by cases h) (hts _ tw1_78)
  have hO := law_nest hts0
  obtain ⟨t4, a4⟩ := ac_ref (C := RX5) (va_AO.use (A := #[]) hO.2.1)
  obtain ⟨t5, a5⟩ := ac_ref (C := RX8) (va_AO.use (A := #[]) hO.2.2)
  refine ⟨(fun k => match k with | 0 => c0 | 1 => c1 | 2 => c2 | 3 => c3 | 4 => c4 | 5 => c5 | 6 => c6 | 7 => c7 | 8 => c8 | 9 => c9 | 10 => c10 | 11 => c11 | _ => c12, fun k => match k with | 0 => i0 | 1 => i1 | 2 => i2 | 3 => i3 | 4 => i4 | 5 => i5 | 6 => i6 | 7 => i7 | 8 => i8 | 9 => i9 | 10 => i10 | 11 => i11 | _ => i12), (fun k => match k with | 0 => t0 | 1 => t1 | 2 => t2 | 3 => t3 | 4 => t4 | _ => t5), ?_, ?_⟩
  · intro k q hq
    match k, hq with
    | 0, hq => cases hq; exact k0
    | 1, hq => cases hq; exact k1
    | 2, hq => cases hq; exact k2
    | 3, hq => cases hq; exact k3
    | 4, hq => cases hq; exact k4
    | 5, hq => cases hq; exact k5
    | 6, hq => cases hq; exact k6
    | 7, hq => cases hq; exact k7
    | 8, hq => cases hq; exact k8
    | 9, hq => cases hq; exact k9
    | 10, hq => cases hq; exact k10
    | 11, hq => cases hq; exact k11
    | 12, hq => cases hq; exact k12
    | n + 13, hq => simp [vwCl] at hq
  · intro k q hq
    match k, hq with
    | 0, hq => cases hq; exact a0
    | 1, hq => cases hq; exact a1
    | 2, hq => cases hq; exact a2
    | 3, hq => cases hq; exact a3
    | 4, hq => cases hq; exact a4
    | 5, hq => cases hq; exact a5
    | n + 6, hq => simp [tyL] at hq

set_option maxHeartbeats 4000000 in
set_option maxRecDepth 100000 in
/-- behind the one call: the loop ends, the answer is true -/
theorem law_tail {p : Program} {l : Launch} {e : Env} {s : State} {m : MethodId} {below : List Frame} {meth : Method} {c : Code} {b : Nat} {xs : Nat → Int32} (CL : lw_At p s m meth c b 6 xs) {A : Nat → Prop} (hA : ∀ q : Nat, s.heap.size ≤ q → A q) (hbA : ¬ A b) (hAs : ∀ q : Nat, A q → s.heap.size ≤ q) {x z : Nat} {H : Heap} {locs : List Loc} (hS : va_S A s.heap H locs) {ls : Array Slot} (hl : lv_has ls 4 [(3, .int 0), (2, .ref z), (1, .ref x), (0, .ref b)]) : W p l e room_1 s m #[Value.ref b] below meth c H locs 600000 7302250 (lw_Z below #[Value.ref b] s) (F0 m 2147 ls []) := by
  obtain ⟨hx, hb, hr, hml, hown, hts0, hX, hbl, hlocks, hgv⟩ := id CL
  have hown : s.vm.findClass RL = some m.cls := hown
  have hts : ∀ w ∈ TB, w.before #[Value.ref b] s = true := fun w h => hts0 w (tb_lw h)
  refine lv_iinc (v := 6) (lv' := [(3, .int 6), (2, .ref z), (1, .ref x), (0, .ref b)]) hx hb dL_law_2147 hl (k := 0) rfl (by decide) (by decide) rfl (fun ls hl => ?_)
  refine lv_goto (tgt := 18) hx hb dL_law_2150 (by decide) ?_
  refine lv_iload_n hx hb dL_law_18 rfl (lv_at hl 0 rfl) ?_
  refine lv_aload_n hx hb dL_law_19 rfl (lv_at hl 3 rfl) ?_
  refine va_slen hx hb hX hbl hbA hS dL_law_20 (tpi (v := 6) (by decide) ?_)
  refine lv_bipush (v := 6) hx hb dL_law_21 (by decide) ?_
  refine lv_isub hx hb dL_law_23 (tpi (v := 0) (by decide) ?_)
  refine lv_icmp_gt (tgt := 2153) hx hb dL_law_24 (by decide) (fun _ => ?_) (fun c_1 => absurd (by decide) c_1)
  refine lv_iconst (v := 1) hx hb dL_law_2153 (by decide) ?_
  refine va_forget (fun q hq => hAs _ (hS.2.2 q hq)) ?_
  exact lw_ret hx hb hr hlocks dL_law_2154

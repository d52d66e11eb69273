/-! THE CLAIM OUT OF ONE WALK OF THE LAW'S BODY. Your part is whole_start (and what it stands on); all else here is the same for every law, but numbers. -/
def R_law : String := "MovingExitsLaw"
def lw_P (b : Addr) (xs : List Int32) (args : Array Value) (s : State) : Prop := args = #[.ref b] ∧ s.IntsAt b xs ∧ xs.length ≤ 3072 ∧ (Jvm.Cond.and given_1 narrow_1).before args s = true
def lw_Q (_ : Array Value) (s : State) (o : Outcome) (t : State) : Prop := o = .returned (some (.int 1)) ∧ Framed s o t [] 600000 7302250
def lw_Z (below : List Frame) (a : Array Value) (s : State) : State → Prop := fun t => ∃ o, t.status = .running ∧ Ended t below o ∧ lw_Q a s o t
/-- the law's own end, with 1 on the stack, nothing written that was there before, its room as the claim has it -/
theorem lw_ret {p : Program} {l : Launch} {e : Env} {s : State} {m : MethodId} {below : List Frame} {meth : Method} {c : Code} {b : Nat} (hx : p.tables.exec = Jvm.exec) (hb : c.code = code) (hr : meth.sig.returnType = ret) (hlocks : meth.locks = false) {pc : Nat} {H : Heap} {ls : Array Slot} (hdg : decode code pc = .ok (.ireturn, 1)) : W p l e room_1 s m #[Value.ref b] below meth c H [] 600000 7302250 (lw_Z below #[Value.ref b] s) (F0 m pc ls [.int 1]) := by
  intro T hT X
  obtain ⟨fs, hret, hrun, hended, hW, hframe⟩ := X.leave (v := some (.int 1)) (hlocks := hlocks) (fun h => by rw [hr] at h; cases h)
  have hmeth' : T.vm.method? m = some meth := X.method'
  refine ⟨T.setFrames fs, ?_, .returned (some (.int 1)), hrun, hended, rfl, ⟨_, rfl⟩, hW, hframe⟩
  jvm_step X.here [X.here.top, hx, hb, hdg, hmeth', hr, ret, narrow_b1]
  (try refine ⟨rfl, ?_⟩); (try refine ⟨rfl, ?_⟩)
  first | (intro acts; rw [hret _ acts rfl rfl rfl]) | rw [hret _ _ rfl rfl rfl]
  exact Steps.refl _
/-- what holds at the law's entry: the machine, the code, the tables' words (any of lw_tbl by 'hts w (by decide +kernel)'), the script of L ints xs at the cell b, what the Statement gives of the start (any of its parts by flat_of_before) -/
def lw_At (p : Program) (s : State) (m : MethodId) (meth : Method) (c : Code) (b L : Nat) (xs : Nat → Int32) : Prop :=
  p.tables.exec = Jvm.exec ∧ c.code = code ∧ meth.sig.returnType = ret ∧ c.maxLocals = 4 ∧ s.vm.findClass R_law = some m.cls ∧ (∀ w ∈ lw_tbl, w.before #[Value.ref b] s = true) ∧ va_X b L xs s s.heap ∧ b < s.heap.size ∧ meth.locks = false ∧ (Jvm.Cond.and given_1 narrow_1).before #[Value.ref b] s = true
def sN {α : Type} (f : Nat → α) (k : Nat) (v : α) : Nat → α := fun j => if j = k then v else f j
def wX (t : Nat → ClassId) (x : Nat) (aX : Nat → Nat) (iX : Nat → Int32) (lX : Nat → Int64) (fX : Nat → Nat → Int32) (gX : Nat → Nat → Int64) : va_W := [(x, .inr (11, [.ref (aX 0), .ref (aX 1), .ref (aX 2), .ref (aX 3), .ref (aX 4), .ref (aX 5), .ref (aX 6), .ref (aX 7), .ref (aX 8), .ref (aX 9), .ref (aX 10), .ref (aX 11), .ref (aX 12)])), ((aX 0), .inr (10, [.ref (aX 13), .int (iX 0)])), ((aX 13), .inl (t 0, 1400, .inl (fX 0))), ((aX 1), .inr (6, [.int (iX 1), .int (iX 2), .ref (aX 0), .ref (aX 107), .int (iX 3), .int (iX 4), .int (iX 5), .int (iX 6), .int (iX 7), .int (iX 8)])), ((aX 2), .inl (t 4, 3, .inr (.inr (.inr (.inr (va_up (va_up (va_up (fun _ => none) 0 (some (aX 14))) 1 (some (aX 15))) 2 (some (aX 16)))))))), ((aX 3), .inl (t 3, 3, .inl (fX 1))), ((aX 4), .inl (t 5, 4, .inr (.inr (.inr (.inr (va_up (va_up (va_up (va_up (fun _ => none) 0 (some (aX 17))) 1 (some (aX 18))) 2 (some (aX 19))) 3 (some (aX 20)))))))), ((aX 17), .inr (8, [.ref (aX 21), .int (iX 9), .int (iX 10)])), ((aX 21), .inl (t 2, 60, .inr (.inl (gX 0)))), ((aX 18), .inr (8, [.ref (aX 22), .int (iX 11), .int (iX 12)])), ((aX 22), .inl (t 2, 60, .inr (.inl (gX 1)))), ((aX 19), .inr (8, [.ref (aX 23), .int (iX 13), .int (iX 14)])), ((aX 23), .inl (t 2, 60, .inr (.inl (gX 2)))), ((aX 20), .inr (8, [.ref (aX 24), .int (iX 15), .int (iX 16)])), ((aX 24), .inl (t 2, 60, .inr (.inl (gX 3)))), ((aX 5), .inr (0, [.ref (aX 11), .ref (aX 25), .ref (aX 26), .ref (aX 27), .ref (aX 28)])), ((aX 25), .inl (t 1, 420, .inl (fX 2))), ((aX 26), .inl (t 3, 60, .inl (fX 3))), ((aX 27), .inl (t 1, 2160, .inl (fX 4))), ((aX 28), .inl (t 1, 2160, .inl (fX 5))), ((aX 6), .inr (2, [.ref (aX 5), .ref (aX 29)])), ((aX 29), .inl (t 1, 9, .inl (fX 6))), ((aX 7), .inr (4, [.ref (aX 5), .ref (aX 30)])), ((aX 30), .inl (t 1, 9, .inl (fX 7))), ((aX 8), .inr (7, [.ref (aX 5), .ref (aX 31), .ref (aX 32), .ref (aX 33), .ref (aX 34), .ref (aX 35), .ref (aX 36), .ref (aX 37), .ref (aX 38), .ref (aX 39), .int (iX 17), .int (iX 18), .int (iX 19), .long (lX 0), .int (iX 20)])), ((aX 31), .inl (t 1, 36, .inl (fX 8))), ((aX 32), .inl (t 1, 36, .inl (fX 9))), ((aX 33), .inl (t 1, 180, .inl (fX 10))), ((aX 34), .inl (t 1, 720, .inl (fX 11))), ((aX 35), .inl (t 1, 720, .inl (fX 12))), ((aX 36), .inl (t 1, 720, .inl (fX 13))), ((aX 37), .inl (t 1, 1440, .inl (fX 14))), ((aX 38), .inl (t 1, 1440, .inl (fX 15))), ((aX 39), .inl (t 2, 40, .inr (.inl (gX 4)))), ((aX 9), .inr (9, [.ref (aX 40)])), ((aX 40), .inl (t 2, 512, .inr (.inl (gX 5)))), ((aX 10), .inr (3, [.ref (aX 41), .int (iX 21), .ref (aX 5)])), ((aX 41), .inl (t 1, 5, .inl (fX 16))), ((aX 11), .inr (5, [.int (iX 22), .int (iX 23), .int (iX 24), .int (iX 25), .int (iX 26), .int (iX 27), .long (lX 1), .ref (aX 42), .ref (aX 43), .ref (aX 44), .ref (aX 45), .ref (aX 46), .ref (aX 47), .ref (aX 48), .ref (aX 49), .ref (aX 50)])), ((aX 42), .inl (t 1, 9, .inl (fX 17))), ((aX 43), .inl (t 1, 9, .inl (fX 18))), ((aX 44), .inl (t 1, 9, .inl (fX 19))), ((aX 45), .inl (t 1, 9, .inl (fX 20))), ((aX 46), .inl (t 1, 7, .inl (fX 21))), ((aX 47), .inl (t 1, 7, .inl (fX 22))), ((aX 48), .inl (t 1, 7, .inl (fX 23))), ((aX 49), .inl (t 1, 7, .inl (fX 24))), ((aX 50), .inr (1, [.int (iX 28), .ref (aX 51), .ref (aX 52), .ref (aX 53), .ref (aX 54)])), ((aX 51), .inl (t 1, 40, .inl (fX 25))), ((aX 52), .inl (t 1, 40, .inl (fX 26))), ((aX 53), .inl (t 1, 40, .inl (fX 27))), ((aX 54), .inl (t 1, 40, .inl (fX 28))), ((aX 12), .inr (5, [.int (iX 29), .int (iX 30), .int (iX 31), .int (iX 32), .int (iX 33), .int (iX 34), .long (lX 2), .ref (aX 55), .ref (aX 56), .ref (aX 57), .ref (aX 58), .ref (aX 59), .ref (aX 60), .ref (aX 61), .ref (aX 62), .ref (aX 63)])), ((aX 55), .inl (t 1, 9, .inl (fX 29))), ((aX 56), .inl (t 1, 9, .inl (fX 30))), ((aX 57), .inl (t 1, 9, .inl (fX 31))), ((aX 58), .inl (t 1, 9, .inl (fX 32))), ((aX 59), .inl (t 1, 7, .inl (fX 33))), ((aX 60), .inl (t 1, 7, .inl (fX 34))), ((aX 61), .inl (t 1, 7, .inl (fX 35))), ((aX 62), .inl (t 1, 7, .inl (fX 36))), ((aX 63), .inr (1, [.int (iX 35), .ref (aX 64), .ref (aX 65), .ref (aX 66), .ref (aX 67)])), ((aX 64), .inl (t 1, 40, .inl (fX 37))), ((aX 65), .inl (t 1, 40, .inl (fX 38))), ((aX 66), .inl (t 1, 40, .inl (fX 39))), ((aX 67), .inl (t 1, 40, .inl (fX 40))), ((aX 14), .inr (5, [.int (iX 36), .int (iX 37), .int (iX 38), .int (iX 39), .int (iX 40), .int (iX 41), .long (lX 3), .ref (aX 68), .ref (aX 69), .ref (aX 70), .ref (aX 71), .ref (aX 72), .ref (aX 73), .ref (aX 74), .ref (aX 75), .ref (aX 76)])), ((aX 68), .inl (t 1, 9, .inl (fX 41))), ((aX 69), .inl (t 1, 9, .inl (fX 42))), ((aX 70), .inl (t 1, 9, .inl (fX 43))), ((aX 71), .inl (t 1, 9, .inl (fX 44))), ((aX 72), .inl (t 1, 7, .inl (fX 45))), ((aX 73), .inl (t 1, 7, .inl (fX 46))), ((aX 74), .inl (t 1, 7, .inl (fX 47))), ((aX 75), .inl (t 1, 7, .inl (fX 48))), ((aX 76), .inr (1, [.int (iX 42), .ref (aX 77), .ref (aX 78), .ref (aX 79), .ref (aX 80)])), ((aX 77), .inl (t 1, 40, .inl (fX 49))), ((aX 78), .inl (t 1, 40, .inl (fX 50))), ((aX 79), .inl (t 1, 40, .inl (fX 51))), ((aX 80), .inl (t 1, 40, .inl (fX 52))), ((aX 15), .inr (5, [.int (iX 43), .int (iX 44), .int (iX 45), .int (iX 46), .int (iX 47), .int (iX 48), .long (lX 4), .ref (aX 81), .ref (aX 82), .ref (aX 83), .ref (aX 84), .ref (aX 85), .ref (aX 86), .ref (aX 87), .ref (aX 88), .ref (aX 89)])), ((aX 81), .inl (t 1, 9, .inl (fX 53))), ((aX 82), .inl (t 1, 9, .inl (fX 54))), ((aX 83), .inl (t 1, 9, .inl (fX 55))), ((aX 84), .inl (t 1, 9, .inl (fX 56))), ((aX 85), .inl (t 1, 7, .inl (fX 57))), ((aX 86), .inl (t 1, 7, .inl (fX 58))), ((aX 87), .inl (t 1, 7, .inl (fX 59))), ((aX 88), .inl (t 1, 7, .inl (fX 60))), ((aX 89), .inr (1, [.int (iX 49), .ref (aX 90), .ref (aX 91), .ref (aX 92), .ref (aX 93)])), ((aX 90), .inl (t 1, 40, .inl (fX 61))), ((aX 91), .inl (t 1, 40, .inl (fX 62))), ((aX 92), .inl (t 1, 40, .inl (fX 63))), ((aX 93), .inl (t 1, 40, .inl (fX 64))), ((aX 16), .inr (5, [.int (iX 50), .int (iX 51), .int (iX 52), .int (iX 53), .int (iX 54), .int (iX 55), .long (lX 5), .ref (aX 94), .ref (aX 95), .ref (aX 96), .ref (aX 97), .ref (aX 98), .ref (aX 99), .ref (aX 100), .ref (aX 101), .ref (aX 102)])), ((aX 94), .inl (t 1, 9, .inl (fX 65))), ((aX 95), .inl (t 1, 9, .inl (fX 66))), ((aX 96), .inl (t 1, 9, .inl (fX 67))), ((aX 97), .inl (t 1, 9, .inl (fX 68))), ((aX 98), .inl (t 1, 7, .inl (fX 69))), ((aX 99), .inl (t 1, 7, .inl (fX 70))), ((aX 100), .inl (t 1, 7, .inl (fX 71))), ((aX 101), .inl (t 1, 7, .inl (fX 72))), ((aX 102), .inr (1, [.int (iX 56), .ref (aX 103), .ref (aX 104), .ref (aX 105), .ref (aX 106)])), ((aX 103), .inl (t 1, 40, .inl (fX 73))), ((aX 104), .inl (t 1, 40, .inl (fX 74))), ((aX 105), .inl (t 1, 40, .inl (fX 75))), ((aX 106), .inl (t 1, 40, .inl (fX 76)))]
def wM (t : Nat → ClassId) (z : Nat) (aM : Nat → Nat) (iM : Nat → Int32) (lM : Nat → Int64) (fM : Nat → Nat → Int32) (gM : Nat → Nat → Int64) : va_W := [(z, .inr (12, [.int (iM 0), .ref (aM 0), .ref (aM 1), .ref (aM 2), .ref (aM 3), .ref (aM 4), .int (iM 1), .int (iM 2), .int (iM 3), .int (iM 4), .int (iM 5), .long (lM 0), .int (iM 6), .int (iM 7), .int (iM 8), .int (iM 9), .ref (aM 5), .ref (aM 6), .ref (aM 7), .ref (aM 8), .ref (aM 9), .ref (aM 10), .ref (aM 11), .ref (aM 12), .ref (aM 13), .ref (aM 14), .ref (aM 15), .ref (aM 16), .ref (aM 17), .int (iM 10), .int (iM 11), .int (iM 12), .int (iM 13), .int (iM 14), .int (iM 15), .ref (aM 18)])), ((aM 0), .inl (t 1, 4, .inl (fM 0))), ((aM 1), .inl (t 1, 4, .inl (fM 1))), ((aM 2), .inl (t 2, 240, .inr (.inl (gM 0)))), ((aM 3), .inl (t 2, 60, .inr (.inl (gM 1)))), ((aM 4), .inl (t 0, 1400, .inl (fM 2))), ((aM 5), .inl (t 1, 5, .inl (fM 3))), ((aM 6), .inl (t 1, 30, .inl (fM 4))), ((aM 7), .inl (t 1, 180, .inl (fM 5))), ((aM 8), .inl (t 1, 140, .inl (fM 6))), ((aM 9), .inl (t 3, 180, .inl (fM 7))), ((aM 10), .inl (t 1, 800, .inl (fM 8))), ((aM 11), .inl (t 3, 3, .inl (fM 9))), ((aM 12), .inl (t 1, 420, .inl (fM 10))), ((aM 13), .inl (t 1, 36, .inl (fM 11))), ((aM 14), .inl (t 1, 5040, .inl (fM 12))), ((aM 15), .inl (t 1, 1440, .inl (fM 13))), ((aM 16), .inl (t 1, 1440, .inl (fM 14))), ((aM 17), .inl (t 1, 1440, .inl (fM 15))), ((aM 18), .inl (t 1, 6, .inl (fM 16)))]
abbrev InvX (iX : Nat → Int32) (fX : Nat → Nat → Int32) : Prop := (0 ≤ (iX 0).toInt ∧ (iX 0).toInt ≤ 1400) ∧ (0 ≤ (iX 3).toInt ∧ (iX 3).toInt ≤ 1400) ∧ (0 ≤ (iX 9).toInt ∧ (iX 9).toInt ≤ 3) ∧ ((-1) ≤ (iX 10).toInt ∧ (iX 10).toInt ≤ 60) ∧ (0 ≤ (iX 11).toInt ∧ (iX 11).toInt ≤ 3) ∧ ((-1) ≤ (iX 12).toInt ∧ (iX 12).toInt ≤ 60) ∧ (0 ≤ (iX 13).toInt ∧ (iX 13).toInt ≤ 3) ∧ ((-1) ≤ (iX 14).toInt ∧ (iX 14).toInt ≤ 60) ∧ (0 ≤ (iX 15).toInt ∧ (iX 15).toInt ≤ 3) ∧ ((-1) ≤ (iX 16).toInt ∧ (iX 16).toInt ≤ 60) ∧ (0 ≤ (iX 17).toInt ∧ (iX 17).toInt ≤ 1440) ∧ ((-2147483648) ≤ (iX 18).toInt ∧ (iX 18).toInt ≤ 20) ∧ (0 ≤ (iX 23).toInt ∧ (iX 23).toInt ≤ 6) ∧ (0 ≤ (iX 24).toInt ∧ (iX 24).toInt ≤ 6) ∧ (0 ≤ (iX 26).toInt ∧ (iX 26).toInt ≤ 9) ∧ (0 ≤ (iX 27).toInt ∧ (iX 27).toInt ≤ 7) ∧ (0 ≤ (iX 28).toInt ∧ (iX 28).toInt ≤ 40) ∧ (0 ≤ (iX 30).toInt ∧ (iX 30).toInt ≤ 6) ∧ (0 ≤ (iX 31).toInt ∧ (iX 31).toInt ≤ 6) ∧ (0 ≤ (iX 33).toInt ∧ (iX 33).toInt ≤ 9) ∧ (0 ≤ (iX 34).toInt ∧ (iX 34).toInt ≤ 7) ∧ (0 ≤ (iX 35).toInt ∧ (iX 35).toInt ≤ 40) ∧ (0 ≤ (iX 37).toInt ∧ (iX 37).toInt ≤ 6) ∧ (0 ≤ (iX 38).toInt ∧ (iX 38).toInt ≤ 6) ∧ (0 ≤ (iX 40).toInt ∧ (iX 40).toInt ≤ 9) ∧ (0 ≤ (iX 41).toInt ∧ (iX 41).toInt ≤ 7) ∧ (0 ≤ (iX 42).toInt ∧ (iX 42).toInt ≤ 40) ∧ (0 ≤ (iX 44).toInt ∧ (iX 44).toInt ≤ 6) ∧ (0 ≤ (iX 45).toInt ∧ (iX 45).toInt ≤ 6) ∧ (0 ≤ (iX 47).toInt ∧ (iX 47).toInt ≤ 9) ∧ (0 ≤ (iX 48).toInt ∧ (iX 48).toInt ≤ 7) ∧ (0 ≤ (iX 49).toInt ∧ (iX 49).toInt ≤ 40) ∧ (0 ≤ (iX 51).toInt ∧ (iX 51).toInt ≤ 6) ∧ (0 ≤ (iX 52).toInt ∧ (iX 52).toInt ≤ 6) ∧ (0 ≤ (iX 54).toInt ∧ (iX 54).toInt ≤ 9) ∧ (0 ≤ (iX 55).toInt ∧ (iX 55).toInt ≤ 7) ∧ (0 ≤ (iX 56).toInt ∧ (iX 56).toInt ≤ 40) ∧ (Rp (fun _ v => -1 ≤ v ∧ v ≤ 35) 180 (fX 10)) ∧ (Rp (fun _ v => -1 ≤ v ∧ v ≤ 1439) 1440 (fX 14)) ∧ (Rp (fun _ v => 0 ≤ v ∧ v ≤ 1439) 1440 (fX 15)) ∧ (Rp (fun _ v => 0 ≤ v ∧ v ≤ 5) 9 (fX 17)) ∧ (Rp (fun _ v => 0 ≤ v ∧ v ≤ 5) 9 (fX 18)) ∧ (Rp (fun _ v => 0 ≤ v ∧ v ≤ 5) 9 (fX 29)) ∧ (Rp (fun _ v => 0 ≤ v ∧ v ≤ 5) 9 (fX 30)) ∧ (Rp (fun _ v => 0 ≤ v ∧ v ≤ 5) 9 (fX 41)) ∧ (Rp (fun _ v => 0 ≤ v ∧ v ≤ 5) 9 (fX 42)) ∧ (Rp (fun _ v => 0 ≤ v ∧ v ≤ 5) 9 (fX 53)) ∧ (Rp (fun _ v => 0 ≤ v ∧ v ≤ 5) 9 (fX 54)) ∧ (Rp (fun _ v => 0 ≤ v ∧ v ≤ 5) 9 (fX 65)) ∧ (Rp (fun _ v => 0 ≤ v ∧ v ≤ 5) 9 (fX 66))
abbrev InvM (iM : Nat → Int32) (fM : Nat → Nat → Int32) : Prop := (0 ≤ (iM 1).toInt ∧ (iM 1).toInt ≤ 1400) ∧ (0 ≤ (iM 2).toInt ∧ (iM 2).toInt ≤ 1400) ∧ (0 ≤ (iM 5).toInt ∧ (iM 5).toInt ≤ 1000009) ∧ (0 ≤ (iM 10).toInt ∧ (iM 10).toInt ≤ 20) ∧ (Rp (fun _ v => -1 ≤ v ∧ v ≤ 3) 4 (fM 0)) ∧ (Rp (fun _ v => 0 ≤ v ∧ v ≤ 60) 4 (fM 1)) ∧ (Rp (fun i v => 0 ≤ v ∧ (i % 6 = 0 → v ≤ 6) ∧ (i % 6 = 1 → v ≤ 6) ∧ (i % 6 = 3 → v ≤ 9) ∧ (i % 6 = 4 → v ≤ 7) ∧ (i % 6 = 5 → v ≤ 40)) 30 (fM 4)) ∧ (Rp (fun i v => 0 ≤ v ∧ (i % 4 = 0 → v ≤ 5) ∧ (i % 4 = 1 → v ≤ 5) ∧ (i % 4 = 2 → v ≤ 4)) 180 (fM 5)) ∧ (Rp (fun i v => i % 4 = 0 → 0 ≤ v ∧ v ≤ 8) 140 (fM 6)) ∧ (Rp (fun _ v => 0 ≤ v ∧ v ≤ 8) 420 (fM 10)) ∧ (Q4 (fM 8))
abbrev RelS (iX : Nat → Int32) (fX fM : Nat → Nat → Int32) : Prop := (((iX 10).toInt = -1 ∧ ((fM 0) 0).toInt = -1) ∨ (0 ≤ (iX 10).toInt ∧ ((fM 0) 0).toInt = (iX 9).toInt ∧ ((fM 1) 0).toInt = (iX 10).toInt)) ∧ (((iX 12).toInt = -1 ∧ ((fM 0) 1).toInt = -1) ∨ (0 ≤ (iX 12).toInt ∧ ((fM 0) 1).toInt = (iX 11).toInt ∧ ((fM 1) 1).toInt = (iX 12).toInt)) ∧ (((iX 14).toInt = -1 ∧ ((fM 0) 2).toInt = -1) ∨ (0 ≤ (iX 14).toInt ∧ ((fM 0) 2).toInt = (iX 13).toInt ∧ ((fM 1) 2).toInt = (iX 14).toInt)) ∧ (((iX 16).toInt = -1 ∧ ((fM 0) 3).toInt = -1) ∨ (0 ≤ (iX 16).toInt ∧ ((fM 0) 3).toInt = (iX 15).toInt ∧ ((fM 1) 3).toInt = (iX 16).toInt)) ∧ (((fX 1) 0).toInt = 0 ↔ ((fM 9) 0).toInt = 0) ∧ (((fX 1) 1).toInt = 0 ↔ ((fM 9) 1).toInt = 0) ∧ (((fX 1) 2).toInt = 0 ↔ ((fM 9) 2).toInt = 0)
theorem Rw.at {r a b c : Int} {w n w1 n1 : Nat → Int32} (h : Rw r a b c w n w1 n1) (k : Nat) : ((r = 0 ∧ a = k) → (w1 k).toInt = b ∧ (n1 k).toInt = c) ∧ (¬ (r = 0 ∧ a = k) → (w1 k).toInt = (w k).toInt ∧ (n1 k).toInt = (n k).toInt) := by
  refine ⟨fun q => ?_, fun q => ?_⟩
  · have h1 := (h.1 q.1).2
    rw [q.2] at h1
    exact h1
  · by_cases e : r = 0
    · exact (h.1 e).1 k (fun g => q ⟨e, g.symm⟩)
    · exact h.2 e k
theorem Kp.at {r a : Int} {f f1 : Nat → Int32} (h : Kp r a f f1) (k : Nat) : ((r = 0 ∧ a = k) → (f1 k).toInt = 1) ∧ (¬ (r = 0 ∧ a = k) → (f1 k).toInt = (f k).toInt) := by
  refine ⟨fun q => ?_, fun q => ?_⟩
  · have h1 := (h.1 q.1).2
    rw [q.2] at h1
    exact h1
  · by_cases e : r = 0
    · exact (h.1 e).1 k (fun g => q ⟨e, g.symm⟩)
    · exact h.2 e k
theorem i4 {z : Int} (h : 0 ≤ z ∧ z ≤ 3) : z = 0 ∨ z = 1 ∨ z = 2 ∨ z = 3 := by omega
theorem row_cmp {a b c r1 r2 : Int} (h1 : ((r1 = -2 ∧ (¬ (0 ≤ a ∧ a ≤ 3) ∨ ¬ (0 ≤ b ∧ b ≤ 3) ∨ 60 < c)) ∨ (r1 = -3 ∧ (0 ≤ a ∧ a ≤ 3) ∧ (0 ≤ b ∧ b ≤ 3) ∧ c < 0) ∨ (r1 = 0 ∧ (0 ≤ a ∧ a ≤ 3) ∧ (0 ≤ b ∧ b ≤ 3) ∧ 0 ≤ c ∧ c ≤ 60))) (h2 : ((r2 = -2 ∧ (¬ (0 ≤ a ∧ a ≤ 3) ∨ ¬ (0 ≤ b ∧ b ≤ 3) ∨ 60 < c)) ∨ (r2 = -3 ∧ (0 ≤ a ∧ a ≤ 3) ∧ (0 ≤ b ∧ b ≤ 3) ∧ c < 0) ∨ (r2 = 0 ∧ (0 ≤ a ∧ a ≤ 3) ∧ (0 ≤ b ∧ b ≤ 3) ∧ 0 ≤ c ∧ c ≤ 60))) : r1 = r2 := by omega
theorem row_c {a b c r1 : Int} (h1 : ((r1 = -2 ∧ (¬ (0 ≤ a ∧ a ≤ 3) ∨ ¬ (0 ≤ b ∧ b ≤ 3) ∨ 60 < c)) ∨ (r1 = -3 ∧ (0 ≤ a ∧ a ≤ 3) ∧ (0 ≤ b ∧ b ≤ 3) ∧ c < 0) ∨ (r1 = 0 ∧ (0 ≤ a ∧ a ≤ 3) ∧ (0 ≤ b ∧ b ≤ 3) ∧ 0 ≤ c ∧ c ≤ 60))) (q : r1 = 0) : 0 ≤ c := by omega
theorem rel_row {k : Nat} {ki a b c r1 r2 sw sn sw1 sn1 : Int} {w n w1 n1 : Nat → Int32} (hk : (k : Int) = ki) (e : r1 = r2) (hr : ((sn = -1 ∧ (w k).toInt = -1) ∨ (0 ≤ sn ∧ (w k).toInt = sw ∧ (n k).toInt = sn))) (h1 : (r1 = 0 ∧ a = ki) → (sw1 = b ∧ sn1 = c)) (h2 : ¬ (r1 = 0 ∧ a = ki) → (sw1 = sw ∧ sn1 = sn)) (hw : Rw r2 a b c w n w1 n1) (hc : r1 = 0 → 0 ≤ c) : ((sn1 = -1 ∧ (w1 k).toInt = -1) ∨ (0 ≤ sn1 ∧ (w1 k).toInt = sw1 ∧ (n1 k).toInt = sn1)) := by
  subst hk; subst e
  have h := hw.at k
  by_cases q : r1 = 0 ∧ a = k
  · obtain ⟨e1, e2⟩ := h1 q
    obtain ⟨e3, e4⟩ := h.1 q
    have := hc q.1
    rw [e1, e2, e3, e4]
    omega
  · obtain ⟨e1, e2⟩ := h2 q
    obtain ⟨e3, e4⟩ := h.2 q
    rw [e1, e2, e3, e4]
    exact hr
theorem img_cmp {a r1 r2 : Int} (h1 : (r1 = 0 ∧ (0 ≤ a ∧ a ≤ 2)) ∨ (r1 = -2 ∧ (a < 0 ∨ 2 < a))) (h2 : ((r2 = -2 ∧ ¬ (0 ≤ a ∧ a ≤ 2)) ∨ (r2 = 0 ∧ (0 ≤ a ∧ a ≤ 2)))) : r1 = r2 := by omega
theorem rel_img {q : Nat} {k a r2 : Int} {f f1 g g1 : Nat → Int32} (hk : a = k) (hr : 0 ≤ k ∧ k ≤ 2) (h0 : (f q).toInt = 0 ↔ (g q).toInt = 0) (h1 : Kp 0 k f f1) (h2 : ((r2 = -2 ∧ ¬ (0 ≤ a ∧ a ≤ 2)) ∨ (r2 = 0 ∧ (0 ≤ a ∧ a ≤ 2))) ∧ Kp r2 a g g1) : (f1 q).toInt = 0 ↔ (g1 q).toInt = 0 := by
  subst hk
  have e : r2 = 0 := by have := h2.1; omega
  have p1 := h1.at q
  have p2 := h2.2.at q
  rw [e] at p2
  by_cases d : a = q
  · rw [p1.1 ⟨rfl, d⟩, p2.1 ⟨rfl, d⟩]
  · rw [p1.2 (fun z => d z.2), p2.2 (fun z => d z.2)]; exact h0
theorem rel_imgN {q : Nat} {a r2 : Int} {f g g1 : Nat → Int32} (hr : a < 0 ∨ 2 < a) (h0 : (f q).toInt = 0 ↔ (g q).toInt = 0) (h2 : ((r2 = -2 ∧ ¬ (0 ≤ a ∧ a ≤ 2)) ∨ (r2 = 0 ∧ (0 ≤ a ∧ a ≤ 2))) ∧ Kp r2 a g g1) : (f q).toInt = 0 ↔ (g1 q).toInt = 0 := by
  have e : ¬ r2 = 0 := by have := h2.1; omega
  rw [(h2.2.at q).2 (fun z => e z.1)]; exact h0
theorem bk_cmp {k : Nat} {a r1 r2 : Int} {f g : Nat → Int32} (hk : a = k) (hr : 0 ≤ a ∧ a ≤ 2) (h0 : (f k).toInt = 0 ↔ (g k).toInt = 0) (h1 : (r1 = -6 ∧ (f k).toInt = 0) ∨ (r1 = 0 ∧ ¬ (f k).toInt = 0)) (h2 : (r2 = -2 ∧ ¬ (0 ≤ a ∧ a ≤ 2)) ∨ ((0 ≤ a ∧ a ≤ 2) ∧ ((r2 = -6 ∧ (g a.toNat).toInt = 0) ∨ (r2 = 0 ∧ ¬ (g a.toNat).toInt = 0)))) : r1 = r2 := by
  subst hk
  rw [Int.toNat_natCast] at h2
  omega
theorem bkN_cmp {a r1 r2 : Int} {P : Prop} (h1 : r1 = -2) (hr : a < 0 ∨ 2 < a) (h2 : (r2 = -2 ∧ ¬ (0 ≤ a ∧ a ≤ 2)) ∨ ((0 ≤ a ∧ a ≤ 2) ∧ P)) : r1 = r2 := by
  rcases h2 with h | h
  · rw [h1, h.1]
  · have := h.1; omega
theorem sel4_0 {a b c d : Int} : sel4 0 a b c d = a := by unfold sel4; rw [if_pos rfl]
theorem sel4_1 {a b c d : Int} : sel4 1 a b c d = b := by unfold sel4; rw [if_neg (by decide), if_pos rfl]
theorem sel4_2 {a b c d : Int} : sel4 2 a b c d = c := by unfold sel4; rw [if_neg (by decide), if_neg (by decide), if_pos rfl]
theorem sel4_3 {a b c d : Int} : sel4 3 a b c d = d := by unfold sel4; rw [if_neg (by decide), if_neg (by decide), if_neg (by decide)]
set_option maxHeartbeats 4000000 in
theorem ps_cmp {w n : Nat → Int32} {a b c d e r1 r2 sw0 sn0 sw1 sn1 sw2 sn2 sw3 sn3 : Int} (R0 : ((sn0 = -1 ∧ (w 0).toInt = -1) ∨ (0 ≤ sn0 ∧ (w 0).toInt = sw0 ∧ (n 0).toInt = sn0))) (R1 : ((sn1 = -1 ∧ (w 1).toInt = -1) ∨ (0 ≤ sn1 ∧ (w 1).toInt = sw1 ∧ (n 1).toInt = sn1))) (R2 : ((sn2 = -1 ∧ (w 2).toInt = -1) ∨ (0 ≤ sn2 ∧ (w 2).toInt = sw2 ∧ (n 2).toInt = sn2))) (R3 : ((sn3 = -1 ∧ (w 3).toInt = -1) ∨ (0 ≤ sn3 ∧ (w 3).toInt = sw3 ∧ (n 3).toInt = sn3))) (S0 : 0 ≤ sw0 ∧ sw0 ≤ 3) (S1 : 0 ≤ sw1 ∧ sw1 ≤ 3) (S2 : 0 ≤ sw2 ∧ sw2 ≤ 3) (S3 : 0 ≤ sw3 ∧ sw3 ≤ 3) (h1 : (r1 = -2 ∧ (¬ (0 ≤ a ∧ a ≤ 3) ∨ ¬ (0 ≤ c ∧ c ≤ 3))) ∨ (((0 ≤ a ∧ a ≤ 3) ∧ (0 ≤ c ∧ c ≤ 3)) ∧ ((r1 = -6 ∧ ((sel4 a sn0 sn1 sn2 sn3) = -1 ∨ (sel4 c sn0 sn1 sn2 sn3) = -1)) ∨ ((¬ (sel4 a sn0 sn1 sn2 sn3) = -1 ∧ ¬ (sel4 c sn0 sn1 sn2 sn3) = -1) ∧ ((r1 = -8 ∧ ¬ (sel4 a sw0 sw1 sw2 sw3) = (sel4 c sw0 sw1 sw2 sw3)) ∨ ((sel4 a sw0 sw1 sw2 sw3) = (sel4 c sw0 sw1 sw2 sw3) ∧ ((r1 = 0 ∧ (0 ≤ b ∧ 0 ≤ d ∧ 0 ≤ e ∧ b + e ≤ (sel4 a sn0 sn1 sn2 sn3) ∧ d + e ≤ (sel4 c sn0 sn1 sn2 sn3))) ∨ (r1 = -7 ∧ ¬ (0 ≤ b ∧ 0 ≤ d ∧ 0 ≤ e ∧ b + e ≤ (sel4 a sn0 sn1 sn2 sn3) ∧ d + e ≤ (sel4 c sn0 sn1 sn2 sn3)))))))))) (h2 : (r2 = -2 ∧ (¬ (0 ≤ a ∧ a ≤ 3) ∨ ¬ (0 ≤ c ∧ c ≤ 3))) ∨ (((0 ≤ a ∧ a ≤ 3) ∧ (0 ≤ c ∧ c ≤ 3)) ∧ ((r2 = -6 ∧ ((w a.toNat).toInt = -1 ∨ (w c.toNat).toInt = -1)) ∨ ((¬ (w a.toNat).toInt = -1 ∧ ¬ (w c.toNat).toInt = -1) ∧ ((r2 = -8 ∧ ¬ (w a.toNat).toInt = (w c.toNat).toInt) ∨ ((w a.toNat).toInt = (w c.toNat).toInt ∧ ((r2 = 0 ∧ (0 ≤ b ∧ 0 ≤ d ∧ 0 ≤ e ∧ b + e ≤ (n a.toNat).toInt ∧ d + e ≤ (n c.toNat).toInt)) ∨ (r2 = -7 ∧ ¬ (0 ≤ b ∧ 0 ≤ d ∧ 0 ≤ e ∧ b + e ≤ (n a.toNat).toInt ∧ d + e ≤ (n c.toNat).toInt))))))))) : r1 = r2 := by
  by_cases hs : (0 ≤ a ∧ a ≤ 3) ∧ (0 ≤ c ∧ c ≤ 3)
  · rcases i4 hs.1 with rfl | rfl | rfl | rfl
    · rcases i4 hs.2 with rfl | rfl | rfl | rfl
      · simp only [sel4_0, sel4_0, not_true_eq_false, and_false, false_or, true_and, or_false, and_true, or_self, and_self] at h1; simp only [show (0 : Int).toNat = 0 from rfl, show (0 : Int).toNat = 0 from rfl, not_true_eq_false, and_false, false_or, true_and, or_false, and_true, or_self, and_self] at h2; clear R1 R2 R3; omega
      · simp only [sel4_0, sel4_1, not_true_eq_false, and_false, false_or, true_and, or_false, and_true, or_self, and_self] at h1; simp only [show (0 : Int).toNat = 0 from rfl, show (1 : Int).toNat = 1 from rfl, not_true_eq_false, and_false, false_or, true_and, or_false, and_true, or_self, and_self] at h2; clear R2 R3; omega
      · simp only [sel4_0, sel4_2, not_true_eq_false, and_false, false_or, true_and, or_false, and_true, or_self, and_self] at h1; simp only [show (0 : Int).toNat = 0 from rfl, show (2 : Int).toNat = 2 from rfl, not_true_eq_false, and_false, false_or, true_and, or_false, and_true, or_self, and_self] at h2; clear R1 R3; omega
      · simp only [sel4_0, sel4_3, not_true_eq_false, and_false, false_or, true_and, or_false, and_true, or_self, and_self] at h1; simp only [show (0 : Int).toNat = 0 from rfl, show (3 : Int).toNat = 3 from rfl, not_true_eq_false, and_false, false_or, true_and, or_false, and_true, or_self, and_self] at h2; clear R1 R2; omega
    · rcases i4 hs.2 with rfl | rfl | rfl | rfl
      · simp only [sel4_1, sel4_0, not_true_eq_false, and_false, false_or, true_and, or_false, and_true, or_self, and_self] at h1; simp only [show (1 : Int).toNat = 1 from rfl, show (0 : Int).toNat = 0 from rfl, not_true_eq_false, and_false, false_or, true_and, or_false, and_true, or_self, and_self] at h2; clear R2 R3; omega
      · simp only [sel4_1, sel4_1, not_true_eq_false, and_false, false_or, true_and, or_false, and_true, or_self, and_self] at h1; simp only [show (1 : Int).toNat = 1 from rfl, show (1 : Int).toNat = 1 from rfl, not_true_eq_false, and_false, false_or, true_and, or_false, and_true, or_self, and_self] at h2; clear R0 R2 R3; omega
      · simp only [sel4_1, sel4_2, not_true_eq_false, and_false, false_or, true_and, or_false, and_true, or_self, and_self] at h1; simp only [show (1 : Int).toNat = 1 from rfl, show (2 : Int).toNat = 2 from rfl, not_true_eq_false, and_false, false_or, true_and, or_false, and_true, or_self, and_self] at h2; clear R0 R3; omega
      · simp only [sel4_1, sel4_3, not_true_eq_false, and_false, false_or, true_and, or_false, and_true, or_self, and_self] at h1; simp only [show (1 : Int).toNat = 1 from rfl, show (3 : Int).toNat = 3 from rfl, not_true_eq_false, and_false, false_or, true_and, or_false, and_true, or_self, and_self] at h2; clear R0 R2; omega
    · rcases i4 hs.2 with rfl | rfl | rfl | rfl
      · simp only [sel4_2, sel4_0, not_true_eq_false, and_false, false_or, true_and, or_false, and_true, or_self, and_self] at h1; simp only [show (2 : Int).toNat = 2 from rfl, show (0 : Int).toNat = 0 from rfl, not_true_eq_false, and_false, false_or, true_and, or_false, and_true, or_self, and_self] at h2; clear R1 R3; omega
      · simp only [sel4_2, sel4_1, not_true_eq_false, and_false, false_or, true_and, or_false, and_true, or_self, and_self] at h1; simp only [show (2 : Int).toNat = 2 from rfl, show (1 : Int).toNat = 1 from rfl, not_true_eq_false, and_false, false_or, true_and, or_false, and_true, or_self, and_self] at h2; clear R0 R3; omega
      · simp only [sel4_2, sel4_2, not_true_eq_false, and_false, false_or, true_and, or_false, and_true, or_self, and_self] at h1; simp only [show (2 : Int).toNat = 2 from rfl, show (2 : Int).toNat = 2 from rfl, not_true_eq_false, and_false, false_or, true_and, or_false, and_true, or_self, and_self] at h2; clear R0 R1 R3; omega
      · simp only [sel4_2, sel4_3, not_true_eq_false, and_false, false_or, true_and, or_false, and_true, or_self, and_self] at h1; simp only [show (2 : Int).toNat = 2 from rfl, show (3 : Int).toNat = 3 from rfl, not_true_eq_false, and_false, false_or, true_and, or_false, and_true, or_self, and_self] at h2; clear R0 R1; omega
    · rcases i4 hs.2 with rfl | rfl | rfl | rfl
      · simp only [sel4_3, sel4_0, not_true_eq_false, and_false, false_or, true_and, or_false, and_true, or_self, and_self] at h1; simp only [show (3 : Int).toNat = 3 from rfl, show (0 : Int).toNat = 0 from rfl, not_true_eq_false, and_false, false_or, true_and, or_false, and_true, or_self, and_self] at h2; clear R1 R2; omega
      · simp only [sel4_3, sel4_1, not_true_eq_false, and_false, false_or, true_and, or_false, and_true, or_self, and_self] at h1; simp only [show (3 : Int).toNat = 3 from rfl, show (1 : Int).toNat = 1 from rfl, not_true_eq_false, and_false, false_or, true_and, or_false, and_true, or_self, and_self] at h2; clear R0 R2; omega
      · simp only [sel4_3, sel4_2, not_true_eq_false, and_false, false_or, true_and, or_false, and_true, or_self, and_self] at h1; simp only [show (3 : Int).toNat = 3 from rfl, show (2 : Int).toNat = 2 from rfl, not_true_eq_false, and_false, false_or, true_and, or_false, and_true, or_self, and_self] at h2; clear R0 R1; omega
      · simp only [sel4_3, sel4_3, not_true_eq_false, and_false, false_or, true_and, or_false, and_true, or_self, and_self] at h1; simp only [show (3 : Int).toNat = 3 from rfl, show (3 : Int).toNat = 3 from rfl, not_true_eq_false, and_false, false_or, true_and, or_false, and_true, or_self, and_self] at h2; clear R0 R1 R2; omega
  · clear R0 R1 R2 R3
    have h3 : r1 = -2 := by rcases h1 with h | h; exact h.1; exact absurd h.1 hs
    have h4 : r2 = -2 := by rcases h2 with h | h; exact h.1; exact absurd h.1 hs
    rw [h3, h4]
theorem wr_cmp {w n : Nat → Int32} {a b r1 r2 sw0 sn0 sw1 sn1 sw2 sn2 sw3 sn3 : Int} (R0 : ((sn0 = -1 ∧ (w 0).toInt = -1) ∨ (0 ≤ sn0 ∧ (w 0).toInt = sw0 ∧ (n 0).toInt = sn0))) (R1 : ((sn1 = -1 ∧ (w 1).toInt = -1) ∨ (0 ≤ sn1 ∧ (w 1).toInt = sw1 ∧ (n 1).toInt = sn1))) (R2 : ((sn2 = -1 ∧ (w 2).toInt = -1) ∨ (0 ≤ sn2 ∧ (w 2).toInt = sw2 ∧ (n 2).toInt = sn2))) (R3 : ((sn3 = -1 ∧ (w 3).toInt = -1) ∨ (0 ≤ sn3 ∧ (w 3).toInt = sw3 ∧ (n 3).toInt = sn3))) (S0 : 0 ≤ sw0 ∧ sw0 ≤ 3) (S1 : 0 ≤ sw1 ∧ sw1 ≤ 3) (S2 : 0 ≤ sw2 ∧ sw2 ≤ 3) (S3 : 0 ≤ sw3 ∧ sw3 ≤ 3) (h1 : ((r1 = -2 ∧ ¬ (0 ≤ a ∧ a ≤ 3)) ∨ (a = 0 ∧ ((r1 = -6 ∧ sn0 = -1) ∨ (0 ≤ sn0 ∧ ((r1 = 0 ∧ 0 ≤ b ∧ b < sn0) ∨ (r1 = -7 ∧ ¬ (0 ≤ b ∧ b < sn0)))))) ∨ (a = 1 ∧ ((r1 = -6 ∧ sn1 = -1) ∨ (0 ≤ sn1 ∧ ((r1 = 0 ∧ 0 ≤ b ∧ b < sn1) ∨ (r1 = -7 ∧ ¬ (0 ≤ b ∧ b < sn1)))))) ∨ (a = 2 ∧ ((r1 = -6 ∧ sn2 = -1) ∨ (0 ≤ sn2 ∧ ((r1 = 0 ∧ 0 ≤ b ∧ b < sn2) ∨ (r1 = -7 ∧ ¬ (0 ≤ b ∧ b < sn2)))))) ∨ (a = 3 ∧ ((r1 = -6 ∧ sn3 = -1) ∨ (0 ≤ sn3 ∧ ((r1 = 0 ∧ 0 ≤ b ∧ b < sn3) ∨ (r1 = -7 ∧ ¬ (0 ≤ b ∧ b < sn3)))))))) (h2 : (r2 = -2 ∧ ¬ (0 ≤ a ∧ a ≤ 3)) ∨ ((0 ≤ a ∧ a ≤ 3) ∧ ((r2 = -6 ∧ (w a.toNat).toInt = -1) ∨ (¬ (w a.toNat).toInt = -1 ∧ ((r2 = 0 ∧ (0 ≤ b ∧ b < (n a.toNat).toInt)) ∨ (r2 = -7 ∧ ¬ (0 ≤ b ∧ b < (n a.toNat).toInt))))))) : r1 = r2 := by
  by_cases hs : 0 ≤ a ∧ a ≤ 3
  · rcases i4 hs with rfl | rfl | rfl | rfl
    · have h2 := h2; simp only [show (0 : Int).toNat = 0 from rfl] at h2; clear R1 R2 R3; omega
    · have h2 := h2; simp only [show (1 : Int).toNat = 1 from rfl] at h2; clear R0 R2 R3; omega
    · have h2 := h2; simp only [show (2 : Int).toNat = 2 from rfl] at h2; clear R0 R1 R3; omega
    · have h2 := h2; simp only [show (3 : Int).toNat = 3 from rfl] at h2; clear R0 R1 R2; omega
  · clear R0 R1 R2 R3; omega
def Nx (p : Program) (l : Launch) (e : Env) (s : State) (m : MethodId) (below : List Frame) (meth : Method) (c : Code) (b : Nat) (A : Nat → Prop) (G : va_G) (t : Nat → ClassId) (x z : Nat) (i : Int32) : Prop := ∀ (aX : Nat → Nat) (iX : Nat → Int32) (lX : Nat → Int64) (fX : Nat → Nat → Int32) (gX : Nat → Nat → Int64) (aM : Nat → Nat) (iM : Nat → Int32) (lM : Nat → Int64) (fM : Nat → Nat → Int32) (gM : Nat → Nat → Int64), InvX iX fX → InvM iM fM → RelS iX fX fM → ∀ (H : Heap) (locs : List Loc) (ls : Array Slot), lv_has ls 4 [(3, .int i), (2, .ref z), (1, .ref x), (0, .ref b)] → va_P G vwCl (wX t x aX iX lX fX gX ++ wM t z aM iM lM fM gM) H → va_D A (wX t x aX iX lX fX gX ++ wM t z aM iM lM fM gM) → va_S A s.heap H locs → W p l e room_1 s m #[Value.ref b] below meth c H locs 600000 7302250 (lw_Z below #[Value.ref b] s) (F0 m 2145 ls [])
section RL0
variable {p : Program} {l : Launch} {e : Env} {R : Room} {s : State} {m : MethodId} {args : Array Value} {below : List Frame} {meth : Method} {c : Code} {H H0 : Heap} {locs : List Loc} {cells slots : Nat} {Q : State → Prop}
variable {cc : ByteArray} {pc : Nat} {ls : Array Slot} {rest : List Value} {A : Nat → Prop} {b L : Nat} {xs : Nat → Int32}
theorem scr (hx : p.tables.exec = Jvm.exec) (hb : c.code = cc) (hX : va_X b L xs s H0) (hbl : b < H0.size) (hbA : ¬ A b) (hS : va_S A H0 H locs) {i : Int32} (iz : Int) (ei : i.toInt = iz) (h : 0 ≤ iz ∧ iz < L) (hdg : decode cc pc = .ok (.iaload, 1)) (kk : ∀ y : Int32, y = xs iz.toNat → W p l e R s m args below meth c H locs cells slots Q (F0 m (pc + 1) ls (.int y :: rest))) : W p l e R s m args below meth c H locs cells slots Q (F0 m pc ls (.int i :: .ref b :: rest)) := by
  subst ei; exact va_sld hx hb hX hbl hbA hS (znn h.1 h.2).1 hdg (kk _ rfl)
theorem slZ (hx : p.tables.exec = Jvm.exec) (hb : c.code = cc) (hX : va_X b L xs s H0) (hbl : b < H0.size) (hbA : ¬ A b) (hS : va_S A H0 H locs) (hL : L ≤ 3072) (hdg : decode cc pc = .ok (.arraylength, 1)) (kk : ∀ y : Int32, y.toInt = L → W p l e R s m args below meth c H locs cells slots Q (F0 m (pc + 1) ls (.int y :: rest))) : W p l e R s m args below meth c H locs cells slots Q (F0 m pc ls (.ref b :: rest)) :=
  va_slen hx hb hX hbl hbA hS hdg (kk _ (nI_toInt (by omega)))
end RL0

theorem ac_prim {s : State} {args : Array Value} {ty : FieldType} (ho : ∀ C, ty ≠ .object C) (h : (Cond.arrayClass ty).before args s = true) : ∃ cA : ClassId, ArrOfT s cA ty ∧ va_RA s cA ty := by
  obtain ⟨cA, kA, comp, h1, h2, h3⟩ := Cond.arrayClass_spec h
  refine ⟨cA, fun n z => ⟨fun k h => (by cases h), kA, h2, comp, h3⟩, ?_⟩
  cases ty with
  | object C => exact absurd rfl (ho C)
  | _ => exact h1
theorem ac_ref {s : State} {args : Array Value} {C : String} (h : (Cond.arrayOver (.object C)).before args s = true) : ∃ cA : ClassId, ArrOfT s cA (.object C) ∧ va_RA s cA (.object C) := by
  obtain ⟨comp, cA, kA, h1, h2, h3, h4, h5⟩ := Cond.arrayOver_spec h
  exact ⟨cA, fun n z => ⟨fun k h => (by cases h), kA, h3, comp, h4⟩, kA, comp, h3, h4, h1, h5⟩
theorem law_nest {s : State} {args : Array Value} (hts : ∀ w ∈ lw_tbl, w.before args s = true) : nestOK s := by
  refine ⟨fun w hw => ?_, va_AO.of (hts (Cond.arrayOver (.object RX5)) (List.mem_append_right _ (List.mem_append_left _ (List.mem_of_getElem? (i := 42) (by decide +kernel))))), va_AO.of (hts (Cond.arrayOver (.object RX8)) (List.mem_append_right _ (List.mem_append_left _ (List.mem_of_getElem? (i := 44) (by decide +kernel)))))⟩
  have h1 := hts w (nestL_in w hw)
  simp only [nestL, List.mem_cons, List.not_mem_nil, or_false] at hw
  rcases hw with rfl | rfl | rfl | rfl | rfl | rfl | rfl | rfl | rfl | rfl | rfl | rfl | rfl | rfl | rfl | rfl | rfl | rfl | rfl <;> exact va_Nw.of rfl h1
theorem law_known {s : State} {args : Array Value} (hts : ∀ w ∈ TB, w.before args s = true) (hts0 : ∀ w ∈ lw_tbl, w.before args s = true) : ∃ (G : va_G) (t : Nat → ClassId), tyK G t s := by
  obtain ⟨c0, i0, k0⟩ := u_known (C := RX0) (T := TX0) (N := 5) (n := 5) hts inT0 (hts _ tw1_236)
  obtain ⟨c1, i1, k1⟩ := u_known (C := RX1) (T := TX1) (N := 5) (n := 5) hts inT1 (hts _ tw1_51)
  obtain ⟨c2, i2, k2⟩ := u_known (C := RX2) (T := TX2) (N := 2) (n := 2) hts inT2 (hts _ tw2_22)
  obtain ⟨c3, i3, k3⟩ := u_known (C := RX3) (T := TX3) (N := 3) (n := 3) hts inT3 (hts _ tw2_110)
  obtain ⟨c4, i4, k4⟩ := u_known (C := RX4) (T := TX4) (N := 2) (n := 2) hts inT4 (hts _ tw2_35)
  obtain ⟨c5, i5, k5⟩ := u_known (C := RX5) (T := TX5) (N := 16) (n := 16) hts inT5 (hts _ tw1_45)
  obtain ⟨c6, i6, k6⟩ := u_known (C := RX6) (T := TX6) (N := 10) (n := 10) hts inT6 (hts _ tw1_197)
  obtain ⟨c7, i7, k7⟩ := u_known (C := RX7) (T := TX7) (N := 15) (n := 15) hts inT7 (hts _ tw2_48)
  obtain ⟨c8, i8, k8⟩ := u_known (C := RX8) (T := TX8) (N := 3) (n := 3) hts inT8 (hts _ tw1_176)
  obtain ⟨c9, i9, k9⟩ := u_known (C := RX9) (T := TX9) (N := 1) (n := 1) hts inT9 (hts _ tw2_100)
  obtain ⟨c10, i10, k10⟩ := u_known (C := RX10) (T := TX10) (N := 2) (n := 2) hts inT10 (hts _ tw1_27)
  obtain ⟨c11, i11, k11⟩ := u_known (C := RX11) (T := TX11) (N := 13) (n := 13) hts inT11 (hts _ tw1_19)
  obtain ⟨c12, i12, k12⟩ := u_known (C := RX12) (T := TX12) (N := 36) (n := 36) hts inT12 (hts _ tw5_220)
  obtain ⟨t0, a0⟩ := ac_prim (fun C h => by cases h) (hts _ tw1_40)
  obtain ⟨t1, a1⟩ := ac_prim (fun C h => by cases h) (hts _ tw1_79)
  obtain ⟨t2, a2⟩ := ac_prim (fun C h => by cases h) (hts _ tw1_195)
  obtain ⟨t3, a3⟩ := ac_prim (fun C h => by cases h) (hts _ tw1_78)
  have hO := law_nest hts0
  obtain ⟨t4, a4⟩ := ac_ref (C := RX5) (va_AO.use (A := #[]) hO.2.1)
  obtain ⟨t5, a5⟩ := ac_ref (C := RX8) (va_AO.use (A := #[]) hO.2.2)
  refine ⟨(fun k => match k with | 0 => c0 | 1 => c1 | 2 => c2 | 3 => c3 | 4 => c4 | 5 => c5 | 6 => c6 | 7 => c7 | 8 => c8 | 9 => c9 | 10 => c10 | 11 => c11 | _ => c12, fun k => match k with | 0 => i0 | 1 => i1 | 2 => i2 | 3 => i3 | 4 => i4 | 5 => i5 | 6 => i6 | 7 => i7 | 8 => i8 | 9 => i9 | 10 => i10 | 11 => i11 | _ => i12), (fun k => match k with | 0 => t0 | 1 => t1 | 2 => t2 | 3 => t3 | 4 => t4 | _ => t5), ?_, ?_⟩
  · intro k q hq
    match k, hq with
    | 0, hq => cases hq; exact k0
    | 1, hq => cases hq; exact k1
    | 2, hq => cases hq; exact k2
    | 3, hq => cases hq; exact k3
    | 4, hq => cases hq; exact k4
    | 5, hq => cases hq; exact k5
    | 6, hq => cases hq; exact k6
    | 7, hq => cases hq; exact k7
    | 8, hq => cases hq; exact k8
    | 9, hq => cases hq; exact k9
    | 10, hq => cases hq; exact k10
    | 11, hq => cases hq; exact k11
    | 12, hq => cases hq; exact k12
    | n + 13, hq => simp [vwCl] at hq
  · intro k q hq
    match k, hq with
    | 0, hq => cases hq; exact a0
    | 1, hq => cases hq; exact a1
    | 2, hq => cases hq; exact a2
    | 3, hq => cases hq; exact a3
    | 4, hq => cases hq; exact a4
    | 5, hq => cases hq; exact a5
    | n + 6, hq => simp [tyL] at hq

set_option maxHeartbeats 4000000 in
set_option maxRecDepth 100000 in
theorem x_isAct (l : Launch) (G : va_G) (t : Nat → ClassId) (a0 : Int32) : Ct l G t yX11_isAct cX11_isAct 1 (some .boolean) ({ frames := 0, cells := 0, slots := 0, locals := 0 }) [.int a0] [] (QI G (fun r (u : Unit) => (r.toInt = 0 ∨ (r.toInt = 1 ∧ 0 ≤ a0.toInt ∧ a0.toInt ≤ 59))) (fun (u : Unit) => [])) := by
  refine ent (by decide) (Nat.le_of_ble_eq_true rfl) ?_
  intro p e s m args below meth c hx hb hr hml hts hown hlocks hin A hA hK hO hP hD hS ls hl
  have hown : s.vm.findClass RX11 = some m.cls := hown
  have hl : lv_has ls 1 [(0, .int a0)] := hl
  have C0 : Cx p s m args c cX11_isAct 1 RX11 G t := ⟨hx, hb, hml, hown, hts, hK, hO⟩
  have := zrng a0
  refine lv_iload_n hx hb dX11_isAct_0 rfl (lv_at hl 0 rfl) ?_
  refine bF_lt (tgt := 14) hx hb dX11_isAct_1 (by decide) a0.toInt rfl (fun c_1 => ?_) (fun c_1 => ?_)
  · refine lv_iconst (v := 0) hx hb dX11_isAct_14 (by decide) ?_
    exact rtZ hx hb hr hlocks hS rfl () ((show (0 : Int32).toInt = 0 ∨ ((0 : Int32).toInt = 1 ∧ 0 ≤ a0.toInt ∧ a0.toInt ≤ 59) from (by have : (0 : Int32).toInt = 0 := rfl; omega))) (hP.sub [] rfl) (hD.sub [] (by decide) rfl) dX11_isAct_15
  · refine lv_iload_n hx hb dX11_isAct_4 rfl (lv_at hl 0 rfl) ?_
    refine lv_bipush (v := 60) hx hb dX11_isAct_5 (by decide) ?_
    refine bI_ge (tgt := 14) hx hb dX11_isAct_7 (by decide) a0.toInt 60 rfl rfl (fun c_2 => ?_) (fun c_2 => ?_)
    · refine lv_iconst (v := 0) hx hb dX11_isAct_14 (by decide) ?_
      exact rtZ hx hb hr hlocks hS rfl () ((show (0 : Int32).toInt = 0 ∨ ((0 : Int32).toInt = 1 ∧ 0 ≤ a0.toInt ∧ a0.toInt ≤ 59) from (by have : (0 : Int32).toInt = 0 := rfl; omega))) (hP.sub [] rfl) (hD.sub [] (by decide) rfl) dX11_isAct_15
    · refine lv_iconst (v := 1) hx hb dX11_isAct_10 (by decide) ?_
      refine lv_goto (tgt := 15) hx hb dX11_isAct_11 (by decide) ?_
      exact rtZ hx hb hr hlocks hS rfl () ((show (1 : Int32).toInt = 0 ∨ ((1 : Int32).toInt = 1 ∧ 0 ≤ a0.toInt ∧ a0.toInt ≤ 59) from (by have : (1 : Int32).toInt = 1 := rfl; omega))) (hP.sub [] rfl) (hD.sub [] (by decide) rfl) dX11_isAct_15

set_option maxHeartbeats 4000000 in
set_option maxRecDepth 100000 in
theorem x_isCountOfActs (l : Launch) (G : va_G) (t : Nat → ClassId) (a0 : Int32) : Ct l G t yX11_isCountOfActs cX11_isCountOfActs 1 (some .boolean) ({ frames := 0, cells := 0, slots := 0, locals := 0 }) [.int a0] [] (QI G (fun r (u : Unit) => (r.toInt = 0 ∨ (r.toInt = 1 ∧ 1 ≤ a0.toInt ∧ a0.toInt ≤ 60))) (fun (u : Unit) => [])) := by
  refine ent (by decide) (Nat.le_of_ble_eq_true rfl) ?_
  intro p e s m args below meth c hx hb hr hml hts hown hlocks hin A hA hK hO hP hD hS ls hl
  have hown : s.vm.findClass RX11 = some m.cls := hown
  have hl : lv_has ls 1 [(0, .int a0)] := hl
  have C0 : Cx p s m args c cX11_isCountOfActs 1 RX11 G t := ⟨hx, hb, hml, hown, hts, hK, hO⟩
  have := zrng a0
  refine lv_iload_n hx hb dX11_isCountOfActs_0 rfl (lv_at hl 0 rfl) ?_
  refine lv_iconst (v := 1) hx hb dX11_isCountOfActs_1 (by decide) ?_
  refine bI_lt (tgt := 15) hx hb dX11_isCountOfActs_2 (by decide) a0.toInt 1 rfl rfl (fun c_1 => ?_) (fun c_1 => ?_)
  · refine lv_iconst (v := 0) hx hb dX11_isCountOfActs_15 (by decide) ?_
    exact rtZ hx hb hr hlocks hS rfl () ((show (0 : Int32).toInt = 0 ∨ ((0 : Int32).toInt = 1 ∧ 1 ≤ a0.toInt ∧ a0.toInt ≤ 60) from (by have : (0 : Int32).toInt = 0 := rfl; omega))) (hP.sub [] rfl) (hD.sub [] (by decide) rfl) dX11_isCountOfActs_16
  · refine lv_iload_n hx hb dX11_isCountOfActs_5 rfl (lv_at hl 0 rfl) ?_
    refine lv_bipush (v := 60) hx hb dX11_isCountOfActs_6 (by decide) ?_
    refine bI_gt (tgt := 15) hx hb dX11_isCountOfActs_8 (by decide) a0.toInt 60 rfl rfl (fun c_2 => ?_) (fun c_2 => ?_)
    · refine lv_iconst (v := 0) hx hb dX11_isCountOfActs_15 (by decide) ?_
      exact rtZ hx hb hr hlocks hS rfl () ((show (0 : Int32).toInt = 0 ∨ ((0 : Int32).toInt = 1 ∧ 1 ≤ a0.toInt ∧ a0.toInt ≤ 60) from (by have : (0 : Int32).toInt = 0 := rfl; omega))) (hP.sub [] rfl) (hD.sub [] (by decide) rfl) dX11_isCountOfActs_16
    · refine lv_iconst (v := 1) hx hb dX11_isCountOfActs_11 (by decide) ?_
      refine lv_goto (tgt := 16) hx hb dX11_isCountOfActs_12 (by decide) ?_
      exact rtZ hx hb hr hlocks hS rfl () ((show (1 : Int32).toInt = 0 ∨ ((1 : Int32).toInt = 1 ∧ 1 ≤ a0.toInt ∧ a0.toInt ≤ 60) from (by have : (1 : Int32).toInt = 1 := rfl; omega))) (hP.sub [] rfl) (hD.sub [] (by decide) rfl) dX11_isCountOfActs_16

set_option maxHeartbeats 4000000 in
set_option maxRecDepth 100000 in
theorem x_isBehind (l : Launch) (G : va_G) (t : Nat → ClassId) (a0 : Int32) : Ct l G t yX11_isBehind cX11_isBehind 1 (some .boolean) ({ frames := 0, cells := 0, slots := 0, locals := 0 }) [.int a0] [] (QI G (fun r (u : Unit) => (r.toInt = 0 ∨ (r.toInt = 1 ∧ 0 ≤ a0.toInt ∧ a0.toInt ≤ 4))) (fun (u : Unit) => [])) := by
  refine ent (by decide) (Nat.le_of_ble_eq_true rfl) ?_
  intro p e s m args below meth c hx hb hr hml hts hown hlocks hin A hA hK hO hP hD hS ls hl
  have hown : s.vm.findClass RX11 = some m.cls := hown
  have hl : lv_has ls 1 [(0, .int a0)] := hl
  have C0 : Cx p s m args c cX11_isBehind 1 RX11 G t := ⟨hx, hb, hml, hown, hts, hK, hO⟩
  have := zrng a0
  refine lv_iload_n hx hb dX11_isBehind_0 rfl (lv_at hl 0 rfl) ?_
  refine bF_lt (tgt := 13) hx hb dX11_isBehind_1 (by decide) a0.toInt rfl (fun c_1 => ?_) (fun c_1 => ?_)
  · refine lv_iconst (v := 0) hx hb dX11_isBehind_13 (by decide) ?_
    exact rtZ hx hb hr hlocks hS rfl () ((show (0 : Int32).toInt = 0 ∨ ((0 : Int32).toInt = 1 ∧ 0 ≤ a0.toInt ∧ a0.toInt ≤ 4) from (by have : (0 : Int32).toInt = 0 := rfl; omega))) (hP.sub [] rfl) (hD.sub [] (by decide) rfl) dX11_isBehind_14
  · refine lv_iload_n hx hb dX11_isBehind_4 rfl (lv_at hl 0 rfl) ?_
    refine lv_iconst (v := 5) hx hb dX11_isBehind_5 (by decide) ?_
    refine bI_ge (tgt := 13) hx hb dX11_isBehind_6 (by decide) a0.toInt 5 rfl rfl (fun c_2 => ?_) (fun c_2 => ?_)
    · refine lv_iconst (v := 0) hx hb dX11_isBehind_13 (by decide) ?_
      exact rtZ hx hb hr hlocks hS rfl () ((show (0 : Int32).toInt = 0 ∨ ((0 : Int32).toInt = 1 ∧ 0 ≤ a0.toInt ∧ a0.toInt ≤ 4) from (by have : (0 : Int32).toInt = 0 := rfl; omega))) (hP.sub [] rfl) (hD.sub [] (by decide) rfl) dX11_isBehind_14
    · refine lv_iconst (v := 1) hx hb dX11_isBehind_9 (by decide) ?_
      refine lv_goto (tgt := 14) hx hb dX11_isBehind_10 (by decide) ?_
      exact rtZ hx hb hr hlocks hS rfl () ((show (1 : Int32).toInt = 0 ∨ ((1 : Int32).toInt = 1 ∧ 0 ≤ a0.toInt ∧ a0.toInt ≤ 4) from (by have : (1 : Int32).toInt = 1 := rfl; omega))) (hP.sub [] rfl) (hD.sub [] (by decide) rfl) dX11_isBehind_14

set_option maxHeartbeats 4000000 in
set_option maxRecDepth 100000 in
theorem x_isSlot (l : Launch) (G : va_G) (t : Nat → ClassId) (a0 : Int32) : Ct l G t yX11_isSlot cX11_isSlot 1 (some .boolean) ({ frames := 0, cells := 0, slots := 0, locals := 0 }) [.int a0] [] (QI G (fun r (u : Unit) => ((r.toInt = 0 ∧ ¬ (0 ≤ a0.toInt ∧ a0.toInt ≤ 3)) ∨ (r.toInt = 1 ∧ 0 ≤ a0.toInt ∧ a0.toInt ≤ 3))) (fun (u : Unit) => [])) := by
  refine ent (by decide) (Nat.le_of_ble_eq_true rfl) ?_
  intro p e s m args below meth c hx hb hr hml hts hown hlocks hin A hA hK hO hP hD hS ls hl
  have hown : s.vm.findClass RX11 = some m.cls := hown
  have hl : lv_has ls 1 [(0, .int a0)] := hl
  have C0 : Cx p s m args c cX11_isSlot 1 RX11 G t := ⟨hx, hb, hml, hown, hts, hK, hO⟩
  have := zrng a0
  refine lv_iload_n hx hb dX11_isSlot_0 rfl (lv_at hl 0 rfl) ?_
  refine bF_lt (tgt := 13) hx hb dX11_isSlot_1 (by decide) a0.toInt rfl (fun c_1 => ?_) (fun c_1 => ?_)
  · refine lv_iconst (v := 0) hx hb dX11_isSlot_13 (by decide) ?_
    exact rtZ hx hb hr hlocks hS rfl () ((show ((0 : Int32).toInt = 0 ∧ ¬ (0 ≤ a0.toInt ∧ a0.toInt ≤ 3)) ∨ ((0 : Int32).toInt = 1 ∧ 0 ≤ a0.toInt ∧ a0.toInt ≤ 3) from (by have : (0 : Int32).toInt = 0 := rfl; omega))) (hP.sub [] rfl) (hD.sub [] (by decide) rfl) dX11_isSlot_14
  · refine lv_iload_n hx hb dX11_isSlot_4 rfl (lv_at hl 0 rfl) ?_
    refine lv_iconst (v := 4) hx hb dX11_isSlot_5 (by decide) ?_
    refine bI_ge (tgt := 13) hx hb dX11_isSlot_6 (by decide) a0.toInt 4 rfl rfl (fun c_2 => ?_) (fun c_2 => ?_)
    · refine lv_iconst (v := 0) hx hb dX11_isSlot_13 (by decide) ?_
      exact rtZ hx hb hr hlocks hS rfl () ((show ((0 : Int32).toInt = 0 ∧ ¬ (0 ≤ a0.toInt ∧ a0.toInt ≤ 3)) ∨ ((0 : Int32).toInt = 1 ∧ 0 ≤ a0.toInt ∧ a0.toInt ≤ 3) from (by have : (0 : Int32).toInt = 0 := rfl; omega))) (hP.sub [] rfl) (hD.sub [] (by decide) rfl) dX11_isSlot_14
    · refine lv_iconst (v := 1) hx hb dX11_isSlot_9 (by decide) ?_
      refine lv_goto (tgt := 14) hx hb dX11_isSlot_10 (by decide) ?_
      exact rtZ hx hb hr hlocks hS rfl () ((show ((1 : Int32).toInt = 0 ∧ ¬ (0 ≤ a0.toInt ∧ a0.toInt ≤ 3)) ∨ ((1 : Int32).toInt = 1 ∧ 0 ≤ a0.toInt ∧ a0.toInt ≤ 3) from (by have : (1 : Int32).toInt = 1 := rfl; omega))) (hP.sub [] rfl) (hD.sub [] (by decide) rfl) dX11_isSlot_14

set_option maxHeartbeats 4000000 in
set_option maxRecDepth 100000 in
theorem x_spotOf (l : Launch) (G : va_G) (t : Nat → ClassId) (a0 : Int32) (b0 : Int32) : Ct l G t yX11_spotOf cX11_spotOf 2 (some .int) ({ frames := 0, cells := 0, slots := 0, locals := 0 }) [.int a0, .int b0] [] (QI G (fun r (u : Unit) => True) (fun (u : Unit) => [])) := by
  refine ent (by decide) (Nat.le_of_ble_eq_true rfl) ?_
  intro p e s m args below meth c hx hb hr hml hts hown hlocks hin A hA hK hO hP hD hS ls hl
  have hown : s.vm.findClass RX11 = some m.cls := hown
  have hl : lv_has ls 2 [(0, .int a0), (1, .int b0)] := hl
  have C0 : Cx p s m args c cX11_spotOf 2 RX11 G t := ⟨hx, hb, hml, hown, hts, hK, hO⟩
  have := zrng a0
  have := zrng b0
  refine lv_iload_n hx hb dX11_spotOf_0 rfl (lv_at hl 0 rfl) ?_
  refine lv_bipush (v := 6) hx hb dX11_spotOf_1 (by decide) ?_
  first | refine muZ hx hb dX11_spotOf_3 a0.toInt 6 rfl rfl (by have := zrng a0; omega) (fun v_1 zv_1 => ?_) | refine lv_imul hx hb dX11_spotOf_3 (gnI (fun v_1 => ?_))
  refine lv_iload_n hx hb dX11_spotOf_4 rfl (lv_at hl 1 rfl) ?_
  first | refine adZ hx hb dX11_spotOf_5 v_1.toInt b0.toInt rfl rfl (by have := zrng v_1; have := zrng b0; omega) (fun v_2 zv_2 => ?_) | refine lv_iadd hx hb dX11_spotOf_5 (gnI (fun v_2 => ?_))
  exact rtI hx hb hr hlocks hS () (trivial) (hP.sub [] rfl) (hD.sub [] (by decide) rfl) dX11_spotOf_6

set_option maxHeartbeats 4000000 in
set_option maxRecDepth 100000 in
theorem x_spotOfP (l : Launch) (G : va_G) (t : Nat → ClassId) (a0 : Int32) (b0 : Int32) (h_a0 : 0 ≤ a0.toInt ∧ a0.toInt ≤ 5) (h_b0 : 0 ≤ b0.toInt ∧ b0.toInt ≤ 5) : Ct l G t yX11_spotOf cX11_spotOf 2 (some .int) ({ frames := 0, cells := 0, slots := 0, locals := 0 }) [.int a0, .int b0] [] (QI G (fun r (u : Unit) => (r.toInt = a0.toInt * 6 + b0.toInt)) (fun (u : Unit) => [])) := by
  refine ent (by decide) (Nat.le_of_ble_eq_true rfl) ?_
  intro p e s m args below meth c hx hb hr hml hts hown hlocks hin A hA hK hO hP hD hS ls hl
  have hown : s.vm.findClass RX11 = some m.cls := hown
  have hl : lv_has ls 2 [(0, .int a0), (1, .int b0)] := hl
  have C0 : Cx p s m args c cX11_spotOf 2 RX11 G t := ⟨hx, hb, hml, hown, hts, hK, hO⟩
  refine lv_iload_n hx hb dX11_spotOf_0 rfl (lv_at hl 0 rfl) ?_
  refine lv_bipush (v := 6) hx hb dX11_spotOf_1 (by decide) ?_
  first | refine muZ hx hb dX11_spotOf_3 a0.toInt 6 rfl rfl (by have := zrng a0; omega) (fun v_1 zv_1 => ?_) | refine lv_imul hx hb dX11_spotOf_3 (gnI (fun v_1 => ?_))
  refine lv_iload_n hx hb dX11_spotOf_4 rfl (lv_at hl 1 rfl) ?_
  first | refine adZ hx hb dX11_spotOf_5 v_1.toInt b0.toInt rfl rfl (by have := zrng v_1; have := zrng b0; omega) (fun v_2 zv_2 => ?_) | refine lv_iadd hx hb dX11_spotOf_5 (gnI (fun v_2 => ?_))
  exact rtI hx hb hr hlocks hS () ((show v_2.toInt = a0.toInt * 6 + b0.toInt from (by omega))) (hP.sub [] rfl) (hD.sub [] (by decide) rfl) dX11_spotOf_6

set_option maxHeartbeats 4000000 in
set_option maxRecDepth 100000 in
theorem x_bit (l : Launch) (G : va_G) (t : Nat → ClassId) (a0 : Int32) : Ct l G t yX11_bit cX11_bit 1 (some .int) ({ frames := 0, cells := 0, slots := 0, locals := 0 }) [.int a0] [] (QI G (fun r (u : Unit) => True) (fun (u : Unit) => [])) := by
  refine ent (by decide) (Nat.le_of_ble_eq_true rfl) ?_
  intro p e s m args below meth c hx hb hr hml hts hown hlocks hin A hA hK hO hP hD hS ls hl
  have hown : s.vm.findClass RX11 = some m.cls := hown
  have hl : lv_has ls 1 [(0, .int a0)] := hl
  have C0 : Cx p s m args c cX11_bit 1 RX11 G t := ⟨hx, hb, hml, hown, hts, hK, hO⟩
  have := zrng a0
  refine lv_iload_n hx hb dX11_bit_0 rfl (lv_at hl 0 rfl) ?_
  refine bF_ge (tgt := 8) hx hb dX11_bit_1 (by decide) a0.toInt rfl (fun c_1 => ?_) (fun c_1 => ?_)
  · refine lv_iconst (v := 1) hx hb dX11_bit_8 (by decide) ?_
    refine lv_iload_n hx hb dX11_bit_9 rfl (lv_at hl 0 rfl) ?_
    refine lv_ishl hx hb dX11_bit_10 (gnI (fun v_2 => ?_))
    exact rtI hx hb hr hlocks hS () (trivial) (hP.sub [] rfl) (hD.sub [] (by decide) rfl) dX11_bit_11
  · refine lv_iconst (v := 0) hx hb dX11_bit_4 (by decide) ?_
    refine lv_goto (tgt := 11) hx hb dX11_bit_5 (by decide) ?_
    exact rtI hx hb hr hlocks hS () (trivial) (hP.sub [] rfl) (hD.sub [] (by decide) rfl) dX11_bit_11

set_option maxHeartbeats 4000000 in
set_option maxRecDepth 100000 in
theorem x_spotBit (l : Launch) (G : va_G) (t : Nat → ClassId) (a0 : Int32) : Ct l G t yX11_spotBit cX11_spotBit 1 (some .long) ({ frames := 0, cells := 0, slots := 0, locals := 0 }) [.int a0] [] (QL G (fun r (u : Unit) => True) (fun (u : Unit) => [])) := by
  refine ent (by decide) (Nat.le_of_ble_eq_true rfl) ?_
  intro p e s m args below meth c hx hb hr hml hts hown hlocks hin A hA hK hO hP hD hS ls hl
  have hown : s.vm.findClass RX11 = some m.cls := hown
  have hl : lv_has ls 1 [(0, .int a0)] := hl
  have C0 : Cx p s m args c cX11_spotBit 1 RX11 G t := ⟨hx, hb, hml, hown, hts, hK, hO⟩
  have := zrng a0
  refine lv_lconst (v := 1) hx hb dX11_spotBit_0 (by decide) ?_
  refine lv_iload_n hx hb dX11_spotBit_1 rfl (lv_at hl 0 rfl) ?_
  refine lv_lshl hx hb dX11_spotBit_2 rfl (gnL (fun v_1 => ?_))
  exact rtL hx hb hr hlocks hS () (trivial) (hP.sub [] rfl) (hD.sub [] (by decide) rfl) dX11_spotBit_3

set_option maxHeartbeats 4000000 in
set_option maxRecDepth 100000 in
theorem j_lbc (l : Launch) (G : va_G) (t : Nat → ClassId) (a0 : Int64) : Ct l G t yJ13_bitCount_95d88 cJ13_bitCount_95d88 2 (some .int) ({ frames := 0, cells := 0, slots := 0, locals := 0 }) [.long a0] [] (QI G (fun r (u : Unit) => True) (fun (u : Unit) => [])) := by
  refine ent (by decide) (Nat.le_of_ble_eq_true rfl) ?_
  intro p e s m args below meth c hx hb hr hml hts hown hlocks hin A hA hK hO hP hD hS ls hl
  have hown : s.vm.findClass RJ13 = some m.cls := hown
  have hl : lv_has ls 2 [(0, .long a0)] := hl
  have C0 : Cx p s m args c cJ13_bitCount_95d88 2 RJ13 G t := ⟨hx, hb, hml, hown, hts, hK, hO⟩
  refine lv_lload_n hx hb dJ13_bitCount_95d88_0 rfl (lv_at hl 0 rfl) ?_
  refine lv_lload_n hx hb dJ13_bitCount_95d88_1 rfl (lv_at hl 0 rfl) ?_
  refine lv_iconst (v := 1) hx hb dJ13_bitCount_95d88_2 (by decide) ?_
  refine lv_lushr hx hb dJ13_bitCount_95d88_3 rfl (gnL (fun v_1 => ?_))
  refine lv_ldc2 hx hb hown (hts _ tw4_62) dJ13_bitCount_95d88_4 ?_
  refine lv_land hx hb dJ13_bitCount_95d88_7 (gnL (fun v_2 => ?_))
  first | refine lqsZ hx hb dJ13_bitCount_95d88_8 a0.toInt v_2.toInt rfl rfl (by have := yrng a0; have := yrng v_2; omega) (fun v_3 zv_3 => ?_) | refine lv_lsub hx hb dJ13_bitCount_95d88_8 (gnL (fun v_3 => ?_))
  refine lv_lstore_n (lv' := [(0, .long v_3)]) hx hb dJ13_bitCount_95d88_9 rfl hl (by decide) rfl (fun ls hl => ?_)
  refine lv_lload_n hx hb dJ13_bitCount_95d88_10 rfl (lv_at hl 0 rfl) ?_
  refine lv_ldc2 hx hb hown (hts _ tw4_63) dJ13_bitCount_95d88_11 ?_
  refine lv_land hx hb dJ13_bitCount_95d88_14 (gnL (fun v_4 => ?_))
  refine lv_lload_n hx hb dJ13_bitCount_95d88_15 rfl (lv_at hl 0 rfl) ?_
  refine lv_iconst (v := 2) hx hb dJ13_bitCount_95d88_16 (by decide) ?_
  refine lv_lushr hx hb dJ13_bitCount_95d88_17 rfl (gnL (fun v_5 => ?_))
  refine lv_ldc2 hx hb hown (hts _ tw4_63) dJ13_bitCount_95d88_18 ?_
  refine lv_land hx hb dJ13_bitCount_95d88_21 (gnL (fun v_6 => ?_))
  first | refine lqaZ hx hb dJ13_bitCount_95d88_22 v_4.toInt v_6.toInt rfl rfl (by have := yrng v_4; have := yrng v_6; omega) (fun v_7 zv_7 => ?_) | refine lv_ladd hx hb dJ13_bitCount_95d88_22 (gnL (fun v_7 => ?_))
  refine lv_lstore_n (lv' := [(0, .long v_7)]) hx hb dJ13_bitCount_95d88_23 rfl hl (by decide) rfl (fun ls hl => ?_)
  refine lv_lload_n hx hb dJ13_bitCount_95d88_24 rfl (lv_at hl 0 rfl) ?_
  refine lv_lload_n hx hb dJ13_bitCount_95d88_25 rfl (lv_at hl 0 rfl) ?_
  refine lv_iconst (v := 4) hx hb dJ13_bitCount_95d88_26 (by decide) ?_
  refine lv_lushr hx hb dJ13_bitCount_95d88_27 rfl (gnL (fun v_8 => ?_))
  first | refine lqaZ hx hb dJ13_bitCount_95d88_28 v_7.toInt v_8.toInt rfl rfl (by have := yrng v_7; have := yrng v_8; omega) (fun v_9 zv_9 => ?_) | refine lv_ladd hx hb dJ13_bitCount_95d88_28 (gnL (fun v_9 => ?_))
  refine lv_ldc2 hx hb hown (hts _ tw4_64) dJ13_bitCount_95d88_29 ?_
  refine lv_land hx hb dJ13_bitCount_95d88_32 (gnL (fun v_10 => ?_))
  refine lv_lstore_n (lv' := [(0, .long v_10)]) hx hb dJ13_bitCount_95d88_33 rfl hl (by decide) rfl (fun ls hl => ?_)
  refine lv_lload_n hx hb dJ13_bitCount_95d88_34 rfl (lv_at hl 0 rfl) ?_
  refine lv_lload_n hx hb dJ13_bitCount_95d88_35 rfl (lv_at hl 0 rfl) ?_
  refine lv_bipush (v := 8) hx hb dJ13_bitCount_95d88_36 (by decide) ?_
  refine lv_lushr hx hb dJ13_bitCount_95d88_38 rfl (gnL (fun v_11 => ?_))
  first | refine lqaZ hx hb dJ13_bitCount_95d88_39 v_10.toInt v_11.toInt rfl rfl (by have := yrng v_10; have := yrng v_11; omega) (fun v_12 zv_12 => ?_) | refine lv_ladd hx hb dJ13_bitCount_95d88_39 (gnL (fun v_12 => ?_))
  refine lv_lstore_n (lv' := [(0, .long v_12)]) hx hb dJ13_bitCount_95d88_40 rfl hl (by decide) rfl (fun ls hl => ?_)
  refine lv_lload_n hx hb dJ13_bitCount_95d88_41 rfl (lv_at hl 0 rfl) ?_
  refine lv_lload_n hx hb dJ13_bitCount_95d88_42 rfl (lv_at hl 0 rfl) ?_
  refine lv_bipush (v := 16) hx hb dJ13_bitCount_95d88_43 (by decide) ?_
  refine lv_lushr hx hb dJ13_bitCount_95d88_45 rfl (gnL (fun v_13 => ?_))
  first | refine lqaZ hx hb dJ13_bitCount_95d88_46 v_12.toInt v_13.toInt rfl rfl (by have := yrng v_12; have := yrng v_13; omega) (fun v_14 zv_14 => ?_) | refine lv_ladd hx hb dJ13_bitCount_95d88_46 (gnL (fun v_14 => ?_))
  refine lv_lstore_n (lv' := [(0, .long v_14)]) hx hb dJ13_bitCount_95d88_47 rfl hl (by decide) rfl (fun ls hl => ?_)
  refine lv_lload_n hx hb dJ13_bitCount_95d88_48 rfl (lv_at hl 0 rfl) ?_
  refine lv_lload_n hx hb dJ13_bitCount_95d88_49 rfl (lv_at hl 0 rfl) ?_
  refine lv_bipush (v := 32) hx hb dJ13_bitCount_95d88_50 (by decide) ?_
  refine lv_lushr hx hb dJ13_bitCount_95d88_52 rfl (gnL (fun v_15 => ?_))
  first | refine lqaZ hx hb dJ13_bitCount_95d88_53 v_14.toInt v_15.toInt rfl rfl (by have := yrng v_14; have := yrng v_15; omega) (fun v_16 zv_16 => ?_) | refine lv_ladd hx hb dJ13_bitCount_95d88_53 (gnL (fun v_16 => ?_))
  refine lv_lstore_n (lv' := [(0, .long v_16)]) hx hb dJ13_bitCount_95d88_54 rfl hl (by decide) rfl (fun ls hl => ?_)
  refine lv_lload_n hx hb dJ13_bitCount_95d88_55 rfl (lv_at hl 0 rfl) ?_
  first | refine liZ hx hb dJ13_bitCount_95d88_56 v_16.toInt rfl (by omega) (fun v_17 zv_17 => ?_) | refine lv_l2i hx hb dJ13_bitCount_95d88_56 rfl (gnI (fun v_17 => ?_))
  refine lv_bipush (v := 127) hx hb dJ13_bitCount_95d88_57 (by decide) ?_
  refine lv_iand hx hb dJ13_bitCount_95d88_59 (gnI (fun v_18 => ?_))
  exact rtI hx hb hr hlocks hS () (trivial) (hP.sub [] rfl) (hD.sub [] (by decide) rfl) dJ13_bitCount_95d88_60

set_option maxHeartbeats 4000000 in
set_option maxRecDepth 100000 in
theorem j_ibc (l : Launch) (G : va_G) (t : Nat → ClassId) (a0 : Int32) : Ct l G t yJ6_bitCount_0f7a4 cJ6_bitCount_0f7a4 1 (some .int) ({ frames := 0, cells := 0, slots := 0, locals := 0 }) [.int a0] [] (QI G (fun r (u : Unit) => True) (fun (u : Unit) => [])) := by
  refine ent (by decide) (Nat.le_of_ble_eq_true rfl) ?_
  intro p e s m args below meth c hx hb hr hml hts hown hlocks hin A hA hK hO hP hD hS ls hl
  have hown : s.vm.findClass RJ6 = some m.cls := hown
  have hl : lv_has ls 1 [(0, .int a0)] := hl
  have C0 : Cx p s m args c cJ6_bitCount_0f7a4 1 RJ6 G t := ⟨hx, hb, hml, hown, hts, hK, hO⟩
  have := zrng a0
  refine lv_iload_n hx hb dJ6_bitCount_0f7a4_0 rfl (lv_at hl 0 rfl) ?_
  refine lv_iload_n hx hb dJ6_bitCount_0f7a4_1 rfl (lv_at hl 0 rfl) ?_
  refine lv_iconst (v := 1) hx hb dJ6_bitCount_0f7a4_2 (by decide) ?_
  refine lv_iushr hx hb dJ6_bitCount_0f7a4_3 rfl (gnI (fun v_1 => ?_))
  refine lv_ldcw hx hb hown (hts _ tw4_145) dJ6_bitCount_0f7a4_4 ?_
  refine lv_iand hx hb dJ6_bitCount_0f7a4_7 (gnI (fun v_2 => ?_))
  first | refine sbZ hx hb dJ6_bitCount_0f7a4_8 a0.toInt v_2.toInt rfl rfl (by have := zrng a0; have := zrng v_2; omega) (fun v_3 zv_3 => ?_) | refine lv_isub hx hb dJ6_bitCount_0f7a4_8 (gnI (fun v_3 => ?_))
  refine lv_istore_n (lv' := [(0, .int v_3)]) hx hb dJ6_bitCount_0f7a4_9 rfl hl (by decide) rfl (fun ls hl => ?_)
  refine lv_iload_n hx hb dJ6_bitCount_0f7a4_10 rfl (lv_at hl 0 rfl) ?_
  refine lv_ldcw hx hb hown (hts _ tw4_146) dJ6_bitCount_0f7a4_11 ?_
  refine lv_iand hx hb dJ6_bitCount_0f7a4_14 (gnI (fun v_4 => ?_))
  refine lv_iload_n hx hb dJ6_bitCount_0f7a4_15 rfl (lv_at hl 0 rfl) ?_
  refine lv_iconst (v := 2) hx hb dJ6_bitCount_0f7a4_16 (by decide) ?_
  refine lv_iushr hx hb dJ6_bitCount_0f7a4_17 rfl (gnI (fun v_5 => ?_))
  refine lv_ldcw hx hb hown (hts _ tw4_146) dJ6_bitCount_0f7a4_18 ?_
  refine lv_iand hx hb dJ6_bitCount_0f7a4_21 (gnI (fun v_6 => ?_))
  first | refine adZ hx hb dJ6_bitCount_0f7a4_22 v_4.toInt v_6.toInt rfl rfl (by have := zrng v_4; have := zrng v_6; omega) (fun v_7 zv_7 => ?_) | refine lv_iadd hx hb dJ6_bitCount_0f7a4_22 (gnI (fun v_7 => ?_))
  refine lv_istore_n (lv' := [(0, .int v_7)]) hx hb dJ6_bitCount_0f7a4_23 rfl hl (by decide) rfl (fun ls hl => ?_)
  refine lv_iload_n hx hb dJ6_bitCount_0f7a4_24 rfl (lv_at hl 0 rfl) ?_
  refine lv_iload_n hx hb dJ6_bitCount_0f7a4_25 rfl (lv_at hl 0 rfl) ?_
  refine lv_iconst (v := 4) hx hb dJ6_bitCount_0f7a4_26 (by decide) ?_
  refine lv_iushr hx hb dJ6_bitCount_0f7a4_27 rfl (gnI (fun v_8 => ?_))
  first | refine adZ hx hb dJ6_bitCount_0f7a4_28 v_7.toInt v_8.toInt rfl rfl (by have := zrng v_7; have := zrng v_8; omega) (fun v_9 zv_9 => ?_) | refine lv_iadd hx hb dJ6_bitCount_0f7a4_28 (gnI (fun v_9 => ?_))
  refine lv_ldcw hx hb hown (hts _ tw4_147) dJ6_bitCount_0f7a4_29 ?_
  refine lv_iand hx hb dJ6_bitCount_0f7a4_32 (gnI (fun v_10 => ?_))
  refine lv_istore_n (lv' := [(0, .int v_10)]) hx hb dJ6_bitCount_0f7a4_33 rfl hl (by decide) rfl (fun ls hl => ?_)
  refine lv_iload_n hx hb dJ6_bitCount_0f7a4_34 rfl (lv_at hl 0 rfl) ?_
  refine lv_iload_n hx hb dJ6_bitCount_0f7a4_35 rfl (lv_at hl 0 rfl) ?_
  refine lv_bipush (v := 8) hx hb dJ6_bitCount_0f7a4_36 (by decide) ?_
  refine lv_iushr hx hb dJ6_bitCount_0f7a4_38 rfl (gnI (fun v_11 => ?_))
  first | refine adZ hx hb dJ6_bitCount_0f7a4_39 v_10.toInt v_11.toInt rfl rfl (by have := zrng v_10; have := zrng v_11; omega) (fun v_12 zv_12 => ?_) | refine lv_iadd hx hb dJ6_bitCount_0f7a4_39 (gnI (fun v_12 => ?_))
  refine lv_istore_n (lv' := [(0, .int v_12)]) hx hb dJ6_bitCount_0f7a4_40 rfl hl (by decide) rfl (fun ls hl => ?_)
  refine lv_iload_n hx hb dJ6_bitCount_0f7a4_41 rfl (lv_at hl 0 rfl) ?_
  refine lv_iload_n hx hb dJ6_bitCount_0f7a4_42 rfl (lv_at hl 0 rfl) ?_
  refine lv_bipush (v := 16) hx hb dJ6_bitCount_0f7a4_43 (by decide) ?_
  refine lv_iushr hx hb dJ6_bitCount_0f7a4_45 rfl (gnI (fun v_13 => ?_))
  first | refine adZ hx hb dJ6_bitCount_0f7a4_46 v_12.toInt v_13.toInt rfl rfl (by have := zrng v_12; have := zrng v_13; omega) (fun v_14 zv_14 => ?_) | refine lv_iadd hx hb dJ6_bitCount_0f7a4_46 (gnI (fun v_14 => ?_))
  refine lv_istore_n (lv' := [(0, .int v_14)]) hx hb dJ6_bitCount_0f7a4_47 rfl hl (by decide) rfl (fun ls hl => ?_)
  refine lv_iload_n hx hb dJ6_bitCount_0f7a4_48 rfl (lv_at hl 0 rfl) ?_
  refine lv_bipush (v := 63) hx hb dJ6_bitCount_0f7a4_49 (by decide) ?_
  refine lv_iand hx hb dJ6_bitCount_0f7a4_51 (gnI (fun v_15 => ?_))
  exact rtI hx hb hr hlocks hS () (trivial) (hP.sub [] rfl) (hD.sub [] (by decide) rfl) dJ6_bitCount_0f7a4_52

set_option maxHeartbeats 4000000 in
set_option maxRecDepth 100000 in
theorem x_isFull (l : Launch) (G : va_G) (t : Nat → ClassId) (hc : Nat) (hcs : Int32) (hb1 : Nat) (hb2 : Nat) (hb3 : Nat) (hb4 : Nat) (h_hcs : 0 ≤ hcs.toInt ∧ hcs.toInt ≤ 40) : Ct l G t yX1_isFull cX1_isFull 1 (some .boolean) ({ frames := 0, cells := 0, slots := 0, locals := 0 }) [.ref hc] [(hc, .inr (1, [.int hcs, .ref hb1, .ref hb2, .ref hb3, .ref hb4]))] (QI G (fun r (u : Unit) => ((r.toInt = 1 ∧ 40 ≤ hcs.toInt) ∨ (r.toInt = 0 ∧ hcs.toInt < 40))) (fun (u : Unit) => [(hc, .inr (1, [.int hcs, .ref hb1, .ref hb2, .ref hb3, .ref hb4]))])) := by
  refine ent (by decide) (Nat.le_of_ble_eq_true rfl) ?_
  intro p e s m args below meth c hx hb hr hml hts hown hlocks hin A hA hK hO hP hD hS ls hl
  have hown : s.vm.findClass RX1 = some m.cls := hown
  have hl : lv_has ls 1 [(0, .ref hc)] := hl
  have C0 : Cx p s m args c cX1_isFull 1 RX1 G t := ⟨hx, hb, hml, hown, hts, hK, hO⟩
  refine lv_aload_n hx hb dX1_isFull_0 rfl (lv_at hl 0 rfl) ?_
  refine gf hx hb hts hown hK hP 0 inT1 rfl rfl 0 (by decide) tw1_56 rfl dX1_isFull_1 ?_
  refine lv_bipush (v := 40) hx hb dX1_isFull_4 (by decide) ?_
  refine bI_lt (tgt := 13) hx hb dX1_isFull_6 (by decide) hcs.toInt 40 rfl rfl (fun c_1 => ?_) (fun c_1 => ?_)
  · refine lv_iconst (v := 0) hx hb dX1_isFull_13 (by decide) ?_
    exact rtZ hx hb hr hlocks hS rfl () ((show ((0 : Int32).toInt = 1 ∧ 40 ≤ hcs.toInt) ∨ ((0 : Int32).toInt = 0 ∧ hcs.toInt < 40) from (by have : (0 : Int32).toInt = 0 := rfl; omega))) (hP.sub [0] rfl) (hD.sub [0] (by decide) rfl) dX1_isFull_14
  · refine lv_iconst (v := 1) hx hb dX1_isFull_9 (by decide) ?_
    refine lv_goto (tgt := 14) hx hb dX1_isFull_10 (by decide) ?_
    exact rtZ hx hb hr hlocks hS rfl () ((show ((1 : Int32).toInt = 1 ∧ 40 ≤ hcs.toInt) ∨ ((1 : Int32).toInt = 0 ∧ hcs.toInt < 40) from (by have : (1 : Int32).toInt = 1 := rfl; omega))) (hP.sub [0] rfl) (hD.sub [0] (by decide) rfl) dX1_isFull_14

set_option maxHeartbeats 4000000 in
set_option maxRecDepth 100000 in
theorem x_chadd (l : Launch) (G : va_G) (t : Nat → ClassId) (hc : Nat) (a0 : Int32) (b0 : Int32) (c0 : Int32) (d0 : Int32) (hcs : Int32) (hb1 : Nat) (hb2 : Nat) (hb3 : Nat) (hb4 : Nat) (hg1 : Nat → Int32) (hg2 : Nat → Int32) (hg3 : Nat → Int32) (hg4 : Nat → Int32) (h_hcs : 0 ≤ hcs.toInt ∧ hcs.toInt ≤ 40) : Ct l G t yX1_add cX1_add 5 none ({ frames := 1, cells := 0, slots := 0, locals := 20 }) [.ref hc, .int a0, .int b0, .int c0, .int d0] [(hc, .inr (1, [.int hcs, .ref hb1, .ref hb2, .ref hb3, .ref hb4])), (hb1, .inl (t 1, 40, .inl hg1)), (hb2, .inl (t 1, 40, .inl hg2)), (hb3, .inl (t 1, 40, .inl hg3)), (hb4, .inl (t 1, 40, .inl hg4))] (QV G (fun (u : (Int32) × (Nat → Int32) × (Nat → Int32) × (Nat → Int32) × (Nat → Int32)) => (0 ≤ u.1.toInt ∧ u.1.toInt ≤ 40)) (fun (u : (Int32) × (Nat → Int32) × (Nat → Int32) × (Nat → Int32) × (Nat → Int32)) => [(hc, .inr (1, [.int u.1, .ref hb1, .ref hb2, .ref hb3, .ref hb4])), (hb1, .inl (t 1, 40, .inl u.2.1)), (hb2, .inl (t 1, 40, .inl u.2.2.1)), (hb3, .inl (t 1, 40, .inl u.2.2.2.1)), (hb4, .inl (t 1, 40, .inl u.2.2.2.2))])) := by
  refine ent (by decide) (Nat.le_of_ble_eq_true rfl) ?_
  intro p e s m args below meth c hx hb hr hml hts hown hlocks hin A hA hK hO hP hD hS ls hl
  have hown : s.vm.findClass RX1 = some m.cls := hown
  have hl : lv_has ls 5 [(0, .ref hc), (1, .int a0), (2, .int b0), (3, .int c0), (4, .int d0)] := hl
  have C0 : Cx p s m args c cX1_add 5 RX1 G t := ⟨hx, hb, hml, hown, hts, hK, hO⟩
  have := zrng a0
  have := zrng b0
  have := zrng c0
  have := zrng d0
  refine lv_aload_n hx hb dX1_add_0 rfl (lv_at hl 0 rfl) ?_
  refine goI (rnV C0 (x_isFull l G t hc hcs hb1 hb2 hb3 hb4 (by omega)) lkX1_28 ⟨by decide, by decide⟩ (hP.sub (ws' := [(hc, .inr (1, [.int hcs, .ref hb1, .ref hb2, .ref hb3, .ref hb4]))]) [0] rfl) (hD.sub (ws' := [(hc, .inr (1, [.int hcs, .ref hb1, .ref hb2, .ref hb3, .ref hb4]))]) [0] (by decide) rfl) 0 1 rfl rfl rfl rfl hl.1 (rest := []) rfl (Nat.le_of_ble_eq_true rfl) dX1_add_1 ⟨by decide, by decide⟩) hP hD hS hA [0] [1, 2, 3, 4] (wr := [(hb1, .inl (t 1, 40, .inl hg1)), (hb2, .inl (t 1, 40, .inl hg2)), (hb3, .inl (t 1, 40, .inl hg3)), (hb4, .inl (t 1, 40, .inl hg4))]) rfl rfl (by decide) (by decide) (fun r_1 u H locs h_2 hP hD hS => ?_)
  have h_2 : ((r_1.toInt = 1 ∧ 40 ≤ hcs.toInt) ∨ (r_1.toInt = 0 ∧ hcs.toInt < 40)) := h_2
  have b_3 := h_2
  have hP : va_P G vwCl [(hb1, .inl (t 1, 40, .inl hg1)), (hb2, .inl (t 1, 40, .inl hg2)), (hb3, .inl (t 1, 40, .inl hg3)), (hb4, .inl (t 1, 40, .inl hg4)), (hc, .inr (1, [.int hcs, .ref hb1, .ref hb2, .ref hb3, .ref hb4]))] H := hP
  have hD : va_D A [(hb1, .inl (t 1, 40, .inl hg1)), (hb2, .inl (t 1, 40, .inl hg2)), (hb3, .inl (t 1, 40, .inl hg3)), (hb4, .inl (t 1, 40, .inl hg4)), (hc, .inr (1, [.int hcs, .ref hb1, .ref hb2, .ref hb3, .ref hb4]))] := hD
  refine W.widen (k := 0) (n := 0) (Nat.le_of_ble_eq_true rfl) (Nat.le_of_ble_eq_true rfl) ?_
  refine bF_eq (tgt := 8) hx hb dX1_add_4 (by decide) r_1.toInt rfl (fun c_4 => ?_) (fun c_4 => ?_)
  · refine lv_aload_n hx hb dX1_add_8 rfl (lv_at hl 0 rfl) ?_
    refine gf hx hb hts hown hK hP 4 inT1 rfl rfl 1 (by decide) tw1_59 rfl dX1_add_9 ?_
    refine lv_aload_n hx hb dX1_add_12 rfl (lv_at hl 0 rfl) ?_
    refine gf hx hb hts hown hK hP 4 inT1 rfl rfl 0 (by decide) tw1_56 rfl dX1_add_13 ?_
    refine lv_iload_n hx hb dX1_add_16 rfl (lv_at hl 1 rfl) ?_
    refine saI hx hb hK hP hD hS 0 rfl hcs.toInt rfl (by omega) dX1_add_17 (fun f_5 ef_5 H locs hP hD hS => ?_)
    have hP : va_P G vwCl [(hb1, .inl (t 1, 40, .inl f_5)), (hb2, .inl (t 1, 40, .inl hg2)), (hb3, .inl (t 1, 40, .inl hg3)), (hb4, .inl (t 1, 40, .inl hg4)), (hc, .inr (1, [.int hcs, .ref hb1, .ref hb2, .ref hb3, .ref hb4]))] H := hP
    have hD : va_D A [(hb1, .inl (t 1, 40, .inl f_5)), (hb2, .inl (t 1, 40, .inl hg2)), (hb3, .inl (t 1, 40, .inl hg3)), (hb4, .inl (t 1, 40, .inl hg4)), (hc, .inr (1, [.int hcs, .ref hb1, .ref hb2, .ref hb3, .ref hb4]))] := hD
    refine lv_aload_n hx hb dX1_add_18 rfl (lv_at hl 0 rfl) ?_
    refine gf hx hb hts hown hK hP 4 inT1 rfl rfl 2 (by decide) tw1_61 rfl dX1_add_19 ?_
    refine lv_aload_n hx hb dX1_add_22 rfl (lv_at hl 0 rfl) ?_
    refine gf hx hb hts hown hK hP 4 inT1 rfl rfl 0 (by decide) tw1_56 rfl dX1_add_23 ?_
    refine lv_iload_n hx hb dX1_add_26 rfl (lv_at hl 2 rfl) ?_
    refine saI hx hb hK hP hD hS 1 rfl hcs.toInt rfl (by omega) dX1_add_27 (fun f_6 ef_6 H locs hP hD hS => ?_)
    have hP : va_P G vwCl [(hb1, .inl (t 1, 40, .inl f_5)), (hb2, .inl (t 1, 40, .inl f_6)), (hb3, .inl (t 1, 40, .inl hg3)), (hb4, .inl (t 1, 40, .inl hg4)), (hc, .inr (1, [.int hcs, .ref hb1, .ref hb2, .ref hb3, .ref hb4]))] H := hP
    have hD : va_D A [(hb1, .inl (t 1, 40, .inl f_5)), (hb2, .inl (t 1, 40, .inl f_6)), (hb3, .inl (t 1, 40, .inl hg3)), (hb4, .inl (t 1, 40, .inl hg4)), (hc, .inr (1, [.int hcs, .ref hb1, .ref hb2, .ref hb3, .ref hb4]))] := hD
    refine lv_aload_n hx hb dX1_add_28 rfl (lv_at hl 0 rfl) ?_
    refine gf hx hb hts hown hK hP 4 inT1 rfl rfl 3 (by decide) tw1_63 rfl dX1_add_29 ?_
    refine lv_aload_n hx hb dX1_add_32 rfl (lv_at hl 0 rfl) ?_
    refine gf hx hb hts hown hK hP 4 inT1 rfl rfl 0 (by decide) tw1_56 rfl dX1_add_33 ?_
    refine lv_iload_n hx hb dX1_add_36 rfl (lv_at hl 3 rfl) ?_
    refine saI hx hb hK hP hD hS 2 rfl hcs.toInt rfl (by omega) dX1_add_37 (fun f_7 ef_7 H locs hP hD hS => ?_)
    have hP : va_P G vwCl [(hb1, .inl (t 1, 40, .inl f_5)), (hb2, .inl (t 1, 40, .inl f_6)), (hb3, .inl (t 1, 40, .inl f_7)), (hb4, .inl (t 1, 40, .inl hg4)), (hc, .inr (1, [.int hcs, .ref hb1, .ref hb2, .ref hb3, .ref hb4]))] H := hP
    have hD : va_D A [(hb1, .inl (t 1, 40, .inl f_5)), (hb2, .inl (t 1, 40, .inl f_6)), (hb3, .inl (t 1, 40, .inl f_7)), (hb4, .inl (t 1, 40, .inl hg4)), (hc, .inr (1, [.int hcs, .ref hb1, .ref hb2, .ref hb3, .ref hb4]))] := hD
    refine lv_aload_n hx hb dX1_add_38 rfl (lv_at hl 0 rfl) ?_
    refine gf hx hb hts hown hK hP 4 inT1 rfl rfl 4 (by decide) tw1_65 rfl dX1_add_39 ?_
    refine lv_aload_n hx hb dX1_add_42 rfl (lv_at hl 0 rfl) ?_
    refine gf hx hb hts hown hK hP 4 inT1 rfl rfl 0 (by decide) tw1_56 rfl dX1_add_43 ?_
    refine lv_iload hx hb dX1_add_46 (lv_at hl 4 rfl) ?_
    refine saI hx hb hK hP hD hS 3 rfl hcs.toInt rfl (by omega) dX1_add_48 (fun f_8 ef_8 H locs hP hD hS => ?_)
    have hP : va_P G vwCl [(hb1, .inl (t 1, 40, .inl f_5)), (hb2, .inl (t 1, 40, .inl f_6)), (hb3, .inl (t 1, 40, .inl f_7)), (hb4, .inl (t 1, 40, .inl f_8)), (hc, .inr (1, [.int hcs, .ref hb1, .ref hb2, .ref hb3, .ref hb4]))] H := hP
    have hD : va_D A [(hb1, .inl (t 1, 40, .inl f_5)), (hb2, .inl (t 1, 40, .inl f_6)), (hb3, .inl (t 1, 40, .inl f_7)), (hb4, .inl (t 1, 40, .inl f_8)), (hc, .inr (1, [.int hcs, .ref hb1, .ref hb2, .ref hb3, .ref hb4]))] := hD
    refine lv_aload_n hx hb dX1_add_49 rfl (lv_at hl 0 rfl) ?_
    refine lv_dup hx hb dX1_add_50 rfl ?_
    refine gf hx hb hts hown hK hP 4 inT1 rfl rfl 0 (by decide) tw1_56 rfl dX1_add_51 ?_
    refine lv_iconst (v := 1) hx hb dX1_add_54 (by decide) ?_
    first | refine adZ hx hb dX1_add_55 hcs.toInt 1 rfl rfl (by have := zrng hcs; omega) (fun v_9 zv_9 => ?_) | refine lv_iadd hx hb dX1_add_55 (gnI (fun v_9 => ?_))
    refine pf hx hb hts hown hK hP hD hS 4 inT1 tyX1_ok nmX1 rfl rfl 0 (by decide) tw1_56 rfl rfl rfl (Nat.le_of_ble_eq_true rfl) dX1_add_56 (ws' := [(hb1, .inl (t 1, 40, .inl f_5)), (hb2, .inl (t 1, 40, .inl f_6)), (hb3, .inl (t 1, 40, .inl f_7)), (hb4, .inl (t 1, 40, .inl f_8)), (hc, .inr (1, [.int v_9, .ref hb1, .ref hb2, .ref hb3, .ref hb4]))]) rfl (fun H locs hP hD hS => ?_)
    exact rtV hx hb hr hlocks hS (v_9, f_5, f_6, f_7, f_8) ((show 0 ≤ v_9.toInt ∧ v_9.toInt ≤ 40 from (by omega))) (hP.sub [4, 0, 1, 2, 3] rfl) (hD.sub [4, 0, 1, 2, 3] (by decide) rfl) dX1_add_59
  · exact rtV hx hb hr hlocks hS (hcs, hg1, hg2, hg3, hg4) ((show 0 ≤ hcs.toInt ∧ hcs.toInt ≤ 40 from (by omega))) (hP.sub [4, 0, 1, 2, 3] rfl) (hD.sub [4, 0, 1, 2, 3] (by decide) rfl) dX1_add_7

set_option maxHeartbeats 4000000 in
set_option maxRecDepth 100000 in
theorem x_keep (l : Launch) (G : va_G) (t : Nat → ClassId) (hc : Nat) (jc : Nat) (hcs : Int32) (hb1 : Nat) (hb2 : Nat) (hb3 : Nat) (hb4 : Nat) (hg1 : Nat → Int32) (hg2 : Nat → Int32) (hg3 : Nat → Int32) (hg4 : Nat → Int32) (jcs : Int32) (jb1 : Nat) (jb2 : Nat) (jb3 : Nat) (jb4 : Nat) (jg1 : Nat → Int32) (jg2 : Nat → Int32) (jg3 : Nat → Int32) (jg4 : Nat → Int32) (h_hcs : 0 ≤ hcs.toInt ∧ hcs.toInt ≤ 40) (h_jcs : 0 ≤ jcs.toInt ∧ jcs.toInt ≤ 40) : Ct l G t yX1_keep cX1_keep 2 none ({ frames := 1, cells := 0, slots := 0, locals := 18 }) [.ref hc, .ref jc] [(hc, .inr (1, [.int hcs, .ref hb1, .ref hb2, .ref hb3, .ref hb4])), (hb1, .inl (t 1, 40, .inl hg1)), (hb2, .inl (t 1, 40, .inl hg2)), (hb3, .inl (t 1, 40, .inl hg3)), (hb4, .inl (t 1, 40, .inl hg4)), (jc, .inr (1, [.int jcs, .ref jb1, .ref jb2, .ref jb3, .ref jb4])), (jb1, .inl (t 1, 40, .inl jg1)), (jb2, .inl (t 1, 40, .inl jg2)), (jb3, .inl (t 1, 40, .inl jg3)), (jb4, .inl (t 1, 40, .inl jg4))] (QV G (fun (u : (Int32) × (Nat → Int32) × (Nat → Int32) × (Nat → Int32) × (Nat → Int32)) => (0 ≤ u.1.toInt ∧ u.1.toInt ≤ 40)) (fun (u : (Int32) × (Nat → Int32) × (Nat → Int32) × (Nat → Int32) × (Nat → Int32)) => [(hc, .inr (1, [.int u.1, .ref hb1, .ref hb2, .ref hb3, .ref hb4])), (hb1, .inl (t 1, 40, .inl u.2.1)), (hb2, .inl (t 1, 40, .inl u.2.2.1)), (hb3, .inl (t 1, 40, .inl u.2.2.2.1)), (hb4, .inl (t 1, 40, .inl u.2.2.2.2)), (jc, .inr (1, [.int jcs, .ref jb1, .ref jb2, .ref jb3, .ref jb4])), (jb1, .inl (t 1, 40, .inl jg1)), (jb2, .inl (t 1, 40, .inl jg2)), (jb3, .inl (t 1, 40, .inl jg3)), (jb4, .inl (t 1, 40, .inl jg4))])) := by
  refine ent (by decide) (Nat.le_of_ble_eq_true rfl) ?_
  intro p e s m args below meth c hx hb hr hml hts hown hlocks hin A hA hK hO hP hD hS ls hl
  have hown : s.vm.findClass RX1 = some m.cls := hown
  have hl : lv_has ls 2 [(0, .ref hc), (1, .ref jc)] := hl
  have C0 : Cx p s m args c cX1_keep 2 RX1 G t := ⟨hx, hb, hml, hown, hts, hK, hO⟩
  refine lv_aload_n hx hb dX1_keep_0 rfl (lv_at hl 0 rfl) ?_
  refine lv_aload_n hx hb dX1_keep_1 rfl (lv_at hl 1 rfl) ?_
  refine gf hx hb hts hown hK hP 5 inT1 rfl rfl 0 (by decide) tw1_56 rfl dX1_keep_2 ?_
  refine pf hx hb hts hown hK hP hD hS 0 inT1 tyX1_ok nmX1 rfl rfl 0 (by decide) tw1_56 rfl rfl rfl (Nat.le_of_ble_eq_true rfl) dX1_keep_5 (ws' := [(hc, .inr (1, [.int jcs, .ref hb1, .ref hb2, .ref hb3, .ref hb4])), (hb1, .inl (t 1, 40, .inl hg1)), (hb2, .inl (t 1, 40, .inl hg2)), (hb3, .inl (t 1, 40, .inl hg3)), (hb4, .inl (t 1, 40, .inl hg4)), (jc, .inr (1, [.int jcs, .ref jb1, .ref jb2, .ref jb3, .ref jb4])), (jb1, .inl (t 1, 40, .inl jg1)), (jb2, .inl (t 1, 40, .inl jg2)), (jb3, .inl (t 1, 40, .inl jg3)), (jb4, .inl (t 1, 40, .inl jg4))]) rfl (fun H locs hP hD hS => ?_)
  refine lv_aload_n hx hb dX1_keep_8 rfl (lv_at hl 1 rfl) ?_
  refine gf hx hb hts hown hK hP 5 inT1 rfl rfl 1 (by decide) tw1_59 rfl dX1_keep_9 ?_
  refine lv_iconst (v := 0) hx hb dX1_keep_12 (by decide) ?_
  refine lv_aload_n hx hb dX1_keep_13 rfl (lv_at hl 0 rfl) ?_
  refine gf hx hb hts hown hK hP 0 inT1 rfl rfl 1 (by decide) tw1_59 rfl dX1_keep_14 ?_
  refine lv_iconst (v := 0) hx hb dX1_keep_17 (by decide) ?_
  refine lv_bipush (v := 40) hx hb dX1_keep_18 (by decide) ?_
  obtain ⟨f_1, ef_1⟩ : ∃ z : Nat → Int32, z = va_cpy jg1 hg1 0 0 40 := ⟨_, rfl⟩
  refine cpI hx hb hml hl.1 hown hts tw5_185 tw5_180 tw5_179 tw1_17 hK hP hD hS 6 1 rfl rfl (by decide) (by decide) (by decide) (by decide) (by decide) (by decide) (Nat.le_of_ble_eq_true rfl) dX1_keep_20 (g' := f_1) (ef_1.symm) (ws' := [(hc, .inr (1, [.int jcs, .ref hb1, .ref hb2, .ref hb3, .ref hb4])), (hb1, .inl (t 1, 40, .inl f_1)), (hb2, .inl (t 1, 40, .inl hg2)), (hb3, .inl (t 1, 40, .inl hg3)), (hb4, .inl (t 1, 40, .inl hg4)), (jc, .inr (1, [.int jcs, .ref jb1, .ref jb2, .ref jb3, .ref jb4])), (jb1, .inl (t 1, 40, .inl jg1)), (jb2, .inl (t 1, 40, .inl jg2)), (jb3, .inl (t 1, 40, .inl jg3)), (jb4, .inl (t 1, 40, .inl jg4))]) rfl (fun H locs hP hD hS => ?_)
  refine lv_aload_n hx hb dX1_keep_23 rfl (lv_at hl 1 rfl) ?_
  refine gf hx hb hts hown hK hP 5 inT1 rfl rfl 2 (by decide) tw1_61 rfl dX1_keep_24 ?_
  refine lv_iconst (v := 0) hx hb dX1_keep_27 (by decide) ?_
  refine lv_aload_n hx hb dX1_keep_28 rfl (lv_at hl 0 rfl) ?_
  refine gf hx hb hts hown hK hP 0 inT1 rfl rfl 2 (by decide) tw1_61 rfl dX1_keep_29 ?_
  refine lv_iconst (v := 0) hx hb dX1_keep_32 (by decide) ?_
  refine lv_bipush (v := 40) hx hb dX1_keep_33 (by decide) ?_
  obtain ⟨f_2, ef_2⟩ : ∃ z : Nat → Int32, z = va_cpy jg2 hg2 0 0 40 := ⟨_, rfl⟩
  refine cpI hx hb hml hl.1 hown hts tw5_185 tw5_180 tw5_179 tw1_17 hK hP hD hS 7 2 rfl rfl (by decide) (by decide) (by decide) (by decide) (by decide) (by decide) (Nat.le_of_ble_eq_true rfl) dX1_keep_35 (g' := f_2) (ef_2.symm) (ws' := [(hc, .inr (1, [.int jcs, .ref hb1, .ref hb2, .ref hb3, .ref hb4])), (hb1, .inl (t 1, 40, .inl f_1)), (hb2, .inl (t 1, 40, .inl f_2)), (hb3, .inl (t 1, 40, .inl hg3)), (hb4, .inl (t 1, 40, .inl hg4)), (jc, .inr (1, [.int jcs, .ref jb1, .ref jb2, .ref jb3, .ref jb4])), (jb1, .inl (t 1, 40, .inl jg1)), (jb2, .inl (t 1, 40, .inl jg2)), (jb3, .inl (t 1, 40, .inl jg3)), (jb4, .inl (t 1, 40, .inl jg4))]) rfl (fun H locs hP hD hS => ?_)
  refine lv_aload_n hx hb dX1_keep_38 rfl (lv_at hl 1 rfl) ?_
  refine gf hx hb hts hown hK hP 5 inT1 rfl rfl 3 (by decide) tw1_63 rfl dX1_keep_39 ?_
  refine lv_iconst (v := 0) hx hb dX1_keep_42 (by decide) ?_
  refine lv_aload_n hx hb dX1_keep_43 rfl (lv_at hl 0 rfl) ?_
  refine gf hx hb hts hown hK hP 0 inT1 rfl rfl 3 (by decide) tw1_63 rfl dX1_keep_44 ?_
  refine lv_iconst (v := 0) hx hb dX1_keep_47 (by decide) ?_
  refine lv_bipush (v := 40) hx hb dX1_keep_48 (by decide) ?_
  obtain ⟨f_3, ef_3⟩ : ∃ z : Nat → Int32, z = va_cpy jg3 hg3 0 0 40 := ⟨_, rfl⟩
  refine cpI hx hb hml hl.1 hown hts tw5_185 tw5_180 tw5_179 tw1_17 hK hP hD hS 8 3 rfl rfl (by decide) (by decide) (by decide) (by decide) (by decide) (by decide) (Nat.le_of_ble_eq_true rfl) dX1_keep_50 (g' := f_3) (ef_3.symm) (ws' := [(hc, .inr (1, [.int jcs, .ref hb1, .ref hb2, .ref hb3, .ref hb4])), (hb1, .inl (t 1, 40, .inl f_1)), (hb2, .inl (t 1, 40, .inl f_2)), (hb3, .inl (t 1, 40, .inl f_3)), (hb4, .inl (t 1, 40, .inl hg4)), (jc, .inr (1, [.int jcs, .ref jb1, .ref jb2, .ref jb3, .ref jb4])), (jb1, .inl (t 1, 40, .inl jg1)), (jb2, .inl (t 1, 40, .inl jg2)), (jb3, .inl (t 1, 40, .inl jg3)), (jb4, .inl (t 1, 40, .inl jg4))]) rfl (fun H locs hP hD hS => ?_)
  refine lv_aload_n hx hb dX1_keep_53 rfl (lv_at hl 1 rfl) ?_
  refine gf hx hb hts hown hK hP 5 inT1 rfl rfl 4 (by decide) tw1_65 rfl dX1_keep_54 ?_
  refine lv_iconst (v := 0) hx hb dX1_keep_57 (by decide) ?_
  refine lv_aload_n hx hb dX1_keep_58 rfl (lv_at hl 0 rfl) ?_
  refine gf hx hb hts hown hK hP 0 inT1 rfl rfl 4 (by decide) tw1_65 rfl dX1_keep_59 ?_
  refine lv_iconst (v := 0) hx hb dX1_keep_62 (by decide) ?_
  refine lv_bipush (v := 40) hx hb dX1_keep_63 (by decide) ?_
  obtain ⟨f_4, ef_4⟩ : ∃ z : Nat → Int32, z = va_cpy jg4 hg4 0 0 40 := ⟨_, rfl⟩
  refine cpI hx hb hml hl.1 hown hts tw5_185 tw5_180 tw5_179 tw1_17 hK hP hD hS 9 4 rfl rfl (by decide) (by decide) (by decide) (by decide) (by decide) (by decide) (Nat.le_of_ble_eq_true rfl) dX1_keep_65 (g' := f_4) (ef_4.symm) (ws' := [(hc, .inr (1, [.int jcs, .ref hb1, .ref hb2, .ref hb3, .ref hb4])), (hb1, .inl (t 1, 40, .inl f_1)), (hb2, .inl (t 1, 40, .inl f_2)), (hb3, .inl (t 1, 40, .inl f_3)), (hb4, .inl (t 1, 40, .inl f_4)), (jc, .inr (1, [.int jcs, .ref jb1, .ref jb2, .ref jb3, .ref jb4])), (jb1, .inl (t 1, 40, .inl jg1)), (jb2, .inl (t 1, 40, .inl jg2)), (jb3, .inl (t 1, 40, .inl jg3)), (jb4, .inl (t 1, 40, .inl jg4))]) rfl (fun H locs hP hD hS => ?_)
  exact rtV hx hb hr hlocks hS (jcs, f_1, f_2, f_3, f_4) ((show 0 ≤ jcs.toInt ∧ jcs.toInt ≤ 40 from (by omega))) (hP.sub [0, 1, 2, 3, 4, 5, 6, 7, 8, 9] rfl) (hD.sub [0, 1, 2, 3, 4, 5, 6, 7, 8, 9] (by decide) rfl) dX1_keep_68

set_option maxHeartbeats 4000000 in
set_option maxRecDepth 100000 in
theorem x_hasRow (l : Launch) (G : va_G) (t : Nat → ClassId) (s0 : Nat) (n0 : Nat) (sw : Int32) (sn : Int32) (h_sw : 0 ≤ sw.toInt ∧ sw.toInt ≤ 3) (h_sn : (-1) ≤ sn.toInt ∧ sn.toInt ≤ 60) : Ct l G t yX8_hasRow cX8_hasRow 1 (some .boolean) ({ frames := 0, cells := 0, slots := 0, locals := 0 }) [.ref s0] [(s0, .inr (8, [.ref n0, .int sw, .int sn]))] (QI G (fun r (u : Unit) => ((r.toInt = 0 ∧ sn.toInt = -1) ∨ (r.toInt = 1 ∧ 0 ≤ sn.toInt))) (fun (u : Unit) => [(s0, .inr (8, [.ref n0, .int sw, .int sn]))])) := by
  refine ent (by decide) (Nat.le_of_ble_eq_true rfl) ?_
  intro p e s m args below meth c hx hb hr hml hts hown hlocks hin A hA hK hO hP hD hS ls hl
  have hown : s.vm.findClass RX8 = some m.cls := hown
  have hl : lv_has ls 1 [(0, .ref s0)] := hl
  have C0 : Cx p s m args c cX8_hasRow 1 RX8 G t := ⟨hx, hb, hml, hown, hts, hK, hO⟩
  refine lv_aload_n hx hb dX8_hasRow_0 rfl (lv_at hl 0 rfl) ?_
  refine gf hx hb hts hown hK hP 0 inT8 rfl rfl 2 (by decide) tw1_185 rfl dX8_hasRow_1 ?_
  refine lv_iconst (v := (-1)) hx hb dX8_hasRow_4 (by decide) ?_
  refine bI_eq (tgt := 12) hx hb dX8_hasRow_5 (by decide) sn.toInt (-1) rfl rfl (fun c_1 => ?_) (fun c_1 => ?_)
  · refine lv_iconst (v := 0) hx hb dX8_hasRow_12 (by decide) ?_
    exact rtZ hx hb hr hlocks hS rfl () ((show ((0 : Int32).toInt = 0 ∧ sn.toInt = -1) ∨ ((0 : Int32).toInt = 1 ∧ 0 ≤ sn.toInt) from (by have : (0 : Int32).toInt = 0 := rfl; omega))) (hP.sub [0] rfl) (hD.sub [0] (by decide) rfl) dX8_hasRow_13
  · refine lv_iconst (v := 1) hx hb dX8_hasRow_8 (by decide) ?_
    refine lv_goto (tgt := 13) hx hb dX8_hasRow_9 (by decide) ?_
    exact rtZ hx hb hr hlocks hS rfl () ((show ((1 : Int32).toInt = 0 ∧ sn.toInt = -1) ∨ ((1 : Int32).toInt = 1 ∧ 0 ≤ sn.toInt) from (by have : (1 : Int32).toInt = 1 := rfl; omega))) (hP.sub [0] rfl) (hD.sub [0] (by decide) rfl) dX8_hasRow_13

set_option maxHeartbeats 4000000 in
set_option maxRecDepth 100000 in
theorem x_lay (l : Launch) (G : va_G) (t : Nat → ClassId) (s0 : Nat) (a0 : Int32) (b0 : Int32) (n0 : Nat) (sw : Int32) (sn : Int32) (sf : Nat → Int64) (h_a0 : 0 ≤ a0.toInt ∧ a0.toInt ≤ 3) (h_b0 : 0 ≤ b0.toInt ∧ b0.toInt ≤ 60) (h_sw : 0 ≤ sw.toInt ∧ sw.toInt ≤ 3) (h_sn : (-1) ≤ sn.toInt ∧ sn.toInt ≤ 60) : Ct l G t yX8_lay cX8_lay 4 none ({ frames := 0, cells := 0, slots := 0, locals := 0 }) [.ref s0, .int a0, .int b0] [(s0, .inr (8, [.ref n0, .int sw, .int sn])), (n0, .inl (t 2, 60, .inr (.inl sf)))] (QV G (fun (u : (Nat → Int64)) => True) (fun (u : (Nat → Int64)) => [(s0, .inr (8, [.ref n0, .int a0, .int b0])), (n0, .inl (t 2, 60, .inr (.inl u)))])) := by
  refine ent (by decide) (Nat.le_of_ble_eq_true rfl) ?_
  intro p e s m args below meth c hx hb hr hml hts hown hlocks hin A hA hK hO hP hD hS ls hl
  have hown : s.vm.findClass RX8 = some m.cls := hown
  have hl : lv_has ls 4 [(0, .ref s0), (1, .int a0), (2, .int b0)] := hl
  have C0 : Cx p s m args c cX8_lay 4 RX8 G t := ⟨hx, hb, hml, hown, hts, hK, hO⟩
  refine lv_aload_n hx hb dX8_lay_0 rfl (lv_at hl 0 rfl) ?_
  refine lv_iload_n hx hb dX8_lay_1 rfl (lv_at hl 1 rfl) ?_
  refine pf hx hb hts hown hK hP hD hS 0 inT8 tyX8_ok nmX8 rfl rfl 1 (by decide) tw1_183 rfl rfl rfl (Nat.le_of_ble_eq_true rfl) dX8_lay_2 (ws' := [(s0, .inr (8, [.ref n0, .int a0, .int sn])), (n0, .inl (t 2, 60, .inr (.inl sf)))]) rfl (fun H locs hP hD hS => ?_)
  refine lv_aload_n hx hb dX8_lay_5 rfl (lv_at hl 0 rfl) ?_
  refine lv_iload_n hx hb dX8_lay_6 rfl (lv_at hl 2 rfl) ?_
  refine pf hx hb hts hown hK hP hD hS 0 inT8 tyX8_ok nmX8 rfl rfl 2 (by decide) tw1_185 rfl rfl rfl (Nat.le_of_ble_eq_true rfl) dX8_lay_7 (ws' := [(s0, .inr (8, [.ref n0, .int a0, .int b0])), (n0, .inl (t 2, 60, .inr (.inl sf)))]) rfl (fun H locs hP hD hS => ?_)
  refine lv_iconst (v := 0) hx hb dX8_lay_10 (by decide) ?_
  refine lv_istore_n (lv' := [(3, .int 0), (0, .ref s0), (1, .int a0), (2, .int b0)]) hx hb dX8_lay_11 rfl hl (by decide) rfl (fun ls hl => ?_)
  have LP_7 : ∀ (n : Nat) (g_4 : Int32) (f_6 : Nat → Int64) (b_5 : 0 ≤ g_4.toInt) (H : Heap) (locs : List Loc) (ls : Array Slot), lv_has ls 4 [(3, .int g_4), (0, .ref s0), (1, .int a0), (2, .int b0)] → va_P G vwCl [(s0, .inr (8, [.ref n0, .int a0, .int b0])), (n0, .inl (t 2, 60, .inr (.inl f_6)))] H → va_D A [(s0, .inr (8, [.ref n0, .int a0, .int b0])), (n0, .inl (t 2, 60, .inr (.inl f_6)))] → va_S A s.heap H locs → Int.toNat (60 - g_4.toInt) = n → W p l e ({ frames := 0, cells := 0, slots := 0, locals := 0 }) s m args below meth c H locs 0 0 (MQ below ((QV G (fun (u : (Nat → Int64)) => True) (fun (u : (Nat → Int64)) => [(s0, .inr (8, [.ref n0, .int a0, .int b0])), (n0, .inl (t 2, 60, .inr (.inl u)))])) A) args s 0 0 A) (F0 m 12 ls []) := by
    intro n
    induction n using Nat.strongRecOn with
    | ind n ih_12 =>
      intro g_4 f_6 b_5 H locs ls hl hP hD hS hmu
      have := zrng g_4
      refine lv_iload_n hx hb dX8_lay_12 rfl (lv_at hl 0 rfl) ?_
      refine lv_bipush (v := 60) hx hb dX8_lay_13 (by decide) ?_
      refine bI_ge (tgt := 31) hx hb dX8_lay_15 (by decide) g_4.toInt 60 rfl rfl (fun c_8 => ?_) (fun c_8 => ?_)
      · exact rtV hx hb hr hlocks hS f_6 (trivial) (hP.sub [0, 1] rfl) (hD.sub [0, 1] (by decide) rfl) dX8_lay_31
      · refine lv_aload_n hx hb dX8_lay_18 rfl (lv_at hl 1 rfl) ?_
        refine gf hx hb hts hown hK hP 0 inT8 rfl rfl 0 (by decide) tw1_181 rfl dX8_lay_19 ?_
        refine lv_iload_n hx hb dX8_lay_22 rfl (lv_at hl 0 rfl) ?_
        refine lv_lconst (v := 0) hx hb dX8_lay_23 (by decide) ?_
        refine saL hx hb hK hP hD hS 1 rfl g_4.toInt rfl (by omega) dX8_lay_24 (fun f_9 ef_9 H locs hP hD hS => ?_)
        have hP : va_P G vwCl [(s0, .inr (8, [.ref n0, .int a0, .int b0])), (n0, .inl (t 2, 60, .inr (.inl f_9)))] H := hP
        have hD : va_D A [(s0, .inr (8, [.ref n0, .int a0, .int b0])), (n0, .inl (t 2, 60, .inr (.inl f_9)))] := hD
        first | refine incZ hx hb dX8_lay_25 hl (k := 0) rfl g_4.toInt rfl (by have := zrng g_4; omega) (by decide) (fun v_10 zv_10 ls hl => ?_) | refine incU hx hb dX8_lay_25 hl (k := 0) rfl (by decide) (fun v_10 ls hl => ?_)
        have hl : lv_has ls 4 [(3, .int v_10), (0, .ref s0), (1, .int a0), (2, .int b0)] := hl
        refine lv_goto (tgt := 12) hx hb dX8_lay_28 (by decide) ?_
        exact ih_12 (Int.toNat (60 - v_10.toInt)) (by omega) v_10 f_9 (by omega) _ _ _ (lv_sub hl [0, 1, 2, 3] rfl) (hP.sub [0, 1] rfl) (hD.sub [0, 1] (by decide) rfl) hS rfl
  exact LP_7 (Int.toNat (60 - 0)) 0 sf (by have : (0 : Int32).toInt = 0 := rfl; omega) _ _ _ (lv_sub hl [0, 1, 2, 3] rfl) (hP.sub [0, 1] rfl) (hD.sub [0, 1] (by decide) rfl) hS rfl

set_option maxHeartbeats 4000000 in
set_option maxRecDepth 100000 in
theorem x_cut (l : Launch) (G : va_G) (t : Nat → ClassId) (s0 : Nat) (v0 : Int64) (n0 : Nat) (sw : Int32) (sn : Int32) (h_sw : 0 ≤ sw.toInt ∧ sw.toInt ≤ 3) (h_sn : (-1) ≤ sn.toInt ∧ sn.toInt ≤ 60) : Ct l G t yX8_cut cX8_cut 3 (some .long) ({ frames := 0, cells := 0, slots := 0, locals := 0 }) [.ref s0, .long v0] [(s0, .inr (8, [.ref n0, .int sw, .int sn]))] (QL G (fun r (u : Unit) => True) (fun (u : Unit) => [(s0, .inr (8, [.ref n0, .int sw, .int sn]))])) := by
  refine ent (by decide) (Nat.le_of_ble_eq_true rfl) ?_
  intro p e s m args below meth c hx hb hr hml hts hown hlocks hin A hA hK hO hP hD hS ls hl
  have hown : s.vm.findClass RX8 = some m.cls := hown
  have hl : lv_has ls 3 [(0, .ref s0), (1, .long v0)] := hl
  have C0 : Cx p s m args c cX8_cut 3 RX8 G t := ⟨hx, hb, hml, hown, hts, hK, hO⟩
  refine lv_aload_n hx hb dX8_cut_0 rfl (lv_at hl 0 rfl) ?_
  refine gf hx hb hts hown hK hP 0 inT8 rfl rfl 1 (by decide) tw1_183 rfl dX8_cut_1 ?_
  by_cases g_1 : sw = 0
  · subst g_1
    refine lv_tableIn (tgt := 32) hx hb dX8_cut_4 (by decide) (by decide) rfl (by decide) ?_
    refine lv_lload_n hx hb dX8_cut_32 rfl (lv_at hl 1 rfl) ?_
    first | refine liZ hx hb dX8_cut_33 v0.toInt rfl (by omega) (fun v_2 zv_2 => ?_) | refine lv_l2i hx hb dX8_cut_33 rfl (gnI (fun v_2 => ?_))
    refine lv_i2b hx hb dX8_cut_34 rfl (gnI (fun v_3 => ?_))
    refine ilZ hx hb dX8_cut_35 v_3.toInt rfl (fun v_4 zv_4 => ?_)
    exact rtL hx hb hr hlocks hS () (trivial) (hP.sub [0] rfl) (hD.sub [0] (by decide) rfl) dX8_cut_36
  by_cases g_5 : sw = 1
  · subst g_5
    refine lv_tableIn (tgt := 37) hx hb dX8_cut_4 (by decide) (by decide) rfl (by decide) ?_
    refine lv_lload_n hx hb dX8_cut_37 rfl (lv_at hl 1 rfl) ?_
    first | refine liZ hx hb dX8_cut_38 v0.toInt rfl (by omega) (fun v_6 zv_6 => ?_) | refine lv_l2i hx hb dX8_cut_38 rfl (gnI (fun v_6 => ?_))
    refine lv_i2s hx hb dX8_cut_39 rfl (gnI (fun v_7 => ?_))
    refine ilZ hx hb dX8_cut_40 v_7.toInt rfl (fun v_8 zv_8 => ?_)
    exact rtL hx hb hr hlocks hS () (trivial) (hP.sub [0] rfl) (hD.sub [0] (by decide) rfl) dX8_cut_41
  by_cases g_9 : sw = 2
  · subst g_9
    refine lv_tableIn (tgt := 42) hx hb dX8_cut_4 (by decide) (by decide) rfl (by decide) ?_
    refine lv_lload_n hx hb dX8_cut_42 rfl (lv_at hl 1 rfl) ?_
    first | refine liZ hx hb dX8_cut_43 v0.toInt rfl (by omega) (fun v_10 zv_10 => ?_) | refine lv_l2i hx hb dX8_cut_43 rfl (gnI (fun v_10 => ?_))
    refine ilZ hx hb dX8_cut_44 v_10.toInt rfl (fun v_11 zv_11 => ?_)
    exact rtL hx hb hr hlocks hS () (trivial) (hP.sub [0] rfl) (hD.sub [0] (by decide) rfl) dX8_cut_45
  refine lv_tableOut (tgt := 46) hx hb dX8_cut_4 (by have ng_1 := lv_neT (a := 0) g_1 rfl; have ng_5 := lv_neT (a := 1) g_5 rfl; have ng_9 := lv_neT (a := 2) g_9 rfl; omega) (by decide) ?_
  refine lv_lload_n hx hb dX8_cut_46 rfl (lv_at hl 1 rfl) ?_
  exact rtL hx hb hr hlocks hS () (trivial) (hP.sub [0] rfl) (hD.sub [0] (by decide) rfl) dX8_cut_47

set_option maxHeartbeats 4000000 in
set_option maxRecDepth 100000 in
theorem x_put (l : Launch) (G : va_G) (t : Nat → ClassId) (s0 : Nat) (a0 : Int32) (v0 : Int64) (n0 : Nat) (sw : Int32) (sn : Int32) (sf : Nat → Int64) (h_sw : 0 ≤ sw.toInt ∧ sw.toInt ≤ 3) (h_sn : (-1) ≤ sn.toInt ∧ sn.toInt ≤ 60) : Ct l G t yX8_put cX8_put 4 none ({ frames := 1, cells := 0, slots := 0, locals := 22 }) [.ref s0, .int a0, .long v0] [(s0, .inr (8, [.ref n0, .int sw, .int sn])), (n0, .inl (t 2, 60, .inr (.inl sf)))] (QV G (fun (u : (Nat → Int64)) => True) (fun (u : (Nat → Int64)) => [(s0, .inr (8, [.ref n0, .int sw, .int sn])), (n0, .inl (t 2, 60, .inr (.inl u)))])) := by
  refine ent (by decide) (Nat.le_of_ble_eq_true rfl) ?_
  intro p e s m args below meth c hx hb hr hml hts hown hlocks hin A hA hK hO hP hD hS ls hl
  have hown : s.vm.findClass RX8 = some m.cls := hown
  have hl : lv_has ls 4 [(0, .ref s0), (1, .int a0), (2, .long v0)] := hl
  have C0 : Cx p s m args c cX8_put 4 RX8 G t := ⟨hx, hb, hml, hown, hts, hK, hO⟩
  have := zrng a0
  refine lv_iload_n hx hb dX8_put_0 rfl (lv_at hl 1 rfl) ?_
  refine bF_lt (tgt := 29) hx hb dX8_put_1 (by decide) a0.toInt rfl (fun c_1 => ?_) (fun c_1 => ?_)
  · exact rtV hx hb hr hlocks hS sf (trivial) (hP.sub [0, 1] rfl) (hD.sub [0, 1] (by decide) rfl) dX8_put_29
  · refine lv_iload_n hx hb dX8_put_4 rfl (lv_at hl 1 rfl) ?_
    refine lv_aload_n hx hb dX8_put_5 rfl (lv_at hl 0 rfl) ?_
    refine gf hx hb hts hown hK hP 0 inT8 rfl rfl 2 (by decide) tw1_185 rfl dX8_put_6 ?_
    refine bI_ge (tgt := 29) hx hb dX8_put_9 (by decide) a0.toInt sn.toInt rfl rfl (fun c_2 => ?_) (fun c_2 => ?_)
    · exact rtV hx hb hr hlocks hS sf (trivial) (hP.sub [0, 1] rfl) (hD.sub [0, 1] (by decide) rfl) dX8_put_29
    · refine lv_iload_n hx hb dX8_put_12 rfl (lv_at hl 1 rfl) ?_
      refine lv_bipush (v := 60) hx hb dX8_put_13 (by decide) ?_
      refine bI_ge (tgt := 29) hx hb dX8_put_15 (by decide) a0.toInt 60 rfl rfl (fun c_3 => ?_) (fun c_3 => ?_)
      · exact rtV hx hb hr hlocks hS sf (trivial) (hP.sub [0, 1] rfl) (hD.sub [0, 1] (by decide) rfl) dX8_put_29
      · refine lv_aload_n hx hb dX8_put_18 rfl (lv_at hl 0 rfl) ?_
        refine gf hx hb hts hown hK hP 0 inT8 rfl rfl 0 (by decide) tw1_181 rfl dX8_put_19 ?_
        refine lv_iload_n hx hb dX8_put_22 rfl (lv_at hl 1 rfl) ?_
        refine lv_aload_n hx hb dX8_put_23 rfl (lv_at hl 0 rfl) ?_
        refine lv_lload_n hx hb dX8_put_24 rfl (lv_at hl 2 rfl) ?_
        refine goL (rnV C0 (x_cut l G t s0 v0 n0 sw sn (by omega) (by omega)) lkX8_22 ⟨by decide, by decide⟩ (hP.sub (ws' := [(s0, .inr (8, [.ref n0, .int sw, .int sn]))]) [0] rfl) (hD.sub (ws' := [(s0, .inr (8, [.ref n0, .int sw, .int sn]))]) [0] (by decide) rfl) 0 8 rfl rfl rfl rfl hl.1 (rest := [.int a0, .ref n0]) rfl (Nat.le_of_ble_eq_true rfl) dX8_put_25 ⟨by decide, by decide⟩) hP hD hS hA [0] [1] (wr := [(n0, .inl (t 2, 60, .inr (.inl sf)))]) rfl rfl (by decide) (by decide) (fun r_4 u H locs h_5 hP hD hS => ?_)
        have hP : va_P G vwCl [(n0, .inl (t 2, 60, .inr (.inl sf))), (s0, .inr (8, [.ref n0, .int sw, .int sn]))] H := hP
        have hD : va_D A [(n0, .inl (t 2, 60, .inr (.inl sf))), (s0, .inr (8, [.ref n0, .int sw, .int sn]))] := hD
        refine W.widen (k := 0) (n := 0) (Nat.le_of_ble_eq_true rfl) (Nat.le_of_ble_eq_true rfl) ?_
        refine saL hx hb hK hP hD hS 0 rfl a0.toInt rfl (by omega) dX8_put_28 (fun f_6 ef_6 H locs hP hD hS => ?_)
        have hP : va_P G vwCl [(n0, .inl (t 2, 60, .inr (.inl f_6))), (s0, .inr (8, [.ref n0, .int sw, .int sn]))] H := hP
        have hD : va_D A [(n0, .inl (t 2, 60, .inr (.inl f_6))), (s0, .inr (8, [.ref n0, .int sw, .int sn]))] := hD
        exact rtV hx hb hr hlocks hS f_6 (trivial) (hP.sub [1, 0] rfl) (hD.sub [1, 0] (by decide) rfl) dX8_put_29

set_option maxHeartbeats 4000000 in
set_option maxRecDepth 100000 in
theorem x_hasRange (l : Launch) (G : va_G) (t : Nat → ClassId) (s0 : Nat) (a0 : Int32) (b0 : Int32) (n0 : Nat) (sw : Int32) (sn : Int32) (h_sw : 0 ≤ sw.toInt ∧ sw.toInt ≤ 3) (h_sn : (-1) ≤ sn.toInt ∧ sn.toInt ≤ 60) : Ct l G t yX8_hasRange cX8_hasRange 3 (some .boolean) ({ frames := 0, cells := 0, slots := 0, locals := 0 }) [.ref s0, .int a0, .int b0] [(s0, .inr (8, [.ref n0, .int sw, .int sn]))] (QI G (fun r (u : Unit) => ((r.toInt = 1 ∧ 0 ≤ a0.toInt ∧ 0 ≤ b0.toInt ∧ a0.toInt + b0.toInt ≤ sn.toInt) ∨ (r.toInt = 0 ∧ ¬ (0 ≤ a0.toInt ∧ 0 ≤ b0.toInt ∧ a0.toInt + b0.toInt ≤ sn.toInt)))) (fun (u : Unit) => [(s0, .inr (8, [.ref n0, .int sw, .int sn]))])) := by
  refine ent (by decide) (Nat.le_of_ble_eq_true rfl) ?_
  intro p e s m args below meth c hx hb hr hml hts hown hlocks hin A hA hK hO hP hD hS ls hl
  have hown : s.vm.findClass RX8 = some m.cls := hown
  have hl : lv_has ls 3 [(0, .ref s0), (1, .int a0), (2, .int b0)] := hl
  have C0 : Cx p s m args c cX8_hasRange 3 RX8 G t := ⟨hx, hb, hml, hown, hts, hK, hO⟩
  have := zrng a0
  have := zrng b0
  refine lv_iload_n hx hb dX8_hasRange_0 rfl (lv_at hl 1 rfl) ?_
  refine bF_lt (tgt := 30) hx hb dX8_hasRange_1 (by decide) a0.toInt rfl (fun c_1 => ?_) (fun c_1 => ?_)
  · refine lv_iconst (v := 0) hx hb dX8_hasRange_30 (by decide) ?_
    exact rtZ hx hb hr hlocks hS rfl () ((show ((0 : Int32).toInt = 1 ∧ 0 ≤ a0.toInt ∧ 0 ≤ b0.toInt ∧ a0.toInt + b0.toInt ≤ sn.toInt) ∨ ((0 : Int32).toInt = 0 ∧ ¬ (0 ≤ a0.toInt ∧ 0 ≤ b0.toInt ∧ a0.toInt + b0.toInt ≤ sn.toInt)) from (by have : (0 : Int32).toInt = 0 := rfl; omega))) (hP.sub [0] rfl) (hD.sub [0] (by decide) rfl) dX8_hasRange_31
  · refine lv_iload_n hx hb dX8_hasRange_4 rfl (lv_at hl 2 rfl) ?_
    refine bF_lt (tgt := 30) hx hb dX8_hasRange_5 (by decide) b0.toInt rfl (fun c_2 => ?_) (fun c_2 => ?_)
    · refine lv_iconst (v := 0) hx hb dX8_hasRange_30 (by decide) ?_
      exact rtZ hx hb hr hlocks hS rfl () ((show ((0 : Int32).toInt = 1 ∧ 0 ≤ a0.toInt ∧ 0 ≤ b0.toInt ∧ a0.toInt + b0.toInt ≤ sn.toInt) ∨ ((0 : Int32).toInt = 0 ∧ ¬ (0 ≤ a0.toInt ∧ 0 ≤ b0.toInt ∧ a0.toInt + b0.toInt ≤ sn.toInt)) from (by have : (0 : Int32).toInt = 0 := rfl; omega))) (hP.sub [0] rfl) (hD.sub [0] (by decide) rfl) dX8_hasRange_31
    · refine lv_iload_n hx hb dX8_hasRange_8 rfl (lv_at hl 2 rfl) ?_
      refine lv_aload_n hx hb dX8_hasRange_9 rfl (lv_at hl 0 rfl) ?_
      refine gf hx hb hts hown hK hP 0 inT8 rfl rfl 2 (by decide) tw1_185 rfl dX8_hasRange_10 ?_
      refine bI_gt (tgt := 30) hx hb dX8_hasRange_13 (by decide) b0.toInt sn.toInt rfl rfl (fun c_3 => ?_) (fun c_3 => ?_)
      · refine lv_iconst (v := 0) hx hb dX8_hasRange_30 (by decide) ?_
        exact rtZ hx hb hr hlocks hS rfl () ((show ((0 : Int32).toInt = 1 ∧ 0 ≤ a0.toInt ∧ 0 ≤ b0.toInt ∧ a0.toInt + b0.toInt ≤ sn.toInt) ∨ ((0 : Int32).toInt = 0 ∧ ¬ (0 ≤ a0.toInt ∧ 0 ≤ b0.toInt ∧ a0.toInt + b0.toInt ≤ sn.toInt)) from (by have : (0 : Int32).toInt = 0 := rfl; omega))) (hP.sub [0] rfl) (hD.sub [0] (by decide) rfl) dX8_hasRange_31
      · refine lv_iload_n hx hb dX8_hasRange_16 rfl (lv_at hl 1 rfl) ?_
        refine lv_aload_n hx hb dX8_hasRange_17 rfl (lv_at hl 0 rfl) ?_
        refine gf hx hb hts hown hK hP 0 inT8 rfl rfl 2 (by decide) tw1_185 rfl dX8_hasRange_18 ?_
        refine lv_iload_n hx hb dX8_hasRange_21 rfl (lv_at hl 2 rfl) ?_
        first | refine sbZ hx hb dX8_hasRange_22 sn.toInt b0.toInt rfl rfl (by have := zrng sn; have := zrng b0; omega) (fun v_4 zv_4 => ?_) | refine lv_isub hx hb dX8_hasRange_22 (gnI (fun v_4 => ?_))
        refine bI_gt (tgt := 30) hx hb dX8_hasRange_23 (by decide) a0.toInt v_4.toInt rfl rfl (fun c_5 => ?_) (fun c_5 => ?_)
        · refine lv_iconst (v := 0) hx hb dX8_hasRange_30 (by decide) ?_
          exact rtZ hx hb hr hlocks hS rfl () ((show ((0 : Int32).toInt = 1 ∧ 0 ≤ a0.toInt ∧ 0 ≤ b0.toInt ∧ a0.toInt + b0.toInt ≤ sn.toInt) ∨ ((0 : Int32).toInt = 0 ∧ ¬ (0 ≤ a0.toInt ∧ 0 ≤ b0.toInt ∧ a0.toInt + b0.toInt ≤ sn.toInt)) from (by have : (0 : Int32).toInt = 0 := rfl; omega))) (hP.sub [0] rfl) (hD.sub [0] (by decide) rfl) dX8_hasRange_31
        · refine lv_iconst (v := 1) hx hb dX8_hasRange_26 (by decide) ?_
          refine lv_goto (tgt := 31) hx hb dX8_hasRange_27 (by decide) ?_
          exact rtZ hx hb hr hlocks hS rfl () ((show ((1 : Int32).toInt = 1 ∧ 0 ≤ a0.toInt ∧ 0 ≤ b0.toInt ∧ a0.toInt + b0.toInt ≤ sn.toInt) ∨ ((1 : Int32).toInt = 0 ∧ ¬ (0 ≤ a0.toInt ∧ 0 ≤ b0.toInt ∧ a0.toInt + b0.toInt ≤ sn.toInt)) from (by have : (1 : Int32).toInt = 1 := rfl; omega))) (hP.sub [0] rfl) (hD.sub [0] (by decide) rfl) dX8_hasRange_31

set_option maxHeartbeats 4000000 in
set_option maxRecDepth 100000 in
theorem x_small (l : Launch) (G : va_G) (t : Nat → ClassId) (s0 : Nat) (a0 : Int32) (n0 : Nat) (sw : Int32) (sn : Int32) (sf : Nat → Int64) (h_sw : 0 ≤ sw.toInt ∧ sw.toInt ≤ 3) (h_sn : (-1) ≤ sn.toInt ∧ sn.toInt ≤ 60) : Ct l G t yX8_small cX8_small 2 (some .int) ({ frames := 0, cells := 0, slots := 0, locals := 0 }) [.ref s0, .int a0] [(s0, .inr (8, [.ref n0, .int sw, .int sn])), (n0, .inl (t 2, 60, .inr (.inl sf)))] (QI G (fun r (u : Unit) => True) (fun (u : Unit) => [(s0, .inr (8, [.ref n0, .int sw, .int sn])), (n0, .inl (t 2, 60, .inr (.inl sf)))])) := by
  refine ent (by decide) (Nat.le_of_ble_eq_true rfl) ?_
  intro p e s m args below meth c hx hb hr hml hts hown hlocks hin A hA hK hO hP hD hS ls hl
  have hown : s.vm.findClass RX8 = some m.cls := hown
  have hl : lv_has ls 2 [(0, .ref s0), (1, .int a0)] := hl
  have C0 : Cx p s m args c cX8_small 2 RX8 G t := ⟨hx, hb, hml, hown, hts, hK, hO⟩
  have := zrng a0
  refine lv_iload_n hx hb dX8_small_0 rfl (lv_at hl 1 rfl) ?_
  refine bF_lt (tgt := 42) hx hb dX8_small_1 (by decide) a0.toInt rfl (fun c_1 => ?_) (fun c_1 => ?_)
  · refine lv_iconst (v := (-1)) hx hb dX8_small_42 (by decide) ?_
    exact rtI hx hb hr hlocks hS () (trivial) (hP.sub [0, 1] rfl) (hD.sub [0, 1] (by decide) rfl) dX8_small_43
  · refine lv_iload_n hx hb dX8_small_4 rfl (lv_at hl 1 rfl) ?_
    refine lv_aload_n hx hb dX8_small_5 rfl (lv_at hl 0 rfl) ?_
    refine gf hx hb hts hown hK hP 0 inT8 rfl rfl 2 (by decide) tw1_185 rfl dX8_small_6 ?_
    refine bI_ge (tgt := 42) hx hb dX8_small_9 (by decide) a0.toInt sn.toInt rfl rfl (fun c_2 => ?_) (fun c_2 => ?_)
    · refine lv_iconst (v := (-1)) hx hb dX8_small_42 (by decide) ?_
      exact rtI hx hb hr hlocks hS () (trivial) (hP.sub [0, 1] rfl) (hD.sub [0, 1] (by decide) rfl) dX8_small_43
    · refine lv_iload_n hx hb dX8_small_12 rfl (lv_at hl 1 rfl) ?_
      refine lv_bipush (v := 60) hx hb dX8_small_13 (by decide) ?_
      refine bI_ge (tgt := 42) hx hb dX8_small_15 (by decide) a0.toInt 60 rfl rfl (fun c_3 => ?_) (fun c_3 => ?_)
      · refine lv_iconst (v := (-1)) hx hb dX8_small_42 (by decide) ?_
        exact rtI hx hb hr hlocks hS () (trivial) (hP.sub [0, 1] rfl) (hD.sub [0, 1] (by decide) rfl) dX8_small_43
      · refine lv_aload_n hx hb dX8_small_18 rfl (lv_at hl 0 rfl) ?_
        refine gf hx hb hts hown hK hP 0 inT8 rfl rfl 0 (by decide) tw1_181 rfl dX8_small_19 ?_
        refine lv_iload_n hx hb dX8_small_22 rfl (lv_at hl 1 rfl) ?_
        refine laL hx hb hK hP 1 rfl a0.toInt rfl (by omega) dX8_small_23 (fun v_4 ev_4 => ?_)
        refine lv_lconst (v := 0) hx hb dX8_small_24 (by decide) ?_
        refine bL_lt (tgt := 42) hx hb dX8_small_25 dX8_small_26 (by decide) v_4.toInt 0 rfl rfl (fun c_5 => ?_) (fun c_5 => ?_)
        · refine lv_iconst (v := (-1)) hx hb dX8_small_42 (by decide) ?_
          exact rtI hx hb hr hlocks hS () (trivial) (hP.sub [0, 1] rfl) (hD.sub [0, 1] (by decide) rfl) dX8_small_43
        · refine lv_aload_n hx hb dX8_small_29 rfl (lv_at hl 0 rfl) ?_
          refine gf hx hb hts hown hK hP 0 inT8 rfl rfl 0 (by decide) tw1_181 rfl dX8_small_30 ?_
          refine lv_iload_n hx hb dX8_small_33 rfl (lv_at hl 1 rfl) ?_
          refine laL hx hb hK hP 1 rfl a0.toInt rfl (by omega) dX8_small_34 (fun v_6 ev_6 => ?_)
          refine lv_ldc2 hx hb hown (hts _ tw4_205) dX8_small_35 ?_
          refine bL_le (tgt := 44) hx hb dX8_small_38 dX8_small_39 (by decide) v_6.toInt 60 rfl rfl (fun c_7 => ?_) (fun c_7 => ?_)
          · refine lv_aload_n hx hb dX8_small_44 rfl (lv_at hl 0 rfl) ?_
            refine gf hx hb hts hown hK hP 0 inT8 rfl rfl 0 (by decide) tw1_181 rfl dX8_small_45 ?_
            refine lv_iload_n hx hb dX8_small_48 rfl (lv_at hl 1 rfl) ?_
            refine laL hx hb hK hP 1 rfl a0.toInt rfl (by omega) dX8_small_49 (fun v_8 ev_8 => ?_)
            first | refine liZ hx hb dX8_small_50 v_8.toInt rfl (by omega) (fun v_9 zv_9 => ?_) | refine lv_l2i hx hb dX8_small_50 rfl (gnI (fun v_9 => ?_))
            exact rtI hx hb hr hlocks hS () (trivial) (hP.sub [0, 1] rfl) (hD.sub [0, 1] (by decide) rfl) dX8_small_51
          · refine lv_iconst (v := (-1)) hx hb dX8_small_42 (by decide) ?_
            exact rtI hx hb hr hlocks hS () (trivial) (hP.sub [0, 1] rfl) (hD.sub [0, 1] (by decide) rfl) dX8_small_43

set_option maxHeartbeats 4000000 in
set_option maxRecDepth 100000 in
theorem x_hasRoom (l : Launch) (G : va_G) (t : Nat → ClassId) (tp : Nat) (tb : Nat) (tl : Int32) (h_tl : 0 ≤ tl.toInt ∧ tl.toInt ≤ 1400) : Ct l G t yX10_hasRoom cX10_hasRoom 1 (some .boolean) ({ frames := 0, cells := 0, slots := 0, locals := 0 }) [.ref tp] [(tp, .inr (10, [.ref tb, .int tl]))] (QI G (fun r (u : Unit) => (r.toInt = 0 ∨ (r.toInt = 1 ∧ tl.toInt ≤ 1380))) (fun (u : Unit) => [(tp, .inr (10, [.ref tb, .int tl]))])) := by
  refine ent (by decide) (Nat.le_of_ble_eq_true rfl) ?_
  intro p e s m args below meth c hx hb hr hml hts hown hlocks hin A hA hK hO hP hD hS ls hl
  have hown : s.vm.findClass RX10 = some m.cls := hown
  have hl : lv_has ls 1 [(0, .ref tp)] := hl
  have C0 : Cx p s m args c cX10_hasRoom 1 RX10 G t := ⟨hx, hb, hml, hown, hts, hK, hO⟩
  refine lv_aload_n hx hb dX10_hasRoom_0 rfl (lv_at hl 0 rfl) ?_
  refine gf hx hb hts hown hK hP 0 inT10 rfl rfl 1 (by decide) tw1_33 rfl dX10_hasRoom_1 ?_
  refine lv_bipush (v := 20) hx hb dX10_hasRoom_4 (by decide) ?_
  first | refine adZ hx hb dX10_hasRoom_6 tl.toInt 20 rfl rfl (by have := zrng tl; omega) (fun v_1 zv_1 => ?_) | refine lv_iadd hx hb dX10_hasRoom_6 (gnI (fun v_1 => ?_))
  refine lv_sipush (v := 1400) hx hb dX10_hasRoom_7 (by decide) ?_
  refine bI_gt (tgt := 17) hx hb dX10_hasRoom_10 (by decide) v_1.toInt 1400 rfl rfl (fun c_2 => ?_) (fun c_2 => ?_)
  · refine lv_iconst (v := 0) hx hb dX10_hasRoom_17 (by decide) ?_
    exact rtZ hx hb hr hlocks hS rfl () ((show (0 : Int32).toInt = 0 ∨ ((0 : Int32).toInt = 1 ∧ tl.toInt ≤ 1380) from (by have : (0 : Int32).toInt = 0 := rfl; omega))) (hP.sub [0] rfl) (hD.sub [0] (by decide) rfl) dX10_hasRoom_18
  · refine lv_iconst (v := 1) hx hb dX10_hasRoom_13 (by decide) ?_
    refine lv_goto (tgt := 18) hx hb dX10_hasRoom_14 (by decide) ?_
    exact rtZ hx hb hr hlocks hS rfl () ((show (1 : Int32).toInt = 0 ∨ ((1 : Int32).toInt = 1 ∧ tl.toInt ≤ 1380) from (by have : (1 : Int32).toInt = 1 := rfl; omega))) (hP.sub [0] rfl) (hD.sub [0] (by decide) rfl) dX10_hasRoom_18

set_option maxHeartbeats 4000000 in
set_option maxRecDepth 100000 in
theorem x_tadd (l : Launch) (G : va_G) (t : Nat → ClassId) (tp : Nat) (a0 : Int32) (tb : Nat) (tl : Int32) (tf : Nat → Int32) (h_tl : 0 ≤ tl.toInt ∧ tl.toInt ≤ 1400) : Ct l G t yX10_add cX10_add 3 none ({ frames := 0, cells := 0, slots := 0, locals := 0 }) [.ref tp, .int a0] [(tp, .inr (10, [.ref tb, .int tl])), (tb, .inl (t 0, 1400, .inl tf))] (QV G (fun (u : (Int32) × (Nat → Int32)) => (0 ≤ u.1.toInt ∧ u.1.toInt ≤ 1400)) (fun (u : (Int32) × (Nat → Int32)) => [(tp, .inr (10, [.ref tb, .int u.1])), (tb, .inl (t 0, 1400, .inl u.2))])) := by
  refine ent (by decide) (Nat.le_of_ble_eq_true rfl) ?_
  intro p e s m args below meth c hx hb hr hml hts hown hlocks hin A hA hK hO hP hD hS ls hl
  have hown : s.vm.findClass RX10 = some m.cls := hown
  have hl : lv_has ls 3 [(0, .ref tp), (1, .int a0)] := hl
  have C0 : Cx p s m args c cX10_add 3 RX10 G t := ⟨hx, hb, hml, hown, hts, hK, hO⟩
  have := zrng a0
  refine lv_bipush (v := 24) hx hb dX10_add_0 (by decide) ?_
  refine lv_istore_n (lv' := [(2, .int 24), (0, .ref tp), (1, .int a0)]) hx hb dX10_add_2 rfl hl (by decide) rfl (fun ls hl => ?_)
  have LP_11 : ∀ (n : Nat) (g_6 : Int32) (g_8 : Int32) (f_10 : Nat → Int32) (b_7 : (-8) ≤ g_6.toInt ∧ g_6.toInt ≤ 24) (b_9 : 0 ≤ g_8.toInt ∧ g_8.toInt ≤ 1400) (H : Heap) (locs : List Loc) (ls : Array Slot), lv_has ls 3 [(2, .int g_6), (0, .ref tp), (1, .int a0)] → va_P G vwCl [(tp, .inr (10, [.ref tb, .int g_8])), (tb, .inl (t 0, 1400, .inl f_10))] H → va_D A [(tp, .inr (10, [.ref tb, .int g_8])), (tb, .inl (t 0, 1400, .inl f_10))] → va_S A s.heap H locs → Int.toNat (g_6.toInt + 8) = n → W p l e ({ frames := 0, cells := 0, slots := 0, locals := 0 }) s m args below meth c H locs 0 0 (MQ below ((QV G (fun (u : (Int32) × (Nat → Int32)) => (0 ≤ u.1.toInt ∧ u.1.toInt ≤ 1400)) (fun (u : (Int32) × (Nat → Int32)) => [(tp, .inr (10, [.ref tb, .int u.1])), (tb, .inl (t 0, 1400, .inl u.2))])) A) args s 0 0 A) (F0 m 3 ls []) := by
    intro n
    induction n using Nat.strongRecOn with
    | ind n ih_3 =>
      intro g_6 g_8 f_10 b_7 b_9 H locs ls hl hP hD hS hmu
      refine lv_iload_n hx hb dX10_add_3 rfl (lv_at hl 0 rfl) ?_
      refine bF_lt (tgt := 46) hx hb dX10_add_4 (by decide) g_6.toInt rfl (fun c_12 => ?_) (fun c_12 => ?_)
      · exact rtV hx hb hr hlocks hS (g_8, f_10) ((show 0 ≤ g_8.toInt ∧ g_8.toInt ≤ 1400 from (by omega))) (hP.sub [0, 1] rfl) (hD.sub [0, 1] (by decide) rfl) dX10_add_46
      · refine lv_aload_n hx hb dX10_add_7 rfl (lv_at hl 1 rfl) ?_
        refine gf hx hb hts hown hK hP 0 inT10 rfl rfl 1 (by decide) tw1_33 rfl dX10_add_8 ?_
        refine lv_sipush (v := 1400) hx hb dX10_add_11 (by decide) ?_
        refine bI_ge (tgt := 46) hx hb dX10_add_14 (by decide) g_8.toInt 1400 rfl rfl (fun c_13 => ?_) (fun c_13 => ?_)
        · exact rtV hx hb hr hlocks hS (g_8, f_10) ((show 0 ≤ g_8.toInt ∧ g_8.toInt ≤ 1400 from (by omega))) (hP.sub [0, 1] rfl) (hD.sub [0, 1] (by decide) rfl) dX10_add_46
        · refine lv_aload_n hx hb dX10_add_17 rfl (lv_at hl 1 rfl) ?_
          refine gf hx hb hts hown hK hP 0 inT10 rfl rfl 0 (by decide) tw1_32 rfl dX10_add_18 ?_
          refine lv_aload_n hx hb dX10_add_21 rfl (lv_at hl 1 rfl) ?_
          refine gf hx hb hts hown hK hP 0 inT10 rfl rfl 1 (by decide) tw1_33 rfl dX10_add_22 ?_
          refine lv_iload_n hx hb dX10_add_25 rfl (lv_at hl 2 rfl) ?_
          refine lv_iload_n hx hb dX10_add_26 rfl (lv_at hl 0 rfl) ?_
          refine lv_ishr hx hb dX10_add_27 (gnI (fun v_14 => ?_))
          refine lv_i2b hx hb dX10_add_28 rfl (gnI (fun v_15 => ?_))
          refine saB hx hb hK hP hD hS 1 rfl g_8.toInt rfl (by omega) dX10_add_29 (fun f_16 ef_16 H locs hP hD hS => ?_)
          have hP : va_P G vwCl [(tp, .inr (10, [.ref tb, .int g_8])), (tb, .inl (t 0, 1400, .inl f_16))] H := hP
          have hD : va_D A [(tp, .inr (10, [.ref tb, .int g_8])), (tb, .inl (t 0, 1400, .inl f_16))] := hD
          refine lv_aload_n hx hb dX10_add_30 rfl (lv_at hl 1 rfl) ?_
          refine lv_dup hx hb dX10_add_31 rfl ?_
          refine gf hx hb hts hown hK hP 0 inT10 rfl rfl 1 (by decide) tw1_33 rfl dX10_add_32 ?_
          refine lv_iconst (v := 1) hx hb dX10_add_35 (by decide) ?_
          first | refine adZ hx hb dX10_add_36 g_8.toInt 1 rfl rfl (by have := zrng g_8; omega) (fun v_17 zv_17 => ?_) | refine lv_iadd hx hb dX10_add_36 (gnI (fun v_17 => ?_))
          refine pf hx hb hts hown hK hP hD hS 0 inT10 tyX10_ok nmX10 rfl rfl 1 (by decide) tw1_33 rfl rfl rfl (Nat.le_of_ble_eq_true rfl) dX10_add_37 (ws' := [(tp, .inr (10, [.ref tb, .int v_17])), (tb, .inl (t 0, 1400, .inl f_16))]) rfl (fun H locs hP hD hS => ?_)
          first | refine incZ hx hb dX10_add_40 hl (k := 0) rfl g_6.toInt rfl (by have := zrng g_6; omega) (by decide) (fun v_18 zv_18 ls hl => ?_) | refine incU hx hb dX10_add_40 hl (k := 0) rfl (by decide) (fun v_18 ls hl => ?_)
          have hl : lv_has ls 3 [(2, .int v_18), (0, .ref tp), (1, .int a0)] := hl
          refine lv_goto (tgt := 3) hx hb dX10_add_43 (by decide) ?_
          exact ih_3 (Int.toNat (v_18.toInt + 8)) (by omega) v_18 v_17 f_16 (by omega) (by omega) _ _ _ (lv_sub hl [0, 1, 2] rfl) (hP.sub [0, 1] rfl) (hD.sub [0, 1] (by decide) rfl) hS rfl
  exact LP_11 (Int.toNat (24 + 8)) 24 tl tf (by have : (24 : Int32).toInt = 24 := rfl; omega) (by omega) _ _ _ (lv_sub hl [0, 1, 2] rfl) (hP.sub [0, 1] rfl) (hD.sub [0, 1] (by decide) rfl) hS rfl

set_option maxHeartbeats 4000000 in
set_option maxRecDepth 100000 in
theorem x_byteAt (l : Launch) (G : va_G) (t : Nat → ClassId) (tp : Nat) (a0 : Int32) (tb : Nat) (tl : Int32) (tf : Nat → Int32) (h_tl : 0 ≤ tl.toInt ∧ tl.toInt ≤ 1400) : Ct l G t yX10_byteAt cX10_byteAt 2 (some .int) ({ frames := 0, cells := 0, slots := 0, locals := 0 }) [.ref tp, .int a0] [(tp, .inr (10, [.ref tb, .int tl])), (tb, .inl (t 0, 1400, .inl tf))] (QI G (fun r (u : Unit) => (r.toInt = -1 ∨ a0.toInt < 1400)) (fun (u : Unit) => [(tp, .inr (10, [.ref tb, .int tl])), (tb, .inl (t 0, 1400, .inl tf))])) := by
  refine ent (by decide) (Nat.le_of_ble_eq_true rfl) ?_
  intro p e s m args below meth c hx hb hr hml hts hown hlocks hin A hA hK hO hP hD hS ls hl
  have hown : s.vm.findClass RX10 = some m.cls := hown
  have hl : lv_has ls 2 [(0, .ref tp), (1, .int a0)] := hl
  have C0 : Cx p s m args c cX10_byteAt 2 RX10 G t := ⟨hx, hb, hml, hown, hts, hK, hO⟩
  have := zrng a0
  refine lv_iload_n hx hb dX10_byteAt_0 rfl (lv_at hl 1 rfl) ?_
  refine bF_lt (tgt := 32) hx hb dX10_byteAt_1 (by decide) a0.toInt rfl (fun c_1 => ?_) (fun c_1 => ?_)
  · refine lv_iconst (v := (-1)) hx hb dX10_byteAt_32 (by decide) ?_
    exact rtI hx hb hr hlocks hS () ((show (-1 : Int32).toInt = -1 ∨ a0.toInt < 1400 from (by have : ((-1) : Int32).toInt = (-1) := rfl; omega))) (hP.sub [0, 1] rfl) (hD.sub [0, 1] (by decide) rfl) dX10_byteAt_33
  · refine lv_iload_n hx hb dX10_byteAt_4 rfl (lv_at hl 1 rfl) ?_
    refine lv_aload_n hx hb dX10_byteAt_5 rfl (lv_at hl 0 rfl) ?_
    refine gf hx hb hts hown hK hP 0 inT10 rfl rfl 1 (by decide) tw1_33 rfl dX10_byteAt_6 ?_
    refine bI_ge (tgt := 32) hx hb dX10_byteAt_9 (by decide) a0.toInt tl.toInt rfl rfl (fun c_2 => ?_) (fun c_2 => ?_)
    · refine lv_iconst (v := (-1)) hx hb dX10_byteAt_32 (by decide) ?_
      exact rtI hx hb hr hlocks hS () ((show (-1 : Int32).toInt = -1 ∨ a0.toInt < 1400 from (by have : ((-1) : Int32).toInt = (-1) := rfl; omega))) (hP.sub [0, 1] rfl) (hD.sub [0, 1] (by decide) rfl) dX10_byteAt_33
    · refine lv_iload_n hx hb dX10_byteAt_12 rfl (lv_at hl 1 rfl) ?_
      refine lv_sipush (v := 1400) hx hb dX10_byteAt_13 (by decide) ?_
      refine bI_ge (tgt := 32) hx hb dX10_byteAt_16 (by decide) a0.toInt 1400 rfl rfl (fun c_3 => ?_) (fun c_3 => ?_)
      · refine lv_iconst (v := (-1)) hx hb dX10_byteAt_32 (by decide) ?_
        exact rtI hx hb hr hlocks hS () ((show (-1 : Int32).toInt = -1 ∨ a0.toInt < 1400 from (by have : ((-1) : Int32).toInt = (-1) := rfl; omega))) (hP.sub [0, 1] rfl) (hD.sub [0, 1] (by decide) rfl) dX10_byteAt_33
      · refine lv_aload_n hx hb dX10_byteAt_19 rfl (lv_at hl 0 rfl) ?_
        refine gf hx hb hts hown hK hP 0 inT10 rfl rfl 0 (by decide) tw1_32 rfl dX10_byteAt_20 ?_
        refine lv_iload_n hx hb dX10_byteAt_23 rfl (lv_at hl 1 rfl) ?_
        refine laB hx hb hK hP 1 rfl a0.toInt rfl (by omega) dX10_byteAt_24 (fun v_4 ev_4 => ?_)
        refine lv_sipush (v := 255) hx hb dX10_byteAt_25 (by decide) ?_
        refine lv_iand hx hb dX10_byteAt_28 (gnI (fun v_5 => ?_))
        refine lv_goto (tgt := 33) hx hb dX10_byteAt_29 (by decide) ?_
        exact rtI hx hb hr hlocks hS () ((show v_5.toInt = -1 ∨ a0.toInt < 1400 from (by omega))) (hP.sub [0, 1] rfl) (hD.sub [0, 1] (by decide) rfl) dX10_byteAt_33

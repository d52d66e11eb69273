set_option maxHeartbeats 4000000 in
set_option maxRecDepth 100000 in
theorem c_isTold (l : Launch) (G : va_G) (t : Nat → ClassId) (xhl : Nat) (ha1 : Nat) (ha2 : Nat) (ha3 : Nat) (ha4 : Nat) (ha5 : Nat) (ha6 : Nat) (ha7 : Nat) (ha8 : Nat) (hc : Nat) : Ct l G t yX5_isTold cX5_isTold 1 (some .boolean) ({ frames := 0, cells := 0, slots := 0, locals := 0 }) [.ref xhl] [(xhl, .inr (5, [.int 0, .int 0, .int 0, .int 0, .int 0, .int 0, .long 0, .ref ha1, .ref ha2, .ref ha3, .ref ha4, .ref ha5, .ref ha6, .ref ha7, .ref ha8, .ref hc]))] (QI G (fun r (u : Unit) => r = 0) (fun (u : Unit) => [(xhl, .inr (5, [.int 0, .int 0, .int 0, .int 0, .int 0, .int 0, .long 0, .ref ha1, .ref ha2, .ref ha3, .ref ha4, .ref ha5, .ref ha6, .ref ha7, .ref ha8, .ref hc]))])) := by
  refine ent (by decide) (Nat.le_of_ble_eq_true rfl) ?_
  intro p e s m args below meth c hx hb hr hml hts hown hlocks hin A hA hK hO hP hD hS ls hl
  have hown : s.vm.findClass RX5 = some m.cls := hown
  have hl : lv_has ls 1 [(0, .ref xhl)] := hl
  have C0 : Cx p s m args c cX5_isTold 1 RX5 G t := ⟨hx, hb, hml, hown, hts, hK, hO⟩
  refine lv_aload_n hx hb dX5_isTold_0 rfl (lv_at hl 0 rfl) ?_
  refine gf hx hb hts hown hK hP 0 inT5 rfl rfl 0 (by decide) tw1_80 rfl dX5_isTold_1 ?_
  refine lv_if_le (tgt := 11) hx hb dX5_isTold_4 (by decide) (fun _ => ?_) (fun c_1 => absurd (by decide) c_1)
  refine lv_iconst (v := 0) hx hb dX5_isTold_11 (by decide) ?_
  refine W.widen (k := 0) (n := 0) (by decide) (by decide) ?_
  exact rtZ hx hb hr hlocks hS rfl () (rfl) (hP.sub [0] rfl) (hD.sub [0] (by decide) rfl) dX5_isTold_12

set_option maxHeartbeats 4000000 in
set_option maxRecDepth 100000 in
theorem c_hasExit (l : Launch) (G : va_G) (t : Nat → ClassId) (xhl : Nat) (ha1 : Nat) (ha2 : Nat) (ha3 : Nat) (ha4 : Nat) (ha5 : Nat) (ha6 : Nat) (ha7 : Nat) (ha8 : Nat) (hc : Nat) (e0 : Int32) : Ct l G t yX5_hasExit cX5_hasExit 2 (some .boolean) ({ frames := 0, cells := 0, slots := 0, locals := 0 }) [.ref xhl, .int e0] [(xhl, .inr (5, [.int 0, .int 0, .int 0, .int 0, .int 0, .int 0, .long 0, .ref ha1, .ref ha2, .ref ha3, .ref ha4, .ref ha5, .ref ha6, .ref ha7, .ref ha8, .ref hc]))] (QI G (fun r (u : Unit) => r = 0) (fun (u : Unit) => [(xhl, .inr (5, [.int 0, .int 0, .int 0, .int 0, .int 0, .int 0, .long 0, .ref ha1, .ref ha2, .ref ha3, .ref ha4, .ref ha5, .ref ha6, .ref ha7, .ref ha8, .ref hc]))])) := by
  refine ent (by decide) (Nat.le_of_ble_eq_true rfl) ?_
  intro p e s m args below meth c hx hb hr hml hts hown hlocks hin A hA hK hO hP hD hS ls hl
  have hown : s.vm.findClass RX5 = some m.cls := hown
  have hl : lv_has ls 2 [(0, .ref xhl), (1, .int e0)] := hl
  have C0 : Cx p s m args c cX5_hasExit 2 RX5 G t := ⟨hx, hb, hml, hown, hts, hK, hO⟩
  refine lv_iload_n hx hb dX5_hasExit_0 rfl (lv_at hl 1 rfl) ?_
  refine lv_if_lt (tgt := 22) hx hb dX5_hasExit_1 (by decide) (fun c_1 => ?_) (fun c_1 => ?_)
  · refine lv_iconst (v := 0) hx hb dX5_hasExit_22 (by decide) ?_
    refine W.widen (k := 0) (n := 0) (by decide) (by decide) ?_
    exact rtZ hx hb hr hlocks hS rfl () (rfl) (hP.sub [0] rfl) (hD.sub [0] (by decide) rfl) dX5_hasExit_23
  · refine lv_iload_n hx hb dX5_hasExit_4 rfl (lv_at hl 1 rfl) ?_
    refine lv_aload_n hx hb dX5_hasExit_5 rfl (lv_at hl 0 rfl) ?_
    refine gf hx hb hts hown hK hP 0 inT5 rfl rfl 5 (by decide) tw1_103 rfl dX5_hasExit_6 ?_
    refine lv_icmp_ge (tgt := 22) hx hb dX5_hasExit_9 (by decide) (fun _ => ?_) (fun c_2 => absurd (Int32.not_lt.mp c_1) c_2)
    refine lv_iconst (v := 0) hx hb dX5_hasExit_22 (by decide) ?_
    refine W.widen (k := 0) (n := 0) (by decide) (by decide) ?_
    exact rtZ hx hb hr hlocks hS rfl () (rfl) (hP.sub [0] rfl) (hD.sub [0] (by decide) rfl) dX5_hasExit_23

set_option maxHeartbeats 4000000 in
set_option maxRecDepth 100000 in
theorem c_hasPlace (l : Launch) (G : va_G) (t : Nat → ClassId) (xhl : Nat) (ha1 : Nat) (ha2 : Nat) (ha3 : Nat) (ha4 : Nat) (ha5 : Nat) (ha6 : Nat) (ha7 : Nat) (ha8 : Nat) (hc : Nat) (e0 : Int32) : Ct l G t yX5_hasPlace cX5_hasPlace 2 (some .boolean) ({ frames := 0, cells := 0, slots := 0, locals := 0 }) [.ref xhl, .int e0] [(xhl, .inr (5, [.int 0, .int 0, .int 0, .int 0, .int 0, .int 0, .long 0, .ref ha1, .ref ha2, .ref ha3, .ref ha4, .ref ha5, .ref ha6, .ref ha7, .ref ha8, .ref hc]))] (QI G (fun r (u : Unit) => r = 0) (fun (u : Unit) => [(xhl, .inr (5, [.int 0, .int 0, .int 0, .int 0, .int 0, .int 0, .long 0, .ref ha1, .ref ha2, .ref ha3, .ref ha4, .ref ha5, .ref ha6, .ref ha7, .ref ha8, .ref hc]))])) := by
  refine ent (by decide) (Nat.le_of_ble_eq_true rfl) ?_
  intro p e s m args below meth c hx hb hr hml hts hown hlocks hin A hA hK hO hP hD hS ls hl
  have hown : s.vm.findClass RX5 = some m.cls := hown
  have hl : lv_has ls 2 [(0, .ref xhl), (1, .int e0)] := hl
  have C0 : Cx p s m args c cX5_hasPlace 2 RX5 G t := ⟨hx, hb, hml, hown, hts, hK, hO⟩
  refine lv_iload_n hx hb dX5_hasPlace_0 rfl (lv_at hl 1 rfl) ?_
  refine lv_if_lt (tgt := 22) hx hb dX5_hasPlace_1 (by decide) (fun c_1 => ?_) (fun c_1 => ?_)
  · refine lv_iconst (v := 0) hx hb dX5_hasPlace_22 (by decide) ?_
    refine W.widen (k := 0) (n := 0) (by decide) (by decide) ?_
    exact rtZ hx hb hr hlocks hS rfl () (rfl) (hP.sub [0] rfl) (hD.sub [0] (by decide) rfl) dX5_hasPlace_23
  · refine lv_iload_n hx hb dX5_hasPlace_4 rfl (lv_at hl 1 rfl) ?_
    refine lv_aload_n hx hb dX5_hasPlace_5 rfl (lv_at hl 0 rfl) ?_
    refine gf hx hb hts hown hK hP 0 inT5 rfl rfl 4 (by decide) tw1_97 rfl dX5_hasPlace_6 ?_
    refine lv_icmp_ge (tgt := 22) hx hb dX5_hasPlace_9 (by decide) (fun _ => ?_) (fun c_2 => absurd (Int32.not_lt.mp c_1) c_2)
    refine lv_iconst (v := 0) hx hb dX5_hasPlace_22 (by decide) ?_
    refine W.widen (k := 0) (n := 0) (by decide) (by decide) ?_
    exact rtZ hx hb hr hlocks hS rfl () (rfl) (hP.sub [0] rfl) (hD.sub [0] (by decide) rfl) dX5_hasPlace_23

set_option maxHeartbeats 4000000 in
set_option maxRecDepth 100000 in
theorem c_hasSeat (l : Launch) (G : va_G) (t : Nat → ClassId) (xhl : Nat) (ha1 : Nat) (ha2 : Nat) (ha3 : Nat) (ha4 : Nat) (ha5 : Nat) (ha6 : Nat) (ha7 : Nat) (ha8 : Nat) (hc : Nat) (r0 : Int32) (s0 : Int32) : Ct l G t yX5_hasSeat cX5_hasSeat 3 (some .boolean) ({ frames := 0, cells := 0, slots := 0, locals := 0 }) [.ref xhl, .int r0, .int s0] [(xhl, .inr (5, [.int 0, .int 0, .int 0, .int 0, .int 0, .int 0, .long 0, .ref ha1, .ref ha2, .ref ha3, .ref ha4, .ref ha5, .ref ha6, .ref ha7, .ref ha8, .ref hc]))] (QI G (fun r (u : Unit) => r = 0) (fun (u : Unit) => [(xhl, .inr (5, [.int 0, .int 0, .int 0, .int 0, .int 0, .int 0, .long 0, .ref ha1, .ref ha2, .ref ha3, .ref ha4, .ref ha5, .ref ha6, .ref ha7, .ref ha8, .ref hc]))])) := by
  refine ent (by decide) (Nat.le_of_ble_eq_true rfl) ?_
  intro p e s m args below meth c hx hb hr hml hts hown hlocks hin A hA hK hO hP hD hS ls hl
  have hown : s.vm.findClass RX5 = some m.cls := hown
  have hl : lv_has ls 3 [(0, .ref xhl), (1, .int r0), (2, .int s0)] := hl
  have C0 : Cx p s m args c cX5_hasSeat 3 RX5 G t := ⟨hx, hb, hml, hown, hts, hK, hO⟩
  refine lv_iload_n hx hb dX5_hasSeat_0 rfl (lv_at hl 1 rfl) ?_
  refine lv_if_lt (tgt := 28) hx hb dX5_hasSeat_1 (by decide) (fun c_1 => ?_) (fun c_1 => ?_)
  · refine lv_iconst (v := 0) hx hb dX5_hasSeat_28 (by decide) ?_
    refine W.widen (k := 0) (n := 0) (by decide) (by decide) ?_
    exact rtZ hx hb hr hlocks hS rfl () (rfl) (hP.sub [0] rfl) (hD.sub [0] (by decide) rfl) dX5_hasSeat_29
  · refine lv_iload_n hx hb dX5_hasSeat_4 rfl (lv_at hl 1 rfl) ?_
    refine lv_aload_n hx hb dX5_hasSeat_5 rfl (lv_at hl 0 rfl) ?_
    refine gf hx hb hts hown hK hP 0 inT5 rfl rfl 1 (by decide) tw1_83 rfl dX5_hasSeat_6 ?_
    refine lv_icmp_ge (tgt := 28) hx hb dX5_hasSeat_9 (by decide) (fun _ => ?_) (fun c_2 => absurd (Int32.not_lt.mp c_1) c_2)
    refine lv_iconst (v := 0) hx hb dX5_hasSeat_28 (by decide) ?_
    refine W.widen (k := 0) (n := 0) (by decide) (by decide) ?_
    exact rtZ hx hb hr hlocks hS rfl () (rfl) (hP.sub [0] rfl) (hD.sub [0] (by decide) rfl) dX5_hasSeat_29

set_option maxHeartbeats 4000000 in
set_option maxRecDepth 100000 in
theorem c_isAct (l : Launch) (G : va_G) (t : Nat → ClassId) (n0 : Int32) : Ct l G t yX11_isAct cX11_isAct 1 (some .boolean) ({ frames := 0, cells := 0, slots := 0, locals := 0 }) [.int n0] [] (QI G (fun r (u : Unit) => (r = 0 ∧ True) ∨ (r = 1 ∧ True)) (fun (u : Unit) => [])) := by
  refine ent (by decide) (Nat.le_of_ble_eq_true rfl) ?_
  intro p e s m args below meth c hx hb hr hml hts hown hlocks hin A hA hK hO hP hD hS ls hl
  have hown : s.vm.findClass RX11 = some m.cls := hown
  have hl : lv_has ls 1 [(0, .int n0)] := hl
  have C0 : Cx p s m args c cX11_isAct 1 RX11 G t := ⟨hx, hb, hml, hown, hts, hK, hO⟩
  refine lv_iload_n hx hb dX11_isAct_0 rfl (lv_at hl 0 rfl) ?_
  refine lv_if_lt (tgt := 14) hx hb dX11_isAct_1 (by decide) (fun c_1 => ?_) (fun c_1 => ?_)
  · refine lv_iconst (v := 0) hx hb dX11_isAct_14 (by decide) ?_
    refine W.widen (k := 0) (n := 0) (by decide) (by decide) ?_
    exact rtZ hx hb hr hlocks hS rfl () (by first | exact Or.inl ⟨rfl, by simp_all⟩) (hP.sub [] rfl) (hD.sub [] (by decide) rfl) dX11_isAct_15
  · refine lv_iload_n hx hb dX11_isAct_4 rfl (lv_at hl 0 rfl) ?_
    refine lv_bipush (v := 60) hx hb dX11_isAct_5 (by decide) ?_
    refine lv_icmp_ge (tgt := 14) hx hb dX11_isAct_7 (by decide) (fun c_2 => ?_) (fun c_2 => ?_)
    · refine lv_iconst (v := 0) hx hb dX11_isAct_14 (by decide) ?_
      refine W.widen (k := 0) (n := 0) (by decide) (by decide) ?_
      exact rtZ hx hb hr hlocks hS rfl () (by first | exact Or.inl ⟨rfl, by simp_all⟩) (hP.sub [] rfl) (hD.sub [] (by decide) rfl) dX11_isAct_15
    · refine lv_iconst (v := 1) hx hb dX11_isAct_10 (by decide) ?_
      refine lv_goto (tgt := 15) hx hb dX11_isAct_11 (by decide) ?_
      refine W.widen (k := 0) (n := 0) (by decide) (by decide) ?_
      exact rtZ hx hb hr hlocks hS rfl () (by first | exact Or.inr (⟨rfl, by simp_all⟩)) (hP.sub [] rfl) (hD.sub [] (by decide) rfl) dX11_isAct_15

set_option maxHeartbeats 4000000 in
set_option maxRecDepth 100000 in
theorem c_isCountOfActs (l : Launch) (G : va_G) (t : Nat → ClassId) (n0 : Int32) : Ct l G t yX11_isCountOfActs cX11_isCountOfActs 1 (some .boolean) ({ frames := 0, cells := 0, slots := 0, locals := 0 }) [.int n0] [] (QI G (fun r (u : Unit) => (r = 0 ∧ True) ∨ (r = 1 ∧ True)) (fun (u : Unit) => [])) := by
  refine ent (by decide) (Nat.le_of_ble_eq_true rfl) ?_
  intro p e s m args below meth c hx hb hr hml hts hown hlocks hin A hA hK hO hP hD hS ls hl
  have hown : s.vm.findClass RX11 = some m.cls := hown
  have hl : lv_has ls 1 [(0, .int n0)] := hl
  have C0 : Cx p s m args c cX11_isCountOfActs 1 RX11 G t := ⟨hx, hb, hml, hown, hts, hK, hO⟩
  refine lv_iload_n hx hb dX11_isCountOfActs_0 rfl (lv_at hl 0 rfl) ?_
  refine lv_iconst (v := 1) hx hb dX11_isCountOfActs_1 (by decide) ?_
  refine lv_icmp_lt (tgt := 15) hx hb dX11_isCountOfActs_2 (by decide) (fun c_1 => ?_) (fun c_1 => ?_)
  · refine lv_iconst (v := 0) hx hb dX11_isCountOfActs_15 (by decide) ?_
    refine W.widen (k := 0) (n := 0) (by decide) (by decide) ?_
    exact rtZ hx hb hr hlocks hS rfl () (by first | exact Or.inl ⟨rfl, by simp_all⟩) (hP.sub [] rfl) (hD.sub [] (by decide) rfl) dX11_isCountOfActs_16
  · refine lv_iload_n hx hb dX11_isCountOfActs_5 rfl (lv_at hl 0 rfl) ?_
    refine lv_bipush (v := 60) hx hb dX11_isCountOfActs_6 (by decide) ?_
    refine lv_icmp_gt (tgt := 15) hx hb dX11_isCountOfActs_8 (by decide) (fun c_2 => ?_) (fun c_2 => ?_)
    · refine lv_iconst (v := 0) hx hb dX11_isCountOfActs_15 (by decide) ?_
      refine W.widen (k := 0) (n := 0) (by decide) (by decide) ?_
      exact rtZ hx hb hr hlocks hS rfl () (by first | exact Or.inl ⟨rfl, by simp_all⟩) (hP.sub [] rfl) (hD.sub [] (by decide) rfl) dX11_isCountOfActs_16
    · refine lv_iconst (v := 1) hx hb dX11_isCountOfActs_11 (by decide) ?_
      refine lv_goto (tgt := 16) hx hb dX11_isCountOfActs_12 (by decide) ?_
      refine W.widen (k := 0) (n := 0) (by decide) (by decide) ?_
      exact rtZ hx hb hr hlocks hS rfl () (by first | exact Or.inr (⟨rfl, by simp_all⟩)) (hP.sub [] rfl) (hD.sub [] (by decide) rfl) dX11_isCountOfActs_16

set_option maxHeartbeats 4000000 in
set_option maxRecDepth 100000 in
theorem c_isSlot (l : Launch) (G : va_G) (t : Nat → ClassId) (n0 : Int32) : Ct l G t yX11_isSlot cX11_isSlot 1 (some .boolean) ({ frames := 0, cells := 0, slots := 0, locals := 0 }) [.int n0] [] (QI G (fun r (u : Unit) => (r = 1 ∧ 0 ≤ n0.toInt ∧ n0.toInt ≤ 3) ∨ (r = 0 ∧ ¬ (0 ≤ n0.toInt ∧ n0.toInt ≤ 3))) (fun (u : Unit) => [])) := by
  refine ent (by decide) (Nat.le_of_ble_eq_true rfl) ?_
  intro p e s m args below meth c hx hb hr hml hts hown hlocks hin A hA hK hO hP hD hS ls hl
  have hown : s.vm.findClass RX11 = some m.cls := hown
  have hl : lv_has ls 1 [(0, .int n0)] := hl
  have C0 : Cx p s m args c cX11_isSlot 1 RX11 G t := ⟨hx, hb, hml, hown, hts, hK, hO⟩
  refine lv_iload_n hx hb dX11_isSlot_0 rfl (lv_at hl 0 rfl) ?_
  refine lv_if_lt (tgt := 13) hx hb dX11_isSlot_1 (by decide) (fun c_1 => ?_) (fun c_1 => ?_)
  · refine lv_iconst (v := 0) hx hb dX11_isSlot_13 (by decide) ?_
    refine W.widen (k := 0) (n := 0) (by decide) (by decide) ?_
    exact rtZ hx hb hr hlocks hS rfl () (by first | exact Or.inr (⟨rfl, by (try simp only [zlt, zle, zeq, zle64, z64, z0, z1, z2, z3, z4, z5, z6, z7, z8, z9, z60, zm1, y0, y2, y3, y4, ym1] at c_1); (try simp only [zlt, zle, zeq, zle64, z64, z0, z1, z2, z3, z4, z5, z6, z7, z8, z9, z60, zm1, y0, y2, y3, y4, ym1]) <;> omega⟩)) (hP.sub [] rfl) (hD.sub [] (by decide) rfl) dX11_isSlot_14
  · refine lv_iload_n hx hb dX11_isSlot_4 rfl (lv_at hl 0 rfl) ?_
    refine lv_iconst (v := 4) hx hb dX11_isSlot_5 (by decide) ?_
    refine lv_icmp_ge (tgt := 13) hx hb dX11_isSlot_6 (by decide) (fun c_2 => ?_) (fun c_2 => ?_)
    · refine lv_iconst (v := 0) hx hb dX11_isSlot_13 (by decide) ?_
      refine W.widen (k := 0) (n := 0) (by decide) (by decide) ?_
      exact rtZ hx hb hr hlocks hS rfl () (by first | exact Or.inr (⟨rfl, by (try simp only [zlt, zle, zeq, zle64, z64, z0, z1, z2, z3, z4, z5, z6, z7, z8, z9, z60, zm1, y0, y2, y3, y4, ym1] at c_1); (try simp only [zlt, zle, zeq, zle64, z64, z0, z1, z2, z3, z4, z5, z6, z7, z8, z9, z60, zm1, y0, y2, y3, y4, ym1] at c_2); (try simp only [zlt, zle, zeq, zle64, z64, z0, z1, z2, z3, z4, z5, z6, z7, z8, z9, z60, zm1, y0, y2, y3, y4, ym1]) <;> omega⟩)) (hP.sub [] rfl) (hD.sub [] (by decide) rfl) dX11_isSlot_14
    · refine lv_iconst (v := 1) hx hb dX11_isSlot_9 (by decide) ?_
      refine lv_goto (tgt := 14) hx hb dX11_isSlot_10 (by decide) ?_
      refine W.widen (k := 0) (n := 0) (by decide) (by decide) ?_
      exact rtZ hx hb hr hlocks hS rfl () (by first | exact Or.inl ⟨rfl, by (try simp only [zlt, zle, zeq, zle64, z64, z0, z1, z2, z3, z4, z5, z6, z7, z8, z9, z60, zm1, y0, y2, y3, y4, ym1] at c_1); (try simp only [zlt, zle, zeq, zle64, z64, z0, z1, z2, z3, z4, z5, z6, z7, z8, z9, z60, zm1, y0, y2, y3, y4, ym1] at c_2); (try simp only [zlt, zle, zeq, zle64, z64, z0, z1, z2, z3, z4, z5, z6, z7, z8, z9, z60, zm1, y0, y2, y3, y4, ym1]) <;> omega⟩) (hP.sub [] rfl) (hD.sub [] (by decide) rfl) dX11_isSlot_14

set_option maxHeartbeats 4000000 in
set_option maxRecDepth 100000 in
theorem c_canDraw (l : Launch) (G : va_G) (t : Nat → ClassId) (x : Nat) (tp : Nat) (rd : Nat) (im : Nat) (mk : Nat) (sl : Nat) (ac : Nat) (cl : Nat) (xhb : Nat) (rs : Nat) (sd : Nat) (cr : Nat) (xhl : Nat) (df : Nat) (ha1 : Nat) (ha2 : Nat) (ha3 : Nat) (ha4 : Nat) (ha5 : Nat) (ha6 : Nat) (ha7 : Nat) (ha8 : Nat) (hc : Nat) (a0 : Int32) (b0 : Int32) : Ct l G t yX11_canDraw cX11_canDraw 3 (some .boolean) ({ frames := 1, cells := 0, slots := 0, locals := 20 }) [.ref x, .int a0, .int b0] [(x, .inr (11, [.ref tp, .ref rd, .ref im, .ref mk, .ref sl, .ref ac, .ref cl, .ref xhb, .ref rs, .ref sd, .ref cr, .ref xhl, .ref df])), (xhl, .inr (5, [.int 0, .int 0, .int 0, .int 0, .int 0, .int 0, .long 0, .ref ha1, .ref ha2, .ref ha3, .ref ha4, .ref ha5, .ref ha6, .ref ha7, .ref ha8, .ref hc]))] (QI G (fun r (u : Unit) => r = 0) (fun (u : Unit) => [(x, .inr (11, [.ref tp, .ref rd, .ref im, .ref mk, .ref sl, .ref ac, .ref cl, .ref xhb, .ref rs, .ref sd, .ref cr, .ref xhl, .ref df])), (xhl, .inr (5, [.int 0, .int 0, .int 0, .int 0, .int 0, .int 0, .long 0, .ref ha1, .ref ha2, .ref ha3, .ref ha4, .ref ha5, .ref ha6, .ref ha7, .ref ha8, .ref hc]))])) := by
  refine ent (by decide) (Nat.le_of_ble_eq_true rfl) ?_
  intro p e s m args below meth c hx hb hr hml hts hown hlocks hin A hA hK hO hP hD hS ls hl
  have hown : s.vm.findClass RX11 = some m.cls := hown
  have hl : lv_has ls 3 [(0, .ref x), (1, .int a0), (2, .int b0)] := hl
  have C0 : Cx p s m args c cX11_canDraw 3 RX11 G t := ⟨hx, hb, hml, hown, hts, hK, hO⟩
  refine lv_iload_n hx hb dX11_canDraw_0 rfl (lv_at hl 1 rfl) ?_
  refine lv_if_lt (tgt := 32) hx hb dX11_canDraw_1 (by decide) (fun c_1 => ?_) (fun c_1 => ?_)
  · refine lv_iconst (v := 0) hx hb dX11_canDraw_32 (by decide) ?_
    refine W.widen (k := 0) (n := 0) (by decide) (by decide) ?_
    exact rtZ hx hb hr hlocks hS rfl () (rfl) (hP.sub [0, 1] rfl) (hD.sub [0, 1] (by decide) rfl) dX11_canDraw_33
  · refine lv_iload_n hx hb dX11_canDraw_4 rfl (lv_at hl 1 rfl) ?_
    refine lv_ldcw hx hb hown (hts _ tw5_136) dX11_canDraw_5 ?_
    refine lv_icmp_gt (tgt := 32) hx hb dX11_canDraw_8 (by decide) (fun c_2 => ?_) (fun c_2 => ?_)
    · refine lv_iconst (v := 0) hx hb dX11_canDraw_32 (by decide) ?_
      refine W.widen (k := 0) (n := 0) (by decide) (by decide) ?_
      exact rtZ hx hb hr hlocks hS rfl () (rfl) (hP.sub [0, 1] rfl) (hD.sub [0, 1] (by decide) rfl) dX11_canDraw_33
    · refine lv_iload_n hx hb dX11_canDraw_11 rfl (lv_at hl 2 rfl) ?_
      refine goI (rnS C0 (c_isAct l G t b0) lkX11_167 ⟨by decide, by decide⟩ (hP.sub (ws' := []) [] rfl) (hD.sub (ws' := []) [] (by decide) rfl) rfl hl.1 (rest := []) rfl (Nat.le_of_ble_eq_true rfl) dX11_canDraw_12 ⟨by decide, by decide⟩) hP hD hS hA [] [0, 1] (wr := [(x, .inr (11, [.ref tp, .ref rd, .ref im, .ref mk, .ref sl, .ref ac, .ref cl, .ref xhb, .ref rs, .ref sd, .ref cr, .ref xhl, .ref df])), (xhl, .inr (5, [.int 0, .int 0, .int 0, .int 0, .int 0, .int 0, .long 0, .ref ha1, .ref ha2, .ref ha3, .ref ha4, .ref ha5, .ref ha6, .ref ha7, .ref ha8, .ref hc]))]) rfl rfl (by decide) (by decide) (fun r_3 u H locs h_4 hP hD hS => ?_)
      have hP : va_P G vwCl [(x, .inr (11, [.ref tp, .ref rd, .ref im, .ref mk, .ref sl, .ref ac, .ref cl, .ref xhb, .ref rs, .ref sd, .ref cr, .ref xhl, .ref df])), (xhl, .inr (5, [.int 0, .int 0, .int 0, .int 0, .int 0, .int 0, .long 0, .ref ha1, .ref ha2, .ref ha3, .ref ha4, .ref ha5, .ref ha6, .ref ha7, .ref ha8, .ref hc]))] H := hP
      have hD : va_D A [(x, .inr (11, [.ref tp, .ref rd, .ref im, .ref mk, .ref sl, .ref ac, .ref cl, .ref xhb, .ref rs, .ref sd, .ref cr, .ref xhl, .ref df])), (xhl, .inr (5, [.int 0, .int 0, .int 0, .int 0, .int 0, .int 0, .long 0, .ref ha1, .ref ha2, .ref ha3, .ref ha4, .ref ha5, .ref ha6, .ref ha7, .ref ha8, .ref hc]))] := hD
      refine W.widen (k := 0) (n := 0) (Nat.le_of_ble_eq_true rfl) (Nat.le_of_ble_eq_true rfl) ?_
      have h_4 : (r_3 = 0 ∧ True) ∨ (r_3 = 1 ∧ True) := h_4
      rcases h_4 with ⟨rfl, f_5⟩ | ⟨rfl, f_5⟩
      · refine lv_if_eq (tgt := 32) hx hb dX11_canDraw_15 (by decide) (fun _ => ?_) (fun c_6 => absurd (by decide) c_6)
        refine lv_iconst (v := 0) hx hb dX11_canDraw_32 (by decide) ?_
        refine W.widen (k := 0) (n := 0) (by decide) (by decide) ?_
        exact rtZ hx hb hr hlocks hS rfl () (rfl) (hP.sub [0, 1] rfl) (hD.sub [0, 1] (by decide) rfl) dX11_canDraw_33
      · refine lv_if_eq (tgt := 32) hx hb dX11_canDraw_15 (by decide) (fun c_7 => absurd c_7 (by decide)) (fun _ => ?_)
        refine lv_aload_n hx hb dX11_canDraw_18 rfl (lv_at hl 0 rfl) ?_
        refine gf hx hb hts hown hK hP 0 inT11 rfl rfl 11 (by decide) tw2_138 rfl dX11_canDraw_19 ?_
        refine gf hx hb hts hown hK hP 1 inT5 rfl rfl 5 (by decide) tw1_108 rfl dX11_canDraw_22 ?_
        refine lv_if_le (tgt := 32) hx hb dX11_canDraw_25 (by decide) (fun _ => ?_) (fun c_8 => absurd (by decide) c_8)
        refine lv_iconst (v := 0) hx hb dX11_canDraw_32 (by decide) ?_
        refine W.widen (k := 0) (n := 0) (by decide) (by decide) ?_
        exact rtZ hx hb hr hlocks hS rfl () (rfl) (hP.sub [0, 1] rfl) (hD.sub [0, 1] (by decide) rfl) dX11_canDraw_33

set_option maxHeartbeats 4000000 in
set_option maxRecDepth 100000 in
theorem c_refusalOfRow (l : Launch) (G : va_G) (t : Nat → ClassId) (x : Nat) (tp : Nat) (rd : Nat) (im : Nat) (mk : Nat) (sl : Nat) (ac : Nat) (cl : Nat) (xhb : Nat) (rs : Nat) (sd : Nat) (cr : Nat) (xhl : Nat) (df : Nat) (ha1 : Nat) (ha2 : Nat) (ha3 : Nat) (ha4 : Nat) (ha5 : Nat) (ha6 : Nat) (ha7 : Nat) (ha8 : Nat) (hc : Nat) (a0 : Int32) (b0 : Int32) : Ct l G t yX11_refusalOfRow cX11_refusalOfRow 3 (some .int) ({ frames := 1, cells := 0, slots := 0, locals := 20 }) [.ref x, .int a0, .int b0] [(x, .inr (11, [.ref tp, .ref rd, .ref im, .ref mk, .ref sl, .ref ac, .ref cl, .ref xhb, .ref rs, .ref sd, .ref cr, .ref xhl, .ref df])), (xhl, .inr (5, [.int 0, .int 0, .int 0, .int 0, .int 0, .int 0, .long 0, .ref ha1, .ref ha2, .ref ha3, .ref ha4, .ref ha5, .ref ha6, .ref ha7, .ref ha8, .ref hc]))] (QI G (fun r (u : Unit) => r = (-2)) (fun (u : Unit) => [(x, .inr (11, [.ref tp, .ref rd, .ref im, .ref mk, .ref sl, .ref ac, .ref cl, .ref xhb, .ref rs, .ref sd, .ref cr, .ref xhl, .ref df])), (xhl, .inr (5, [.int 0, .int 0, .int 0, .int 0, .int 0, .int 0, .long 0, .ref ha1, .ref ha2, .ref ha3, .ref ha4, .ref ha5, .ref ha6, .ref ha7, .ref ha8, .ref hc]))])) := by
  refine ent (by decide) (Nat.le_of_ble_eq_true rfl) ?_
  intro p e s m args below meth c hx hb hr hml hts hown hlocks hin A hA hK hO hP hD hS ls hl
  have hown : s.vm.findClass RX11 = some m.cls := hown
  have hl : lv_has ls 3 [(0, .ref x), (1, .int a0), (2, .int b0)] := hl
  have C0 : Cx p s m args c cX11_refusalOfRow 3 RX11 G t := ⟨hx, hb, hml, hown, hts, hK, hO⟩
  refine lv_iload_n hx hb dX11_refusalOfRow_0 rfl (lv_at hl 1 rfl) ?_
  refine goI (rnS C0 (c_isSlot l G t a0) lkX11_351 ⟨by decide, by decide⟩ (hP.sub (ws' := []) [] rfl) (hD.sub (ws' := []) [] (by decide) rfl) rfl hl.1 (rest := []) rfl (Nat.le_of_ble_eq_true rfl) dX11_refusalOfRow_1 ⟨by decide, by decide⟩) hP hD hS hA [] [0, 1] (wr := [(x, .inr (11, [.ref tp, .ref rd, .ref im, .ref mk, .ref sl, .ref ac, .ref cl, .ref xhb, .ref rs, .ref sd, .ref cr, .ref xhl, .ref df])), (xhl, .inr (5, [.int 0, .int 0, .int 0, .int 0, .int 0, .int 0, .long 0, .ref ha1, .ref ha2, .ref ha3, .ref ha4, .ref ha5, .ref ha6, .ref ha7, .ref ha8, .ref hc]))]) rfl rfl (by decide) (by decide) (fun r_1 u H locs h_2 hP hD hS => ?_)
  have hP : va_P G vwCl [(x, .inr (11, [.ref tp, .ref rd, .ref im, .ref mk, .ref sl, .ref ac, .ref cl, .ref xhb, .ref rs, .ref sd, .ref cr, .ref xhl, .ref df])), (xhl, .inr (5, [.int 0, .int 0, .int 0, .int 0, .int 0, .int 0, .long 0, .ref ha1, .ref ha2, .ref ha3, .ref ha4, .ref ha5, .ref ha6, .ref ha7, .ref ha8, .ref hc]))] H := hP
  have hD : va_D A [(x, .inr (11, [.ref tp, .ref rd, .ref im, .ref mk, .ref sl, .ref ac, .ref cl, .ref xhb, .ref rs, .ref sd, .ref cr, .ref xhl, .ref df])), (xhl, .inr (5, [.int 0, .int 0, .int 0, .int 0, .int 0, .int 0, .long 0, .ref ha1, .ref ha2, .ref ha3, .ref ha4, .ref ha5, .ref ha6, .ref ha7, .ref ha8, .ref hc]))] := hD
  refine W.widen (k := 0) (n := 0) (Nat.le_of_ble_eq_true rfl) (Nat.le_of_ble_eq_true rfl) ?_
  have h_2 : (r_1 = 1 ∧ 0 ≤ a0.toInt ∧ a0.toInt ≤ 3) ∨ (r_1 = 0 ∧ ¬ (0 ≤ a0.toInt ∧ a0.toInt ≤ 3)) := h_2
  rcases h_2 with ⟨rfl, f_3⟩ | ⟨rfl, f_3⟩
  · refine lv_if_eq (tgt := 22) hx hb dX11_refusalOfRow_4 (by decide) (fun c_4 => absurd c_4 (by decide)) (fun _ => ?_)
    refine lv_aload_n hx hb dX11_refusalOfRow_7 rfl (lv_at hl 0 rfl) ?_
    refine gf hx hb hts hown hK hP 0 inT11 rfl rfl 11 (by decide) tw2_138 rfl dX11_refusalOfRow_8 ?_
    refine goI (rnV C0 (c_isTold l G t xhl ha1 ha2 ha3 ha4 ha5 ha6 ha7 ha8 hc) lkX11_179 ⟨by decide, by decide⟩ (hP.sub (ws' := [(xhl, .inr (5, [.int 0, .int 0, .int 0, .int 0, .int 0, .int 0, .long 0, .ref ha1, .ref ha2, .ref ha3, .ref ha4, .ref ha5, .ref ha6, .ref ha7, .ref ha8, .ref hc]))]) [1] rfl) (hD.sub (ws' := [(xhl, .inr (5, [.int 0, .int 0, .int 0, .int 0, .int 0, .int 0, .long 0, .ref ha1, .ref ha2, .ref ha3, .ref ha4, .ref ha5, .ref ha6, .ref ha7, .ref ha8, .ref hc]))]) [1] (by decide) rfl) 0 5 rfl rfl rfl rfl hl.1 (rest := []) rfl (Nat.le_of_ble_eq_true rfl) dX11_refusalOfRow_11 ⟨by decide, by decide⟩) hP hD hS hA [1] [0] (wr := [(x, .inr (11, [.ref tp, .ref rd, .ref im, .ref mk, .ref sl, .ref ac, .ref cl, .ref xhb, .ref rs, .ref sd, .ref cr, .ref xhl, .ref df]))]) rfl rfl (by decide) (by decide) (fun r_5 u H locs h_6 hP hD hS => ?_)
    have hP : va_P G vwCl [(x, .inr (11, [.ref tp, .ref rd, .ref im, .ref mk, .ref sl, .ref ac, .ref cl, .ref xhb, .ref rs, .ref sd, .ref cr, .ref xhl, .ref df])), (xhl, .inr (5, [.int 0, .int 0, .int 0, .int 0, .int 0, .int 0, .long 0, .ref ha1, .ref ha2, .ref ha3, .ref ha4, .ref ha5, .ref ha6, .ref ha7, .ref ha8, .ref hc]))] H := hP
    have hD : va_D A [(x, .inr (11, [.ref tp, .ref rd, .ref im, .ref mk, .ref sl, .ref ac, .ref cl, .ref xhb, .ref rs, .ref sd, .ref cr, .ref xhl, .ref df])), (xhl, .inr (5, [.int 0, .int 0, .int 0, .int 0, .int 0, .int 0, .long 0, .ref ha1, .ref ha2, .ref ha3, .ref ha4, .ref ha5, .ref ha6, .ref ha7, .ref ha8, .ref hc]))] := hD
    refine W.widen (k := 0) (n := 0) (Nat.le_of_ble_eq_true rfl) (Nat.le_of_ble_eq_true rfl) ?_
    obtain rfl : r_5 = 0 := h_6
    refine lv_if_eq (tgt := 22) hx hb dX11_refusalOfRow_14 (by decide) (fun _ => ?_) (fun c_7 => absurd (by decide) c_7)
    refine lv_bipush (v := (-2)) hx hb dX11_refusalOfRow_22 (by decide) ?_
    refine W.widen (k := 0) (n := 0) (by decide) (by decide) ?_
    exact rtI hx hb hr hlocks hS () (rfl) (hP.sub [0, 1] rfl) (hD.sub [0, 1] (by decide) rfl) dX11_refusalOfRow_24
  · refine lv_if_eq (tgt := 22) hx hb dX11_refusalOfRow_4 (by decide) (fun _ => ?_) (fun c_8 => absurd (by decide) c_8)
    refine lv_bipush (v := (-2)) hx hb dX11_refusalOfRow_22 (by decide) ?_
    refine W.widen (k := 0) (n := 0) (by decide) (by decide) ?_
    exact rtI hx hb hr hlocks hS () (rfl) (hP.sub [0, 1] rfl) (hD.sub [0, 1] (by decide) rfl) dX11_refusalOfRow_24

set_option maxHeartbeats 4000000 in
set_option maxRecDepth 100000 in
theorem c_refusalOfSeen (l : Launch) (G : va_G) (t : Nat → ClassId) (x : Nat) (tp : Nat) (rd : Nat) (im : Nat) (mk : Nat) (sl : Nat) (ac : Nat) (cl : Nat) (xhb : Nat) (rs : Nat) (sd : Nat) (cr : Nat) (xhl : Nat) (df : Nat) (ha1 : Nat) (ha2 : Nat) (ha3 : Nat) (ha4 : Nat) (ha5 : Nat) (ha6 : Nat) (ha7 : Nat) (ha8 : Nat) (hc : Nat) (a0 : Int32) : Ct l G t yX11_refusalOfSeen cX11_refusalOfSeen 3 (some .int) ({ frames := 2, cells := 0, slots := 0, locals := 42 }) [.ref x, .int a0] [(x, .inr (11, [.ref tp, .ref rd, .ref im, .ref mk, .ref sl, .ref ac, .ref cl, .ref xhb, .ref rs, .ref sd, .ref cr, .ref xhl, .ref df])), (xhl, .inr (5, [.int 0, .int 0, .int 0, .int 0, .int 0, .int 0, .long 0, .ref ha1, .ref ha2, .ref ha3, .ref ha4, .ref ha5, .ref ha6, .ref ha7, .ref ha8, .ref hc]))] (QI G (fun r (u : Unit) => r = (-2)) (fun (u : Unit) => [(x, .inr (11, [.ref tp, .ref rd, .ref im, .ref mk, .ref sl, .ref ac, .ref cl, .ref xhb, .ref rs, .ref sd, .ref cr, .ref xhl, .ref df])), (xhl, .inr (5, [.int 0, .int 0, .int 0, .int 0, .int 0, .int 0, .long 0, .ref ha1, .ref ha2, .ref ha3, .ref ha4, .ref ha5, .ref ha6, .ref ha7, .ref ha8, .ref hc]))])) := by
  refine ent (by decide) (Nat.le_of_ble_eq_true rfl) ?_
  intro p e s m args below meth c hx hb hr hml hts hown hlocks hin A hA hK hO hP hD hS ls hl
  have hown : s.vm.findClass RX11 = some m.cls := hown
  have hl : lv_has ls 3 [(0, .ref x), (1, .int a0)] := hl
  have C0 : Cx p s m args c cX11_refusalOfSeen 3 RX11 G t := ⟨hx, hb, hml, hown, hts, hK, hO⟩
  refine lv_aload_n hx hb dX11_refusalOfSeen_0 rfl (lv_at hl 0 rfl) ?_
  refine lv_iload_n hx hb dX11_refusalOfSeen_1 rfl (lv_at hl 1 rfl) ?_
  refine lv_iconst (v := 2) hx hb dX11_refusalOfSeen_2 (by decide) ?_
  refine goI (rnV C0 (c_refusalOfRow l G t x tp rd im mk sl ac cl xhb rs sd cr xhl df ha1 ha2 ha3 ha4 ha5 ha6 ha7 ha8 hc a0 2) lkX11_383 ⟨by decide, by decide⟩ (hP.sub (ws' := [(x, .inr (11, [.ref tp, .ref rd, .ref im, .ref mk, .ref sl, .ref ac, .ref cl, .ref xhb, .ref rs, .ref sd, .ref cr, .ref xhl, .ref df])), (xhl, .inr (5, [.int 0, .int 0, .int 0, .int 0, .int 0, .int 0, .long 0, .ref ha1, .ref ha2, .ref ha3, .ref ha4, .ref ha5, .ref ha6, .ref ha7, .ref ha8, .ref hc]))]) [0, 1] rfl) (hD.sub (ws' := [(x, .inr (11, [.ref tp, .ref rd, .ref im, .ref mk, .ref sl, .ref ac, .ref cl, .ref xhb, .ref rs, .ref sd, .ref cr, .ref xhl, .ref df])), (xhl, .inr (5, [.int 0, .int 0, .int 0, .int 0, .int 0, .int 0, .long 0, .ref ha1, .ref ha2, .ref ha3, .ref ha4, .ref ha5, .ref ha6, .ref ha7, .ref ha8, .ref hc]))]) [0, 1] (by decide) rfl) 0 11 rfl rfl rfl rfl hl.1 (rest := []) rfl (Nat.le_of_ble_eq_true rfl) dX11_refusalOfSeen_3 ⟨by decide, by decide⟩) hP hD hS hA [0, 1] [] (wr := []) rfl rfl (by decide) (by decide) (fun r_1 u H locs h_2 hP hD hS => ?_)
  have hP : va_P G vwCl [(x, .inr (11, [.ref tp, .ref rd, .ref im, .ref mk, .ref sl, .ref ac, .ref cl, .ref xhb, .ref rs, .ref sd, .ref cr, .ref xhl, .ref df])), (xhl, .inr (5, [.int 0, .int 0, .int 0, .int 0, .int 0, .int 0, .long 0, .ref ha1, .ref ha2, .ref ha3, .ref ha4, .ref ha5, .ref ha6, .ref ha7, .ref ha8, .ref hc]))] H := hP
  have hD : va_D A [(x, .inr (11, [.ref tp, .ref rd, .ref im, .ref mk, .ref sl, .ref ac, .ref cl, .ref xhb, .ref rs, .ref sd, .ref cr, .ref xhl, .ref df])), (xhl, .inr (5, [.int 0, .int 0, .int 0, .int 0, .int 0, .int 0, .long 0, .ref ha1, .ref ha2, .ref ha3, .ref ha4, .ref ha5, .ref ha6, .ref ha7, .ref ha8, .ref hc]))] := hD
  refine W.widen (k := 0) (n := 0) (Nat.le_of_ble_eq_true rfl) (Nat.le_of_ble_eq_true rfl) ?_
  obtain rfl : r_1 = (-2) := h_2
  refine lv_istore_n (lv' := [(2, .int (-2)), (0, .ref x), (1, .int a0)]) hx hb dX11_refusalOfSeen_6 rfl hl (by decide) rfl (fun ls hl => ?_)
  refine lv_iload_n hx hb dX11_refusalOfSeen_7 rfl (lv_at hl 0 rfl) ?_
  refine lv_if_eq (tgt := 13) hx hb dX11_refusalOfSeen_8 (by decide) (fun c_3 => absurd c_3 (by decide)) (fun _ => ?_)
  refine lv_iload_n hx hb dX11_refusalOfSeen_11 rfl (lv_at hl 0 rfl) ?_
  refine W.widen (k := 0) (n := 0) (by decide) (by decide) ?_
  exact rtI hx hb hr hlocks hS () (rfl) (hP.sub [0, 1] rfl) (hD.sub [0, 1] (by decide) rfl) dX11_refusalOfSeen_12

set_option maxHeartbeats 4000000 in
set_option maxRecDepth 100000 in
theorem c_refusalOfFell (l : Launch) (G : va_G) (t : Nat → ClassId) (x : Nat) (tp : Nat) (rd : Nat) (im : Nat) (mk : Nat) (sl : Nat) (ac : Nat) (cl : Nat) (xhb : Nat) (rs : Nat) (sd : Nat) (cr : Nat) (xhl : Nat) (df : Nat) (ha1 : Nat) (ha2 : Nat) (ha3 : Nat) (ha4 : Nat) (ha5 : Nat) (ha6 : Nat) (ha7 : Nat) (ha8 : Nat) (hc : Nat) (a0 : Int32) : Ct l G t yX11_refusalOfFell cX11_refusalOfFell 3 (some .int) ({ frames := 2, cells := 0, slots := 0, locals := 42 }) [.ref x, .int a0] [(x, .inr (11, [.ref tp, .ref rd, .ref im, .ref mk, .ref sl, .ref ac, .ref cl, .ref xhb, .ref rs, .ref sd, .ref cr, .ref xhl, .ref df])), (xhl, .inr (5, [.int 0, .int 0, .int 0, .int 0, .int 0, .int 0, .long 0, .ref ha1, .ref ha2, .ref ha3, .ref ha4, .ref ha5, .ref ha6, .ref ha7, .ref ha8, .ref hc]))] (QI G (fun r (u : Unit) => r = (-2)) (fun (u : Unit) => [(x, .inr (11, [.ref tp, .ref rd, .ref im, .ref mk, .ref sl, .ref ac, .ref cl, .ref xhb, .ref rs, .ref sd, .ref cr, .ref xhl, .ref df])), (xhl, .inr (5, [.int 0, .int 0, .int 0, .int 0, .int 0, .int 0, .long 0, .ref ha1, .ref ha2, .ref ha3, .ref ha4, .ref ha5, .ref ha6, .ref ha7, .ref ha8, .ref hc]))])) := by
  refine ent (by decide) (Nat.le_of_ble_eq_true rfl) ?_
  intro p e s m args below meth c hx hb hr hml hts hown hlocks hin A hA hK hO hP hD hS ls hl
  have hown : s.vm.findClass RX11 = some m.cls := hown
  have hl : lv_has ls 3 [(0, .ref x), (1, .int a0)] := hl
  have C0 : Cx p s m args c cX11_refusalOfFell 3 RX11 G t := ⟨hx, hb, hml, hown, hts, hK, hO⟩
  refine lv_aload_n hx hb dX11_refusalOfFell_0 rfl (lv_at hl 0 rfl) ?_
  refine lv_iload_n hx hb dX11_refusalOfFell_1 rfl (lv_at hl 1 rfl) ?_
  refine lv_iconst (v := 3) hx hb dX11_refusalOfFell_2 (by decide) ?_
  refine goI (rnV C0 (c_refusalOfRow l G t x tp rd im mk sl ac cl xhb rs sd cr xhl df ha1 ha2 ha3 ha4 ha5 ha6 ha7 ha8 hc a0 3) lkX11_383 ⟨by decide, by decide⟩ (hP.sub (ws' := [(x, .inr (11, [.ref tp, .ref rd, .ref im, .ref mk, .ref sl, .ref ac, .ref cl, .ref xhb, .ref rs, .ref sd, .ref cr, .ref xhl, .ref df])), (xhl, .inr (5, [.int 0, .int 0, .int 0, .int 0, .int 0, .int 0, .long 0, .ref ha1, .ref ha2, .ref ha3, .ref ha4, .ref ha5, .ref ha6, .ref ha7, .ref ha8, .ref hc]))]) [0, 1] rfl) (hD.sub (ws' := [(x, .inr (11, [.ref tp, .ref rd, .ref im, .ref mk, .ref sl, .ref ac, .ref cl, .ref xhb, .ref rs, .ref sd, .ref cr, .ref xhl, .ref df])), (xhl, .inr (5, [.int 0, .int 0, .int 0, .int 0, .int 0, .int 0, .long 0, .ref ha1, .ref ha2, .ref ha3, .ref ha4, .ref ha5, .ref ha6, .ref ha7, .ref ha8, .ref hc]))]) [0, 1] (by decide) rfl) 0 11 rfl rfl rfl rfl hl.1 (rest := []) rfl (Nat.le_of_ble_eq_true rfl) dX11_refusalOfFell_3 ⟨by decide, by decide⟩) hP hD hS hA [0, 1] [] (wr := []) rfl rfl (by decide) (by decide) (fun r_1 u H locs h_2 hP hD hS => ?_)
  have hP : va_P G vwCl [(x, .inr (11, [.ref tp, .ref rd, .ref im, .ref mk, .ref sl, .ref ac, .ref cl, .ref xhb, .ref rs, .ref sd, .ref cr, .ref xhl, .ref df])), (xhl, .inr (5, [.int 0, .int 0, .int 0, .int 0, .int 0, .int 0, .long 0, .ref ha1, .ref ha2, .ref ha3, .ref ha4, .ref ha5, .ref ha6, .ref ha7, .ref ha8, .ref hc]))] H := hP
  have hD : va_D A [(x, .inr (11, [.ref tp, .ref rd, .ref im, .ref mk, .ref sl, .ref ac, .ref cl, .ref xhb, .ref rs, .ref sd, .ref cr, .ref xhl, .ref df])), (xhl, .inr (5, [.int 0, .int 0, .int 0, .int 0, .int 0, .int 0, .long 0, .ref ha1, .ref ha2, .ref ha3, .ref ha4, .ref ha5, .ref ha6, .ref ha7, .ref ha8, .ref hc]))] := hD
  refine W.widen (k := 0) (n := 0) (Nat.le_of_ble_eq_true rfl) (Nat.le_of_ble_eq_true rfl) ?_
  obtain rfl : r_1 = (-2) := h_2
  refine lv_istore_n (lv' := [(2, .int (-2)), (0, .ref x), (1, .int a0)]) hx hb dX11_refusalOfFell_6 rfl hl (by decide) rfl (fun ls hl => ?_)
  refine lv_iload_n hx hb dX11_refusalOfFell_7 rfl (lv_at hl 0 rfl) ?_
  refine lv_if_eq (tgt := 13) hx hb dX11_refusalOfFell_8 (by decide) (fun c_3 => absurd c_3 (by decide)) (fun _ => ?_)
  refine lv_iload_n hx hb dX11_refusalOfFell_11 rfl (lv_at hl 0 rfl) ?_
  refine W.widen (k := 0) (n := 0) (by decide) (by decide) ?_
  exact rtI hx hb hr hlocks hS () (rfl) (hP.sub [0, 1] rfl) (hD.sub [0, 1] (by decide) rfl) dX11_refusalOfFell_12

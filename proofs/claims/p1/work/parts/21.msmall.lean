set_option maxHeartbeats 4000000 in
set_option maxRecDepth 100000 in
theorem c_in_none (l : Launch) (G : va_G) (t : Nat → ClassId) (v0 : Int64) : Ct l G t yX12_in cX12_in 6 (some .boolean) ({ frames := 0, cells := 0, slots := 0, locals := 0 }) [.long v0, .long 0, .long (-1)] [] (QI G (fun r (u : Unit) => r = 0) (fun (u : Unit) => [])) := by
  refine ent (by decide) (Nat.le_of_ble_eq_true rfl) ?_
  intro p e s m args below meth c hx hb hr hml hts hown hlocks hin A hA hK hO hP hD hS ls hl
  have hown : s.vm.findClass RX12 = some m.cls := hown
  have hl : lv_has ls 6 [(0, .long v0), (2, .long 0), (4, .long (-1))] := hl
  have C0 : Cx p s m args c cX12_in 6 RX12 G t := ⟨hx, hb, hml, hown, hts, hK, hO⟩
  refine lv_lload_n hx hb dX12_in_0 rfl (lv_at hl 0 rfl) ?_
  refine lv_lload_n hx hb dX12_in_1 rfl (lv_at hl 1 rfl) ?_
  refine W.lcmp hx hb dX12_in_2 ?_
  refine lv_if_lt (tgt := 17) hx hb dX12_in_3 (by decide) (fun c_1 => ?_) (fun c_1 => ?_)
  · refine lv_iconst (v := 0) hx hb dX12_in_17 (by decide) ?_
    refine W.widen (k := 0) (n := 0) (by decide) (by decide) ?_
    exact rtZ hx hb hr hlocks hS rfl () (rfl) (hP.sub [] rfl) (hD.sub [] (by decide) rfl) dX12_in_18
  · refine lv_lload_n hx hb dX12_in_6 rfl (lv_at hl 0 rfl) ?_
    refine lv_lload hx hb dX12_in_7 (lv_at hl 2 rfl) ?_
    refine W.lcmp hx hb dX12_in_9 ?_
    refine lv_if_gt (tgt := 17) hx hb dX12_in_10 (by decide) (fun _ => ?_) (fun c_2 => absurd ((lg_cmp_gt _ _).mpr (in_gt c_1)) c_2)
    refine lv_iconst (v := 0) hx hb dX12_in_17 (by decide) ?_
    refine W.widen (k := 0) (n := 0) (by decide) (by decide) ?_
    exact rtZ hx hb hr hlocks hS rfl () (rfl) (hP.sub [] rfl) (hD.sub [] (by decide) rfl) dX12_in_18

set_option maxHeartbeats 4000000 in
set_option maxRecDepth 100000 in
theorem c_in (l : Launch) (G : va_G) (t : Nat → ClassId) (v0 : Int64) (lo0 : Int64) (hi0 : Int64) : Ct l G t yX12_in cX12_in 6 (some .boolean) ({ frames := 0, cells := 0, slots := 0, locals := 0 }) [.long v0, .long lo0, .long hi0] [] (QI G (fun r (u : Unit) => (r = 1 ∧ lo0 ≤ v0 ∧ v0 ≤ hi0) ∨ (r = 0 ∧ ¬ (lo0 ≤ v0 ∧ v0 ≤ hi0))) (fun (u : Unit) => [])) := by
  refine ent (by decide) (Nat.le_of_ble_eq_true rfl) ?_
  intro p e s m args below meth c hx hb hr hml hts hown hlocks hin A hA hK hO hP hD hS ls hl
  have hown : s.vm.findClass RX12 = some m.cls := hown
  have hl : lv_has ls 6 [(0, .long v0), (2, .long lo0), (4, .long hi0)] := hl
  have C0 : Cx p s m args c cX12_in 6 RX12 G t := ⟨hx, hb, hml, hown, hts, hK, hO⟩
  refine lv_lload_n hx hb dX12_in_0 rfl (lv_at hl 0 rfl) ?_
  refine lv_lload_n hx hb dX12_in_1 rfl (lv_at hl 1 rfl) ?_
  refine W.lcmp hx hb dX12_in_2 ?_
  refine lv_if_lt (tgt := 17) hx hb dX12_in_3 (by decide) (fun c_1 => ?_) (fun c_1 => ?_)
  · refine lv_iconst (v := 0) hx hb dX12_in_17 (by decide) ?_
    refine W.widen (k := 0) (n := 0) (by decide) (by decide) ?_
    exact rtZ hx hb hr hlocks hS rfl () (Or.inr ⟨rfl, fun h => absurd ((lg_cmp_lt _ _).mp c_1) (Int64.not_lt.mpr h.1)⟩) (hP.sub [] rfl) (hD.sub [] (by decide) rfl) dX12_in_18
  · refine lv_lload_n hx hb dX12_in_6 rfl (lv_at hl 0 rfl) ?_
    refine lv_lload hx hb dX12_in_7 (lv_at hl 2 rfl) ?_
    refine W.lcmp hx hb dX12_in_9 ?_
    refine lv_if_gt (tgt := 17) hx hb dX12_in_10 (by decide) (fun c_2 => ?_) (fun c_2 => ?_)
    · refine lv_iconst (v := 0) hx hb dX12_in_17 (by decide) ?_
      refine W.widen (k := 0) (n := 0) (by decide) (by decide) ?_
      exact rtZ hx hb hr hlocks hS rfl () (Or.inr ⟨rfl, fun h => absurd ((lg_cmp_gt _ _).mp c_2) (Int64.not_lt.mpr h.2)⟩) (hP.sub [] rfl) (hD.sub [] (by decide) rfl) dX12_in_18
    · refine lv_iconst (v := 1) hx hb dX12_in_13 (by decide) ?_
      refine lv_goto (tgt := 18) hx hb dX12_in_14 (by decide) ?_
      refine W.widen (k := 0) (n := 0) (by decide) (by decide) ?_
      exact rtZ hx hb hr hlocks hS rfl () (Or.inl ⟨rfl, Int64.not_lt.mp (fun q => c_1 ((lg_cmp_lt _ _).mpr q)), Int64.not_lt.mp (fun q => c_2 ((lg_cmp_gt _ _).mpr q))⟩) (hP.sub [] rfl) (hD.sub [] (by decide) rfl) dX12_in_18

set_option maxHeartbeats 4000000 in
set_option maxRecDepth 100000 in
theorem c_misSlot (l : Launch) (G : va_G) (t : Nat → ClassId) (n0 : Int32) : Ct l G t yX12_isSlot cX12_isSlot 1 (some .boolean) ({ frames := 1, cells := 0, slots := 0, locals := 25 }) [.int n0] [] (QI G (fun r (u : Unit) => (r = 1 ∧ 0 ≤ n0.toInt ∧ n0.toInt ≤ 3) ∨ (r = 0 ∧ ¬ (0 ≤ n0.toInt ∧ n0.toInt ≤ 3))) (fun (u : Unit) => [])) := by
  refine ent (by decide) (Nat.le_of_ble_eq_true rfl) ?_
  intro p e s m args below meth c hx hb hr hml hts hown hlocks hin A hA hK hO hP hD hS ls hl
  have hown : s.vm.findClass RX12 = some m.cls := hown
  have hl : lv_has ls 1 [(0, .int n0)] := hl
  have C0 : Cx p s m args c cX12_isSlot 1 RX12 G t := ⟨hx, hb, hml, hown, hts, hK, hO⟩
  refine lv_iload_n hx hb dX12_isSlot_0 rfl (lv_at hl 0 rfl) ?_
  refine lv_i2l (v := n0.toInt64) hx hb dX12_isSlot_1 (rfl) ?_
  refine lv_lconst (v := 0) hx hb dX12_isSlot_2 (by decide) ?_
  refine lv_ldc2 hx hb hown (hts _ tw6_101) dX12_isSlot_3 ?_
  refine goI (rnS C0 (c_in l G t n0.toInt64 0 3) lkX12_79 ⟨by decide, by decide⟩ (hP.sub (ws' := []) [] rfl) (hD.sub (ws' := []) [] (by decide) rfl) rfl hl.1 (rest := []) rfl (Nat.le_of_ble_eq_true rfl) dX12_isSlot_6 ⟨by decide, by decide⟩) hP hD hS hA [] [] (wr := []) rfl rfl (by decide) (by decide) (fun r_1 u H locs h_2 hP hD hS => ?_)
  have hP : va_P G vwCl [] H := hP
  have hD : va_D A [] := hD
  refine W.widen (k := 0) (n := 0) (Nat.le_of_ble_eq_true rfl) (Nat.le_of_ble_eq_true rfl) ?_
  have h_2 : (r_1 = 1 ∧ 0 ≤ n0.toInt64 ∧ n0.toInt64 ≤ 3) ∨ (r_1 = 0 ∧ ¬ (0 ≤ n0.toInt64 ∧ n0.toInt64 ≤ 3)) := h_2
  rcases h_2 with ⟨rfl, f_3⟩ | ⟨rfl, f_3⟩
  · refine W.widen (k := 0) (n := 0) (by decide) (by decide) ?_
    exact rtZ hx hb hr hlocks hS rfl () (by first | exact Or.inl ⟨rfl, by (try simp only [zlt, zle, zeq, zle64, z64, z0, z1, z2, z3, z4, z5, z6, z7, z8, z9, z60, zm1, y0, y2, y3, y4, ym1] at f_3); (try simp only [zlt, zle, zeq, zle64, z64, z0, z1, z2, z3, z4, z5, z6, z7, z8, z9, z60, zm1, y0, y2, y3, y4, ym1]) <;> omega⟩) (hP.sub [] rfl) (hD.sub [] (by decide) rfl) dX12_isSlot_9
  · refine W.widen (k := 0) (n := 0) (by decide) (by decide) ?_
    exact rtZ hx hb hr hlocks hS rfl () (by first | exact Or.inr (⟨rfl, by (try simp only [zlt, zle, zeq, zle64, z64, z0, z1, z2, z3, z4, z5, z6, z7, z8, z9, z60, zm1, y0, y2, y3, y4, ym1] at f_3); (try simp only [zlt, zle, zeq, zle64, z64, z0, z1, z2, z3, z4, z5, z6, z7, z8, z9, z60, zm1, y0, y2, y3, y4, ym1]) <;> omega⟩)) (hP.sub [] rfl) (hD.sub [] (by decide) rfl) dX12_isSlot_9

set_option maxHeartbeats 4000000 in
set_option maxRecDepth 100000 in
theorem c_misHall (l : Launch) (G : va_G) (t : Nat → ClassId) (z : Nat) (zw : Nat) (zm : Nat) (zc : Nat) (zv : Nat) (zt : Nat) (zn : Nat) (zh : Nat) (zp : Nat) (ze : Nat) (zs : Nat) (zg : Nat) (zk : Nat) (za : Nat) (zd : Nat) (zf : Nat) (zo : Nat) (zE : Nat) (zq : Nat) (zC : Nat) : Ct l G t yX12_isHall cX12_isHall 1 (some .boolean) ({ frames := 0, cells := 0, slots := 0, locals := 0 }) [.ref z] [(z, .inr (12, [.int 0, .ref zw, .ref zm, .ref zc, .ref zv, .ref zt, .int 0, .int 0, .int 0, .int 0, .int 0, .long 0, .int 0, .int 0, .int 0, .int (-1), .ref zn, .ref zh, .ref zp, .ref ze, .ref zs, .ref zg, .ref zk, .ref za, .ref zd, .ref zf, .ref zo, .ref zE, .ref zq, .int 0, .int 0, .int 0, .int 0, .int 0, .int 0, .ref zC])), (zn, .inl (t 1, 5, .inl (fun _ => 0)))] (QI G (fun r (u : Unit) => r = 0) (fun (u : Unit) => [(z, .inr (12, [.int 0, .ref zw, .ref zm, .ref zc, .ref zv, .ref zt, .int 0, .int 0, .int 0, .int 0, .int 0, .long 0, .int 0, .int 0, .int 0, .int (-1), .ref zn, .ref zh, .ref zp, .ref ze, .ref zs, .ref zg, .ref zk, .ref za, .ref zd, .ref zf, .ref zo, .ref zE, .ref zq, .int 0, .int 0, .int 0, .int 0, .int 0, .int 0, .ref zC])), (zn, .inl (t 1, 5, .inl (fun _ => 0)))])) := by
  refine ent (by decide) (Nat.le_of_ble_eq_true rfl) ?_
  intro p e s m args below meth c hx hb hr hml hts hown hlocks hin A hA hK hO hP hD hS ls hl
  have hown : s.vm.findClass RX12 = some m.cls := hown
  have hl : lv_has ls 1 [(0, .ref z)] := hl
  have C0 : Cx p s m args c cX12_isHall 1 RX12 G t := ⟨hx, hb, hml, hown, hts, hK, hO⟩
  refine lv_aload_n hx hb dX12_isHall_0 rfl (lv_at hl 0 rfl) ?_
  refine gf hx hb hts hown hK hP 0 inT12 rfl rfl 16 (by decide) tw6_1 rfl dX12_isHall_1 ?_
  refine lv_iconst (v := 0) hx hb dX12_isHall_4 (by decide) ?_
  refine ldI hx hb hK hP 1 rfl (by unfold vp_in; decide) dX12_isHall_5 (v := 0) (rfl) ?_
  refine lv_if_le (tgt := 13) hx hb dX12_isHall_6 (by decide) (fun _ => ?_) (fun c_1 => absurd (by decide) c_1)
  refine lv_iconst (v := 0) hx hb dX12_isHall_13 (by decide) ?_
  refine W.widen (k := 0) (n := 0) (by decide) (by decide) ?_
  exact rtZ hx hb hr hlocks hS rfl () (rfl) (hP.sub [0, 1] rfl) (hD.sub [0, 1] (by decide) rfl) dX12_isHall_14

set_option maxHeartbeats 4000000 in
set_option maxRecDepth 100000 in
theorem c_misRow (l : Launch) (G : va_G) (t : Nat → ClassId) (z : Nat) (zw : Nat) (zm : Nat) (zc : Nat) (zv : Nat) (zt : Nat) (zn : Nat) (zh : Nat) (zp : Nat) (ze : Nat) (zs : Nat) (zg : Nat) (zk : Nat) (za : Nat) (zd : Nat) (zf : Nat) (zo : Nat) (zE : Nat) (zq : Nat) (zC : Nat) (v0 : Int64) : Ct l G t yX12_isRow cX12_isRow 3 (some .boolean) ({ frames := 1, cells := 0, slots := 0, locals := 25 }) [.ref z, .long v0] [(z, .inr (12, [.int 0, .ref zw, .ref zm, .ref zc, .ref zv, .ref zt, .int 0, .int 0, .int 0, .int 0, .int 0, .long 0, .int 0, .int 0, .int 0, .int (-1), .ref zn, .ref zh, .ref zp, .ref ze, .ref zs, .ref zg, .ref zk, .ref za, .ref zd, .ref zf, .ref zo, .ref zE, .ref zq, .int 0, .int 0, .int 0, .int 0, .int 0, .int 0, .ref zC])), (zh, .inl (t 1, 30, .inl (fun _ => 0)))] (QI G (fun r (u : Unit) => r = 0) (fun (u : Unit) => [(z, .inr (12, [.int 0, .ref zw, .ref zm, .ref zc, .ref zv, .ref zt, .int 0, .int 0, .int 0, .int 0, .int 0, .long 0, .int 0, .int 0, .int 0, .int (-1), .ref zn, .ref zh, .ref zp, .ref ze, .ref zs, .ref zg, .ref zk, .ref za, .ref zd, .ref zf, .ref zo, .ref zE, .ref zq, .int 0, .int 0, .int 0, .int 0, .int 0, .int 0, .ref zC])), (zh, .inl (t 1, 30, .inl (fun _ => 0)))])) := by
  refine ent (by decide) (Nat.le_of_ble_eq_true rfl) ?_
  intro p e s m args below meth c hx hb hr hml hts hown hlocks hin A hA hK hO hP hD hS ls hl
  have hown : s.vm.findClass RX12 = some m.cls := hown
  have hl : lv_has ls 3 [(0, .ref z), (1, .long v0)] := hl
  have C0 : Cx p s m args c cX12_isRow 3 RX12 G t := ⟨hx, hb, hml, hown, hts, hK, hO⟩
  refine lv_lload_n hx hb dX12_isRow_0 rfl (lv_at hl 1 rfl) ?_
  refine lv_lconst (v := 0) hx hb dX12_isRow_1 (by decide) ?_
  refine lv_aload_n hx hb dX12_isRow_2 rfl (lv_at hl 0 rfl) ?_
  refine gf hx hb hts hown hK hP 0 inT12 rfl rfl 17 (by decide) tw6_2 rfl dX12_isRow_3 ?_
  refine lv_iconst (v := 0) hx hb dX12_isRow_6 (by decide) ?_
  refine ldI hx hb hK hP 1 rfl (by unfold vp_in; decide) dX12_isRow_7 (v := 0) (rfl) ?_
  refine lv_i2l (v := 0) hx hb dX12_isRow_8 (by decide) ?_
  refine lv_lconst (v := 1) hx hb dX12_isRow_9 (by decide) ?_
  refine lv_lsub hx hb dX12_isRow_10 (tpl (v := (-1)) (by decide) ?_)
  refine goI (rnS C0 (c_in_none l G t v0) lkX12_79 ⟨by decide, by decide⟩ (hP.sub (ws' := []) [] rfl) (hD.sub (ws' := []) [] (by decide) rfl) rfl hl.1 (rest := []) rfl (Nat.le_of_ble_eq_true rfl) dX12_isRow_11 ⟨by decide, by decide⟩) hP hD hS hA [] [0, 1] (wr := [(z, .inr (12, [.int 0, .ref zw, .ref zm, .ref zc, .ref zv, .ref zt, .int 0, .int 0, .int 0, .int 0, .int 0, .long 0, .int 0, .int 0, .int 0, .int (-1), .ref zn, .ref zh, .ref zp, .ref ze, .ref zs, .ref zg, .ref zk, .ref za, .ref zd, .ref zf, .ref zo, .ref zE, .ref zq, .int 0, .int 0, .int 0, .int 0, .int 0, .int 0, .ref zC])), (zh, .inl (t 1, 30, .inl (fun _ => 0)))]) rfl rfl (by decide) (by decide) (fun r_1 u H locs h_2 hP hD hS => ?_)
  have hP : va_P G vwCl [(z, .inr (12, [.int 0, .ref zw, .ref zm, .ref zc, .ref zv, .ref zt, .int 0, .int 0, .int 0, .int 0, .int 0, .long 0, .int 0, .int 0, .int 0, .int (-1), .ref zn, .ref zh, .ref zp, .ref ze, .ref zs, .ref zg, .ref zk, .ref za, .ref zd, .ref zf, .ref zo, .ref zE, .ref zq, .int 0, .int 0, .int 0, .int 0, .int 0, .int 0, .ref zC])), (zh, .inl (t 1, 30, .inl (fun _ => 0)))] H := hP
  have hD : va_D A [(z, .inr (12, [.int 0, .ref zw, .ref zm, .ref zc, .ref zv, .ref zt, .int 0, .int 0, .int 0, .int 0, .int 0, .long 0, .int 0, .int 0, .int 0, .int (-1), .ref zn, .ref zh, .ref zp, .ref ze, .ref zs, .ref zg, .ref zk, .ref za, .ref zd, .ref zf, .ref zo, .ref zE, .ref zq, .int 0, .int 0, .int 0, .int 0, .int 0, .int 0, .ref zC])), (zh, .inl (t 1, 30, .inl (fun _ => 0)))] := hD
  refine W.widen (k := 0) (n := 0) (Nat.le_of_ble_eq_true rfl) (Nat.le_of_ble_eq_true rfl) ?_
  obtain rfl : r_1 = 0 := h_2
  refine W.widen (k := 0) (n := 0) (by decide) (by decide) ?_
  exact rtZ hx hb hr hlocks hS rfl () (rfl) (hP.sub [0, 1] rfl) (hD.sub [0, 1] (by decide) rfl) dX12_isRow_14

set_option maxHeartbeats 4000000 in
set_option maxRecDepth 100000 in
theorem c_misPlace (l : Launch) (G : va_G) (t : Nat → ClassId) (z : Nat) (zw : Nat) (zm : Nat) (zc : Nat) (zv : Nat) (zt : Nat) (zn : Nat) (zh : Nat) (zp : Nat) (ze : Nat) (zs : Nat) (zg : Nat) (zk : Nat) (za : Nat) (zd : Nat) (zf : Nat) (zo : Nat) (zE : Nat) (zq : Nat) (zC : Nat) (v0 : Int64) : Ct l G t yX12_isPlace cX12_isPlace 3 (some .boolean) ({ frames := 1, cells := 0, slots := 0, locals := 25 }) [.ref z, .long v0] [(z, .inr (12, [.int 0, .ref zw, .ref zm, .ref zc, .ref zv, .ref zt, .int 0, .int 0, .int 0, .int 0, .int 0, .long 0, .int 0, .int 0, .int 0, .int (-1), .ref zn, .ref zh, .ref zp, .ref ze, .ref zs, .ref zg, .ref zk, .ref za, .ref zd, .ref zf, .ref zo, .ref zE, .ref zq, .int 0, .int 0, .int 0, .int 0, .int 0, .int 0, .ref zC])), (zh, .inl (t 1, 30, .inl (fun _ => 0)))] (QI G (fun r (u : Unit) => r = 0) (fun (u : Unit) => [(z, .inr (12, [.int 0, .ref zw, .ref zm, .ref zc, .ref zv, .ref zt, .int 0, .int 0, .int 0, .int 0, .int 0, .long 0, .int 0, .int 0, .int 0, .int (-1), .ref zn, .ref zh, .ref zp, .ref ze, .ref zs, .ref zg, .ref zk, .ref za, .ref zd, .ref zf, .ref zo, .ref zE, .ref zq, .int 0, .int 0, .int 0, .int 0, .int 0, .int 0, .ref zC])), (zh, .inl (t 1, 30, .inl (fun _ => 0)))])) := by
  refine ent (by decide) (Nat.le_of_ble_eq_true rfl) ?_
  intro p e s m args below meth c hx hb hr hml hts hown hlocks hin A hA hK hO hP hD hS ls hl
  have hown : s.vm.findClass RX12 = some m.cls := hown
  have hl : lv_has ls 3 [(0, .ref z), (1, .long v0)] := hl
  have C0 : Cx p s m args c cX12_isPlace 3 RX12 G t := ⟨hx, hb, hml, hown, hts, hK, hO⟩
  refine lv_lload_n hx hb dX12_isPlace_0 rfl (lv_at hl 1 rfl) ?_
  refine lv_lconst (v := 0) hx hb dX12_isPlace_1 (by decide) ?_
  refine lv_aload_n hx hb dX12_isPlace_2 rfl (lv_at hl 0 rfl) ?_
  refine gf hx hb hts hown hK hP 0 inT12 rfl rfl 17 (by decide) tw6_2 rfl dX12_isPlace_3 ?_
  refine lv_iconst (v := 3) hx hb dX12_isPlace_6 (by decide) ?_
  refine ldI hx hb hK hP 1 rfl (by unfold vp_in; decide) dX12_isPlace_7 (v := 0) (rfl) ?_
  refine lv_i2l (v := 0) hx hb dX12_isPlace_8 (by decide) ?_
  refine lv_lconst (v := 1) hx hb dX12_isPlace_9 (by decide) ?_
  refine lv_lsub hx hb dX12_isPlace_10 (tpl (v := (-1)) (by decide) ?_)
  refine goI (rnS C0 (c_in_none l G t v0) lkX12_79 ⟨by decide, by decide⟩ (hP.sub (ws' := []) [] rfl) (hD.sub (ws' := []) [] (by decide) rfl) rfl hl.1 (rest := []) rfl (Nat.le_of_ble_eq_true rfl) dX12_isPlace_11 ⟨by decide, by decide⟩) hP hD hS hA [] [0, 1] (wr := [(z, .inr (12, [.int 0, .ref zw, .ref zm, .ref zc, .ref zv, .ref zt, .int 0, .int 0, .int 0, .int 0, .int 0, .long 0, .int 0, .int 0, .int 0, .int (-1), .ref zn, .ref zh, .ref zp, .ref ze, .ref zs, .ref zg, .ref zk, .ref za, .ref zd, .ref zf, .ref zo, .ref zE, .ref zq, .int 0, .int 0, .int 0, .int 0, .int 0, .int 0, .ref zC])), (zh, .inl (t 1, 30, .inl (fun _ => 0)))]) rfl rfl (by decide) (by decide) (fun r_1 u H locs h_2 hP hD hS => ?_)
  have hP : va_P G vwCl [(z, .inr (12, [.int 0, .ref zw, .ref zm, .ref zc, .ref zv, .ref zt, .int 0, .int 0, .int 0, .int 0, .int 0, .long 0, .int 0, .int 0, .int 0, .int (-1), .ref zn, .ref zh, .ref zp, .ref ze, .ref zs, .ref zg, .ref zk, .ref za, .ref zd, .ref zf, .ref zo, .ref zE, .ref zq, .int 0, .int 0, .int 0, .int 0, .int 0, .int 0, .ref zC])), (zh, .inl (t 1, 30, .inl (fun _ => 0)))] H := hP
  have hD : va_D A [(z, .inr (12, [.int 0, .ref zw, .ref zm, .ref zc, .ref zv, .ref zt, .int 0, .int 0, .int 0, .int 0, .int 0, .long 0, .int 0, .int 0, .int 0, .int (-1), .ref zn, .ref zh, .ref zp, .ref ze, .ref zs, .ref zg, .ref zk, .ref za, .ref zd, .ref zf, .ref zo, .ref zE, .ref zq, .int 0, .int 0, .int 0, .int 0, .int 0, .int 0, .ref zC])), (zh, .inl (t 1, 30, .inl (fun _ => 0)))] := hD
  refine W.widen (k := 0) (n := 0) (Nat.le_of_ble_eq_true rfl) (Nat.le_of_ble_eq_true rfl) ?_
  obtain rfl : r_1 = 0 := h_2
  refine W.widen (k := 0) (n := 0) (by decide) (by decide) ?_
  exact rtZ hx hb hr hlocks hS rfl () (rfl) (hP.sub [0, 1] rfl) (hD.sub [0, 1] (by decide) rfl) dX12_isPlace_14

set_option maxHeartbeats 4000000 in
set_option maxRecDepth 100000 in
theorem c_misExit (l : Launch) (G : va_G) (t : Nat → ClassId) (z : Nat) (zw : Nat) (zm : Nat) (zc : Nat) (zv : Nat) (zt : Nat) (zn : Nat) (zh : Nat) (zp : Nat) (ze : Nat) (zs : Nat) (zg : Nat) (zk : Nat) (za : Nat) (zd : Nat) (zf : Nat) (zo : Nat) (zE : Nat) (zq : Nat) (zC : Nat) (v0 : Int64) : Ct l G t yX12_isExit cX12_isExit 3 (some .boolean) ({ frames := 1, cells := 0, slots := 0, locals := 25 }) [.ref z, .long v0] [(z, .inr (12, [.int 0, .ref zw, .ref zm, .ref zc, .ref zv, .ref zt, .int 0, .int 0, .int 0, .int 0, .int 0, .long 0, .int 0, .int 0, .int 0, .int (-1), .ref zn, .ref zh, .ref zp, .ref ze, .ref zs, .ref zg, .ref zk, .ref za, .ref zd, .ref zf, .ref zo, .ref zE, .ref zq, .int 0, .int 0, .int 0, .int 0, .int 0, .int 0, .ref zC])), (zh, .inl (t 1, 30, .inl (fun _ => 0)))] (QI G (fun r (u : Unit) => r = 0) (fun (u : Unit) => [(z, .inr (12, [.int 0, .ref zw, .ref zm, .ref zc, .ref zv, .ref zt, .int 0, .int 0, .int 0, .int 0, .int 0, .long 0, .int 0, .int 0, .int 0, .int (-1), .ref zn, .ref zh, .ref zp, .ref ze, .ref zs, .ref zg, .ref zk, .ref za, .ref zd, .ref zf, .ref zo, .ref zE, .ref zq, .int 0, .int 0, .int 0, .int 0, .int 0, .int 0, .ref zC])), (zh, .inl (t 1, 30, .inl (fun _ => 0)))])) := by
  refine ent (by decide) (Nat.le_of_ble_eq_true rfl) ?_
  intro p e s m args below meth c hx hb hr hml hts hown hlocks hin A hA hK hO hP hD hS ls hl
  have hown : s.vm.findClass RX12 = some m.cls := hown
  have hl : lv_has ls 3 [(0, .ref z), (1, .long v0)] := hl
  have C0 : Cx p s m args c cX12_isExit 3 RX12 G t := ⟨hx, hb, hml, hown, hts, hK, hO⟩
  refine lv_lload_n hx hb dX12_isExit_0 rfl (lv_at hl 1 rfl) ?_
  refine lv_lconst (v := 0) hx hb dX12_isExit_1 (by decide) ?_
  refine lv_aload_n hx hb dX12_isExit_2 rfl (lv_at hl 0 rfl) ?_
  refine gf hx hb hts hown hK hP 0 inT12 rfl rfl 17 (by decide) tw6_2 rfl dX12_isExit_3 ?_
  refine lv_iconst (v := 4) hx hb dX12_isExit_6 (by decide) ?_
  refine ldI hx hb hK hP 1 rfl (by unfold vp_in; decide) dX12_isExit_7 (v := 0) (rfl) ?_
  refine lv_i2l (v := 0) hx hb dX12_isExit_8 (by decide) ?_
  refine lv_lconst (v := 1) hx hb dX12_isExit_9 (by decide) ?_
  refine lv_lsub hx hb dX12_isExit_10 (tpl (v := (-1)) (by decide) ?_)
  refine goI (rnS C0 (c_in_none l G t v0) lkX12_79 ⟨by decide, by decide⟩ (hP.sub (ws' := []) [] rfl) (hD.sub (ws' := []) [] (by decide) rfl) rfl hl.1 (rest := []) rfl (Nat.le_of_ble_eq_true rfl) dX12_isExit_11 ⟨by decide, by decide⟩) hP hD hS hA [] [0, 1] (wr := [(z, .inr (12, [.int 0, .ref zw, .ref zm, .ref zc, .ref zv, .ref zt, .int 0, .int 0, .int 0, .int 0, .int 0, .long 0, .int 0, .int 0, .int 0, .int (-1), .ref zn, .ref zh, .ref zp, .ref ze, .ref zs, .ref zg, .ref zk, .ref za, .ref zd, .ref zf, .ref zo, .ref zE, .ref zq, .int 0, .int 0, .int 0, .int 0, .int 0, .int 0, .ref zC])), (zh, .inl (t 1, 30, .inl (fun _ => 0)))]) rfl rfl (by decide) (by decide) (fun r_1 u H locs h_2 hP hD hS => ?_)
  have hP : va_P G vwCl [(z, .inr (12, [.int 0, .ref zw, .ref zm, .ref zc, .ref zv, .ref zt, .int 0, .int 0, .int 0, .int 0, .int 0, .long 0, .int 0, .int 0, .int 0, .int (-1), .ref zn, .ref zh, .ref zp, .ref ze, .ref zs, .ref zg, .ref zk, .ref za, .ref zd, .ref zf, .ref zo, .ref zE, .ref zq, .int 0, .int 0, .int 0, .int 0, .int 0, .int 0, .ref zC])), (zh, .inl (t 1, 30, .inl (fun _ => 0)))] H := hP
  have hD : va_D A [(z, .inr (12, [.int 0, .ref zw, .ref zm, .ref zc, .ref zv, .ref zt, .int 0, .int 0, .int 0, .int 0, .int 0, .long 0, .int 0, .int 0, .int 0, .int (-1), .ref zn, .ref zh, .ref zp, .ref ze, .ref zs, .ref zg, .ref zk, .ref za, .ref zd, .ref zf, .ref zo, .ref zE, .ref zq, .int 0, .int 0, .int 0, .int 0, .int 0, .int 0, .ref zC])), (zh, .inl (t 1, 30, .inl (fun _ => 0)))] := hD
  refine W.widen (k := 0) (n := 0) (Nat.le_of_ble_eq_true rfl) (Nat.le_of_ble_eq_true rfl) ?_
  obtain rfl : r_1 = 0 := h_2
  refine W.widen (k := 0) (n := 0) (by decide) (by decide) ?_
  exact rtZ hx hb hr hlocks hS rfl () (rfl) (hP.sub [0, 1] rfl) (hD.sub [0, 1] (by decide) rfl) dX12_isExit_14

set_option maxHeartbeats 4000000 in
set_option maxRecDepth 100000 in
theorem c_misSeat (l : Launch) (G : va_G) (t : Nat → ClassId) (z : Nat) (zw : Nat) (zm : Nat) (zc : Nat) (zv : Nat) (zt : Nat) (zn : Nat) (zh : Nat) (zp : Nat) (ze : Nat) (zs : Nat) (zg : Nat) (zk : Nat) (za : Nat) (zd : Nat) (zf : Nat) (zo : Nat) (zE : Nat) (zq : Nat) (zC : Nat) (v0 : Int64) (v1 : Int64) : Ct l G t yX12_isSeat cX12_isSeat 5 (some .boolean) ({ frames := 2, cells := 0, slots := 0, locals := 47 }) [.ref z, .long v0, .long v1] [(z, .inr (12, [.int 0, .ref zw, .ref zm, .ref zc, .ref zv, .ref zt, .int 0, .int 0, .int 0, .int 0, .int 0, .long 0, .int 0, .int 0, .int 0, .int (-1), .ref zn, .ref zh, .ref zp, .ref ze, .ref zs, .ref zg, .ref zk, .ref za, .ref zd, .ref zf, .ref zo, .ref zE, .ref zq, .int 0, .int 0, .int 0, .int 0, .int 0, .int 0, .ref zC])), (zh, .inl (t 1, 30, .inl (fun _ => 0)))] (QI G (fun r (u : Unit) => r = 0) (fun (u : Unit) => [(z, .inr (12, [.int 0, .ref zw, .ref zm, .ref zc, .ref zv, .ref zt, .int 0, .int 0, .int 0, .int 0, .int 0, .long 0, .int 0, .int 0, .int 0, .int (-1), .ref zn, .ref zh, .ref zp, .ref ze, .ref zs, .ref zg, .ref zk, .ref za, .ref zd, .ref zf, .ref zo, .ref zE, .ref zq, .int 0, .int 0, .int 0, .int 0, .int 0, .int 0, .ref zC])), (zh, .inl (t 1, 30, .inl (fun _ => 0)))])) := by
  refine ent (by decide) (Nat.le_of_ble_eq_true rfl) ?_
  intro p e s m args below meth c hx hb hr hml hts hown hlocks hin A hA hK hO hP hD hS ls hl
  have hown : s.vm.findClass RX12 = some m.cls := hown
  have hl : lv_has ls 5 [(0, .ref z), (1, .long v0), (3, .long v1)] := hl
  have C0 : Cx p s m args c cX12_isSeat 5 RX12 G t := ⟨hx, hb, hml, hown, hts, hK, hO⟩
  refine lv_aload_n hx hb dX12_isSeat_0 rfl (lv_at hl 0 rfl) ?_
  refine lv_lload_n hx hb dX12_isSeat_1 rfl (lv_at hl 1 rfl) ?_
  refine goI (rnV C0 (c_misRow l G t z zw zm zc zv zt zn zh zp ze zs zg zk za zd zf zo zE zq zC v0) lkX12_234 ⟨by decide, by decide⟩ (hP.sub (ws' := [(z, .inr (12, [.int 0, .ref zw, .ref zm, .ref zc, .ref zv, .ref zt, .int 0, .int 0, .int 0, .int 0, .int 0, .long 0, .int 0, .int 0, .int 0, .int (-1), .ref zn, .ref zh, .ref zp, .ref ze, .ref zs, .ref zg, .ref zk, .ref za, .ref zd, .ref zf, .ref zo, .ref zE, .ref zq, .int 0, .int 0, .int 0, .int 0, .int 0, .int 0, .ref zC])), (zh, .inl (t 1, 30, .inl (fun _ => 0)))]) [0, 1] rfl) (hD.sub (ws' := [(z, .inr (12, [.int 0, .ref zw, .ref zm, .ref zc, .ref zv, .ref zt, .int 0, .int 0, .int 0, .int 0, .int 0, .long 0, .int 0, .int 0, .int 0, .int (-1), .ref zn, .ref zh, .ref zp, .ref ze, .ref zs, .ref zg, .ref zk, .ref za, .ref zd, .ref zf, .ref zo, .ref zE, .ref zq, .int 0, .int 0, .int 0, .int 0, .int 0, .int 0, .ref zC])), (zh, .inl (t 1, 30, .inl (fun _ => 0)))]) [0, 1] (by decide) rfl) 0 12 rfl rfl rfl rfl hl.1 (rest := []) rfl (Nat.le_of_ble_eq_true rfl) dX12_isSeat_2 ⟨by decide, by decide⟩) hP hD hS hA [0, 1] [] (wr := []) rfl rfl (by decide) (by decide) (fun r_1 u H locs h_2 hP hD hS => ?_)
  have hP : va_P G vwCl [(z, .inr (12, [.int 0, .ref zw, .ref zm, .ref zc, .ref zv, .ref zt, .int 0, .int 0, .int 0, .int 0, .int 0, .long 0, .int 0, .int 0, .int 0, .int (-1), .ref zn, .ref zh, .ref zp, .ref ze, .ref zs, .ref zg, .ref zk, .ref za, .ref zd, .ref zf, .ref zo, .ref zE, .ref zq, .int 0, .int 0, .int 0, .int 0, .int 0, .int 0, .ref zC])), (zh, .inl (t 1, 30, .inl (fun _ => 0)))] H := hP
  have hD : va_D A [(z, .inr (12, [.int 0, .ref zw, .ref zm, .ref zc, .ref zv, .ref zt, .int 0, .int 0, .int 0, .int 0, .int 0, .long 0, .int 0, .int 0, .int 0, .int (-1), .ref zn, .ref zh, .ref zp, .ref ze, .ref zs, .ref zg, .ref zk, .ref za, .ref zd, .ref zf, .ref zo, .ref zE, .ref zq, .int 0, .int 0, .int 0, .int 0, .int 0, .int 0, .ref zC])), (zh, .inl (t 1, 30, .inl (fun _ => 0)))] := hD
  refine W.widen (k := 0) (n := 0) (Nat.le_of_ble_eq_true rfl) (Nat.le_of_ble_eq_true rfl) ?_
  obtain rfl : r_1 = 0 := h_2
  refine lv_if_eq (tgt := 29) hx hb dX12_isSeat_5 (by decide) (fun _ => ?_) (fun c_3 => absurd (by decide) c_3)
  refine lv_iconst (v := 0) hx hb dX12_isSeat_29 (by decide) ?_
  refine W.widen (k := 0) (n := 0) (by decide) (by decide) ?_
  exact rtZ hx hb hr hlocks hS rfl () (rfl) (hP.sub [0, 1] rfl) (hD.sub [0, 1] (by decide) rfl) dX12_isSeat_30

set_option maxHeartbeats 4000000 in
set_option maxRecDepth 100000 in
theorem c_misAct (l : Launch) (G : va_G) (t : Nat → ClassId) (z : Nat) (zw : Nat) (zm : Nat) (zc : Nat) (zv : Nat) (zt : Nat) (zn : Nat) (zh : Nat) (zp : Nat) (ze : Nat) (zs : Nat) (zg : Nat) (zk : Nat) (za : Nat) (zd : Nat) (zf : Nat) (zo : Nat) (zE : Nat) (zq : Nat) (zC : Nat) (a0 : Int32) : Ct l G t yX12_isAct cX12_isAct 2 (some .boolean) ({ frames := 1, cells := 0, slots := 0, locals := 20 }) [.ref z, .int a0] [(z, .inr (12, [.int 0, .ref zw, .ref zm, .ref zc, .ref zv, .ref zt, .int 0, .int 0, .int 0, .int 0, .int 0, .long 0, .int 0, .int 0, .int 0, .int (-1), .ref zn, .ref zh, .ref zp, .ref ze, .ref zs, .ref zg, .ref zk, .ref za, .ref zd, .ref zf, .ref zo, .ref zE, .ref zq, .int 0, .int 0, .int 0, .int 0, .int 0, .int 0, .ref zC])), (zn, .inl (t 1, 5, .inl (fun _ => 0)))] (QI G (fun r (u : Unit) => r = 0) (fun (u : Unit) => [(z, .inr (12, [.int 0, .ref zw, .ref zm, .ref zc, .ref zv, .ref zt, .int 0, .int 0, .int 0, .int 0, .int 0, .long 0, .int 0, .int 0, .int 0, .int (-1), .ref zn, .ref zh, .ref zp, .ref ze, .ref zs, .ref zg, .ref zk, .ref za, .ref zd, .ref zf, .ref zo, .ref zE, .ref zq, .int 0, .int 0, .int 0, .int 0, .int 0, .int 0, .ref zC])), (zn, .inl (t 1, 5, .inl (fun _ => 0)))])) := by
  refine ent (by decide) (Nat.le_of_ble_eq_true rfl) ?_
  intro p e s m args below meth c hx hb hr hml hts hown hlocks hin A hA hK hO hP hD hS ls hl
  have hown : s.vm.findClass RX12 = some m.cls := hown
  have hl : lv_has ls 2 [(0, .ref z), (1, .int a0)] := hl
  have C0 : Cx p s m args c cX12_isAct 2 RX12 G t := ⟨hx, hb, hml, hown, hts, hK, hO⟩
  refine lv_aload_n hx hb dX12_isAct_0 rfl (lv_at hl 0 rfl) ?_
  refine goI (rnV C0 (c_misHall l G t z zw zm zc zv zt zn zh zp ze zs zg zk za zd zf zo zE zq zC) lkX12_237 ⟨by decide, by decide⟩ (hP.sub (ws' := [(z, .inr (12, [.int 0, .ref zw, .ref zm, .ref zc, .ref zv, .ref zt, .int 0, .int 0, .int 0, .int 0, .int 0, .long 0, .int 0, .int 0, .int 0, .int (-1), .ref zn, .ref zh, .ref zp, .ref ze, .ref zs, .ref zg, .ref zk, .ref za, .ref zd, .ref zf, .ref zo, .ref zE, .ref zq, .int 0, .int 0, .int 0, .int 0, .int 0, .int 0, .ref zC])), (zn, .inl (t 1, 5, .inl (fun _ => 0)))]) [0, 1] rfl) (hD.sub (ws' := [(z, .inr (12, [.int 0, .ref zw, .ref zm, .ref zc, .ref zv, .ref zt, .int 0, .int 0, .int 0, .int 0, .int 0, .long 0, .int 0, .int 0, .int 0, .int (-1), .ref zn, .ref zh, .ref zp, .ref ze, .ref zs, .ref zg, .ref zk, .ref za, .ref zd, .ref zf, .ref zo, .ref zE, .ref zq, .int 0, .int 0, .int 0, .int 0, .int 0, .int 0, .ref zC])), (zn, .inl (t 1, 5, .inl (fun _ => 0)))]) [0, 1] (by decide) rfl) 0 12 rfl rfl rfl rfl hl.1 (rest := []) rfl (Nat.le_of_ble_eq_true rfl) dX12_isAct_1 ⟨by decide, by decide⟩) hP hD hS hA [0, 1] [] (wr := []) rfl rfl (by decide) (by decide) (fun r_1 u H locs h_2 hP hD hS => ?_)
  have hP : va_P G vwCl [(z, .inr (12, [.int 0, .ref zw, .ref zm, .ref zc, .ref zv, .ref zt, .int 0, .int 0, .int 0, .int 0, .int 0, .long 0, .int 0, .int 0, .int 0, .int (-1), .ref zn, .ref zh, .ref zp, .ref ze, .ref zs, .ref zg, .ref zk, .ref za, .ref zd, .ref zf, .ref zo, .ref zE, .ref zq, .int 0, .int 0, .int 0, .int 0, .int 0, .int 0, .ref zC])), (zn, .inl (t 1, 5, .inl (fun _ => 0)))] H := hP
  have hD : va_D A [(z, .inr (12, [.int 0, .ref zw, .ref zm, .ref zc, .ref zv, .ref zt, .int 0, .int 0, .int 0, .int 0, .int 0, .long 0, .int 0, .int 0, .int 0, .int (-1), .ref zn, .ref zh, .ref zp, .ref ze, .ref zs, .ref zg, .ref zk, .ref za, .ref zd, .ref zf, .ref zo, .ref zE, .ref zq, .int 0, .int 0, .int 0, .int 0, .int 0, .int 0, .ref zC])), (zn, .inl (t 1, 5, .inl (fun _ => 0)))] := hD
  refine W.widen (k := 0) (n := 0) (Nat.le_of_ble_eq_true rfl) (Nat.le_of_ble_eq_true rfl) ?_
  obtain rfl : r_1 = 0 := h_2
  refine lv_if_eq (tgt := 23) hx hb dX12_isAct_4 (by decide) (fun _ => ?_) (fun c_3 => absurd (by decide) c_3)
  refine lv_iconst (v := 0) hx hb dX12_isAct_23 (by decide) ?_
  refine W.widen (k := 0) (n := 0) (by decide) (by decide) ?_
  exact rtZ hx hb hr hlocks hS rfl () (rfl) (hP.sub [0, 1] rfl) (hD.sub [0, 1] (by decide) rfl) dX12_isAct_24

set_option maxHeartbeats 4000000 in
set_option maxRecDepth 100000 in
theorem c_misDraw (l : Launch) (G : va_G) (t : Nat → ClassId) (z : Nat) (zw : Nat) (zm : Nat) (zc : Nat) (zv : Nat) (zt : Nat) (zn : Nat) (zh : Nat) (zp : Nat) (ze : Nat) (zs : Nat) (zg : Nat) (zk : Nat) (za : Nat) (zd : Nat) (zf : Nat) (zo : Nat) (zE : Nat) (zq : Nat) (zC : Nat) (a0 : Int32) (b0 : Int32) : Ct l G t yX12_isDraw cX12_isDraw 3 (some .boolean) ({ frames := 2, cells := 0, slots := 0, locals := 41 }) [.ref z, .int a0, .int b0] [(z, .inr (12, [.int 0, .ref zw, .ref zm, .ref zc, .ref zv, .ref zt, .int 0, .int 0, .int 0, .int 0, .int 0, .long 0, .int 0, .int 0, .int 0, .int (-1), .ref zn, .ref zh, .ref zp, .ref ze, .ref zs, .ref zg, .ref zk, .ref za, .ref zd, .ref zf, .ref zo, .ref zE, .ref zq, .int 0, .int 0, .int 0, .int 0, .int 0, .int 0, .ref zC])), (zn, .inl (t 1, 5, .inl (fun _ => 0)))] (QI G (fun r (u : Unit) => r = 0) (fun (u : Unit) => [(z, .inr (12, [.int 0, .ref zw, .ref zm, .ref zc, .ref zv, .ref zt, .int 0, .int 0, .int 0, .int 0, .int 0, .long 0, .int 0, .int 0, .int 0, .int (-1), .ref zn, .ref zh, .ref zp, .ref ze, .ref zs, .ref zg, .ref zk, .ref za, .ref zd, .ref zf, .ref zo, .ref zE, .ref zq, .int 0, .int 0, .int 0, .int 0, .int 0, .int 0, .ref zC])), (zn, .inl (t 1, 5, .inl (fun _ => 0)))])) := by
  refine ent (by decide) (Nat.le_of_ble_eq_true rfl) ?_
  intro p e s m args below meth c hx hb hr hml hts hown hlocks hin A hA hK hO hP hD hS ls hl
  have hown : s.vm.findClass RX12 = some m.cls := hown
  have hl : lv_has ls 3 [(0, .ref z), (1, .int a0), (2, .int b0)] := hl
  have C0 : Cx p s m args c cX12_isDraw 3 RX12 G t := ⟨hx, hb, hml, hown, hts, hK, hO⟩
  refine lv_aload_n hx hb dX12_isDraw_0 rfl (lv_at hl 0 rfl) ?_
  refine lv_iload_n hx hb dX12_isDraw_1 rfl (lv_at hl 2 rfl) ?_
  refine goI (rnV C0 (c_misAct l G t z zw zm zc zv zt zn zh zp ze zs zg zk za zd zf zo zE zq zC b0) lkX12_273 ⟨by decide, by decide⟩ (hP.sub (ws' := [(z, .inr (12, [.int 0, .ref zw, .ref zm, .ref zc, .ref zv, .ref zt, .int 0, .int 0, .int 0, .int 0, .int 0, .long 0, .int 0, .int 0, .int 0, .int (-1), .ref zn, .ref zh, .ref zp, .ref ze, .ref zs, .ref zg, .ref zk, .ref za, .ref zd, .ref zf, .ref zo, .ref zE, .ref zq, .int 0, .int 0, .int 0, .int 0, .int 0, .int 0, .ref zC])), (zn, .inl (t 1, 5, .inl (fun _ => 0)))]) [0, 1] rfl) (hD.sub (ws' := [(z, .inr (12, [.int 0, .ref zw, .ref zm, .ref zc, .ref zv, .ref zt, .int 0, .int 0, .int 0, .int 0, .int 0, .long 0, .int 0, .int 0, .int 0, .int (-1), .ref zn, .ref zh, .ref zp, .ref ze, .ref zs, .ref zg, .ref zk, .ref za, .ref zd, .ref zf, .ref zo, .ref zE, .ref zq, .int 0, .int 0, .int 0, .int 0, .int 0, .int 0, .ref zC])), (zn, .inl (t 1, 5, .inl (fun _ => 0)))]) [0, 1] (by decide) rfl) 0 12 rfl rfl rfl rfl hl.1 (rest := []) rfl (Nat.le_of_ble_eq_true rfl) dX12_isDraw_2 ⟨by decide, by decide⟩) hP hD hS hA [0, 1] [] (wr := []) rfl rfl (by decide) (by decide) (fun r_1 u H locs h_2 hP hD hS => ?_)
  have hP : va_P G vwCl [(z, .inr (12, [.int 0, .ref zw, .ref zm, .ref zc, .ref zv, .ref zt, .int 0, .int 0, .int 0, .int 0, .int 0, .long 0, .int 0, .int 0, .int 0, .int (-1), .ref zn, .ref zh, .ref zp, .ref ze, .ref zs, .ref zg, .ref zk, .ref za, .ref zd, .ref zf, .ref zo, .ref zE, .ref zq, .int 0, .int 0, .int 0, .int 0, .int 0, .int 0, .ref zC])), (zn, .inl (t 1, 5, .inl (fun _ => 0)))] H := hP
  have hD : va_D A [(z, .inr (12, [.int 0, .ref zw, .ref zm, .ref zc, .ref zv, .ref zt, .int 0, .int 0, .int 0, .int 0, .int 0, .long 0, .int 0, .int 0, .int 0, .int (-1), .ref zn, .ref zh, .ref zp, .ref ze, .ref zs, .ref zg, .ref zk, .ref za, .ref zd, .ref zf, .ref zo, .ref zE, .ref zq, .int 0, .int 0, .int 0, .int 0, .int 0, .int 0, .ref zC])), (zn, .inl (t 1, 5, .inl (fun _ => 0)))] := hD
  refine W.widen (k := 0) (n := 0) (Nat.le_of_ble_eq_true rfl) (Nat.le_of_ble_eq_true rfl) ?_
  obtain rfl : r_1 = 0 := h_2
  refine lv_if_eq (tgt := 33) hx hb dX12_isDraw_5 (by decide) (fun _ => ?_) (fun c_3 => absurd (by decide) c_3)
  refine lv_iconst (v := 0) hx hb dX12_isDraw_33 (by decide) ?_
  refine W.widen (k := 0) (n := 0) (by decide) (by decide) ?_
  exact rtZ hx hb hr hlocks hS rfl () (rfl) (hP.sub [0, 1] rfl) (hD.sub [0, 1] (by decide) rfl) dX12_isDraw_34

set_option maxHeartbeats 4000000 in
set_option maxRecDepth 100000 in
theorem c_mwhyNotSeen (l : Launch) (G : va_G) (t : Nat → ClassId) (z : Nat) (zw : Nat) (zm : Nat) (zc : Nat) (zv : Nat) (zt : Nat) (zn : Nat) (zh : Nat) (zp : Nat) (ze : Nat) (zs : Nat) (zg : Nat) (zk : Nat) (za : Nat) (zd : Nat) (zf : Nat) (zo : Nat) (zE : Nat) (zq : Nat) (zC : Nat) (a0 : Int32) : Ct l G t yX12_whyNotSeen cX12_whyNotSeen 3 (some .int) ({ frames := 2, cells := 0, slots := 0, locals := 45 }) [.ref z, .int a0] [(z, .inr (12, [.int 0, .ref zw, .ref zm, .ref zc, .ref zv, .ref zt, .int 0, .int 0, .int 0, .int 0, .int 0, .long 0, .int 0, .int 0, .int 0, .int (-1), .ref zn, .ref zh, .ref zp, .ref ze, .ref zs, .ref zg, .ref zk, .ref za, .ref zd, .ref zf, .ref zo, .ref zE, .ref zq, .int 0, .int 0, .int 0, .int 0, .int 0, .int 0, .ref zC])), (zn, .inl (t 1, 5, .inl (fun _ => 0)))] (QI G (fun r (u : Unit) => r = (-2)) (fun (u : Unit) => [(z, .inr (12, [.int 0, .ref zw, .ref zm, .ref zc, .ref zv, .ref zt, .int 0, .int 0, .int 0, .int 0, .int 0, .long 0, .int 0, .int 0, .int 0, .int (-1), .ref zn, .ref zh, .ref zp, .ref ze, .ref zs, .ref zg, .ref zk, .ref za, .ref zd, .ref zf, .ref zo, .ref zE, .ref zq, .int 0, .int 0, .int 0, .int 0, .int 0, .int 0, .ref zC])), (zn, .inl (t 1, 5, .inl (fun _ => 0)))])) := by
  refine ent (by decide) (Nat.le_of_ble_eq_true rfl) ?_
  intro p e s m args below meth c hx hb hr hml hts hown hlocks hin A hA hK hO hP hD hS ls hl
  have hown : s.vm.findClass RX12 = some m.cls := hown
  have hl : lv_has ls 3 [(0, .ref z), (1, .int a0)] := hl
  have C0 : Cx p s m args c cX12_whyNotSeen 3 RX12 G t := ⟨hx, hb, hml, hown, hts, hK, hO⟩
  refine lv_iload_n hx hb dX12_whyNotSeen_0 rfl (lv_at hl 1 rfl) ?_
  refine goI (rnS C0 (c_misSlot l G t a0) lkX12_83 ⟨by decide, by decide⟩ (hP.sub (ws' := []) [] rfl) (hD.sub (ws' := []) [] (by decide) rfl) rfl hl.1 (rest := []) rfl (Nat.le_of_ble_eq_true rfl) dX12_whyNotSeen_1 ⟨by decide, by decide⟩) hP hD hS hA [] [0, 1] (wr := [(z, .inr (12, [.int 0, .ref zw, .ref zm, .ref zc, .ref zv, .ref zt, .int 0, .int 0, .int 0, .int 0, .int 0, .long 0, .int 0, .int 0, .int 0, .int (-1), .ref zn, .ref zh, .ref zp, .ref ze, .ref zs, .ref zg, .ref zk, .ref za, .ref zd, .ref zf, .ref zo, .ref zE, .ref zq, .int 0, .int 0, .int 0, .int 0, .int 0, .int 0, .ref zC])), (zn, .inl (t 1, 5, .inl (fun _ => 0)))]) rfl rfl (by decide) (by decide) (fun r_1 u H locs h_2 hP hD hS => ?_)
  have hP : va_P G vwCl [(z, .inr (12, [.int 0, .ref zw, .ref zm, .ref zc, .ref zv, .ref zt, .int 0, .int 0, .int 0, .int 0, .int 0, .long 0, .int 0, .int 0, .int 0, .int (-1), .ref zn, .ref zh, .ref zp, .ref ze, .ref zs, .ref zg, .ref zk, .ref za, .ref zd, .ref zf, .ref zo, .ref zE, .ref zq, .int 0, .int 0, .int 0, .int 0, .int 0, .int 0, .ref zC])), (zn, .inl (t 1, 5, .inl (fun _ => 0)))] H := hP
  have hD : va_D A [(z, .inr (12, [.int 0, .ref zw, .ref zm, .ref zc, .ref zv, .ref zt, .int 0, .int 0, .int 0, .int 0, .int 0, .long 0, .int 0, .int 0, .int 0, .int (-1), .ref zn, .ref zh, .ref zp, .ref ze, .ref zs, .ref zg, .ref zk, .ref za, .ref zd, .ref zf, .ref zo, .ref zE, .ref zq, .int 0, .int 0, .int 0, .int 0, .int 0, .int 0, .ref zC])), (zn, .inl (t 1, 5, .inl (fun _ => 0)))] := hD
  refine W.widen (k := 0) (n := 0) (Nat.le_of_ble_eq_true rfl) (Nat.le_of_ble_eq_true rfl) ?_
  have h_2 : (r_1 = 1 ∧ 0 ≤ a0.toInt ∧ a0.toInt ≤ 3) ∨ (r_1 = 0 ∧ ¬ (0 ≤ a0.toInt ∧ a0.toInt ≤ 3)) := h_2
  rcases h_2 with ⟨rfl, f_3⟩ | ⟨rfl, f_3⟩
  · refine lv_if_eq (tgt := 14) hx hb dX12_whyNotSeen_4 (by decide) (fun c_4 => absurd c_4 (by decide)) (fun _ => ?_)
    refine lv_aload_n hx hb dX12_whyNotSeen_7 rfl (lv_at hl 0 rfl) ?_
    refine goI (rnV C0 (c_misHall l G t z zw zm zc zv zt zn zh zp ze zs zg zk za zd zf zo zE zq zC) lkX12_237 ⟨by decide, by decide⟩ (hP.sub (ws' := [(z, .inr (12, [.int 0, .ref zw, .ref zm, .ref zc, .ref zv, .ref zt, .int 0, .int 0, .int 0, .int 0, .int 0, .long 0, .int 0, .int 0, .int 0, .int (-1), .ref zn, .ref zh, .ref zp, .ref ze, .ref zs, .ref zg, .ref zk, .ref za, .ref zd, .ref zf, .ref zo, .ref zE, .ref zq, .int 0, .int 0, .int 0, .int 0, .int 0, .int 0, .ref zC])), (zn, .inl (t 1, 5, .inl (fun _ => 0)))]) [0, 1] rfl) (hD.sub (ws' := [(z, .inr (12, [.int 0, .ref zw, .ref zm, .ref zc, .ref zv, .ref zt, .int 0, .int 0, .int 0, .int 0, .int 0, .long 0, .int 0, .int 0, .int 0, .int (-1), .ref zn, .ref zh, .ref zp, .ref ze, .ref zs, .ref zg, .ref zk, .ref za, .ref zd, .ref zf, .ref zo, .ref zE, .ref zq, .int 0, .int 0, .int 0, .int 0, .int 0, .int 0, .ref zC])), (zn, .inl (t 1, 5, .inl (fun _ => 0)))]) [0, 1] (by decide) rfl) 0 12 rfl rfl rfl rfl hl.1 (rest := []) rfl (Nat.le_of_ble_eq_true rfl) dX12_whyNotSeen_8 ⟨by decide, by decide⟩) hP hD hS hA [0, 1] [] (wr := []) rfl rfl (by decide) (by decide) (fun r_5 u H locs h_6 hP hD hS => ?_)
    have hP : va_P G vwCl [(z, .inr (12, [.int 0, .ref zw, .ref zm, .ref zc, .ref zv, .ref zt, .int 0, .int 0, .int 0, .int 0, .int 0, .long 0, .int 0, .int 0, .int 0, .int (-1), .ref zn, .ref zh, .ref zp, .ref ze, .ref zs, .ref zg, .ref zk, .ref za, .ref zd, .ref zf, .ref zo, .ref zE, .ref zq, .int 0, .int 0, .int 0, .int 0, .int 0, .int 0, .ref zC])), (zn, .inl (t 1, 5, .inl (fun _ => 0)))] H := hP
    have hD : va_D A [(z, .inr (12, [.int 0, .ref zw, .ref zm, .ref zc, .ref zv, .ref zt, .int 0, .int 0, .int 0, .int 0, .int 0, .long 0, .int 0, .int 0, .int 0, .int (-1), .ref zn, .ref zh, .ref zp, .ref ze, .ref zs, .ref zg, .ref zk, .ref za, .ref zd, .ref zf, .ref zo, .ref zE, .ref zq, .int 0, .int 0, .int 0, .int 0, .int 0, .int 0, .ref zC])), (zn, .inl (t 1, 5, .inl (fun _ => 0)))] := hD
    refine W.widen (k := 0) (n := 0) (Nat.le_of_ble_eq_true rfl) (Nat.le_of_ble_eq_true rfl) ?_
    obtain rfl : r_5 = 0 := h_6
    refine lv_if_ne (tgt := 17) hx hb dX12_whyNotSeen_11 (by decide) (fun c_7 => absurd (by decide) c_7) (fun _ => ?_)
    refine lv_bipush (v := (-2)) hx hb dX12_whyNotSeen_14 (by decide) ?_
    refine W.widen (k := 0) (n := 0) (by decide) (by decide) ?_
    exact rtI hx hb hr hlocks hS () (rfl) (hP.sub [0, 1] rfl) (hD.sub [0, 1] (by decide) rfl) dX12_whyNotSeen_16
  · refine lv_if_eq (tgt := 14) hx hb dX12_whyNotSeen_4 (by decide) (fun _ => ?_) (fun c_8 => absurd (by decide) c_8)
    refine lv_bipush (v := (-2)) hx hb dX12_whyNotSeen_14 (by decide) ?_
    refine W.widen (k := 0) (n := 0) (by decide) (by decide) ?_
    exact rtI hx hb hr hlocks hS () (rfl) (hP.sub [0, 1] rfl) (hD.sub [0, 1] (by decide) rfl) dX12_whyNotSeen_16

set_option maxHeartbeats 4000000 in
set_option maxRecDepth 100000 in
theorem c_mwhyNotFell (l : Launch) (G : va_G) (t : Nat → ClassId) (z : Nat) (zw : Nat) (zm : Nat) (zc : Nat) (zv : Nat) (zt : Nat) (zn : Nat) (zh : Nat) (zp : Nat) (ze : Nat) (zs : Nat) (zg : Nat) (zk : Nat) (za : Nat) (zd : Nat) (zf : Nat) (zo : Nat) (zE : Nat) (zq : Nat) (zC : Nat) (a0 : Int32) : Ct l G t yX12_whyNotFell cX12_whyNotFell 3 (some .int) ({ frames := 2, cells := 0, slots := 0, locals := 45 }) [.ref z, .int a0] [(z, .inr (12, [.int 0, .ref zw, .ref zm, .ref zc, .ref zv, .ref zt, .int 0, .int 0, .int 0, .int 0, .int 0, .long 0, .int 0, .int 0, .int 0, .int (-1), .ref zn, .ref zh, .ref zp, .ref ze, .ref zs, .ref zg, .ref zk, .ref za, .ref zd, .ref zf, .ref zo, .ref zE, .ref zq, .int 0, .int 0, .int 0, .int 0, .int 0, .int 0, .ref zC])), (zn, .inl (t 1, 5, .inl (fun _ => 0)))] (QI G (fun r (u : Unit) => r = (-2)) (fun (u : Unit) => [(z, .inr (12, [.int 0, .ref zw, .ref zm, .ref zc, .ref zv, .ref zt, .int 0, .int 0, .int 0, .int 0, .int 0, .long 0, .int 0, .int 0, .int 0, .int (-1), .ref zn, .ref zh, .ref zp, .ref ze, .ref zs, .ref zg, .ref zk, .ref za, .ref zd, .ref zf, .ref zo, .ref zE, .ref zq, .int 0, .int 0, .int 0, .int 0, .int 0, .int 0, .ref zC])), (zn, .inl (t 1, 5, .inl (fun _ => 0)))])) := by
  refine ent (by decide) (Nat.le_of_ble_eq_true rfl) ?_
  intro p e s m args below meth c hx hb hr hml hts hown hlocks hin A hA hK hO hP hD hS ls hl
  have hown : s.vm.findClass RX12 = some m.cls := hown
  have hl : lv_has ls 3 [(0, .ref z), (1, .int a0)] := hl
  have C0 : Cx p s m args c cX12_whyNotFell 3 RX12 G t := ⟨hx, hb, hml, hown, hts, hK, hO⟩
  refine lv_iload_n hx hb dX12_whyNotFell_0 rfl (lv_at hl 1 rfl) ?_
  refine goI (rnS C0 (c_misSlot l G t a0) lkX12_83 ⟨by decide, by decide⟩ (hP.sub (ws' := []) [] rfl) (hD.sub (ws' := []) [] (by decide) rfl) rfl hl.1 (rest := []) rfl (Nat.le_of_ble_eq_true rfl) dX12_whyNotFell_1 ⟨by decide, by decide⟩) hP hD hS hA [] [0, 1] (wr := [(z, .inr (12, [.int 0, .ref zw, .ref zm, .ref zc, .ref zv, .ref zt, .int 0, .int 0, .int 0, .int 0, .int 0, .long 0, .int 0, .int 0, .int 0, .int (-1), .ref zn, .ref zh, .ref zp, .ref ze, .ref zs, .ref zg, .ref zk, .ref za, .ref zd, .ref zf, .ref zo, .ref zE, .ref zq, .int 0, .int 0, .int 0, .int 0, .int 0, .int 0, .ref zC])), (zn, .inl (t 1, 5, .inl (fun _ => 0)))]) rfl rfl (by decide) (by decide) (fun r_1 u H locs h_2 hP hD hS => ?_)
  have hP : va_P G vwCl [(z, .inr (12, [.int 0, .ref zw, .ref zm, .ref zc, .ref zv, .ref zt, .int 0, .int 0, .int 0, .int 0, .int 0, .long 0, .int 0, .int 0, .int 0, .int (-1), .ref zn, .ref zh, .ref zp, .ref ze, .ref zs, .ref zg, .ref zk, .ref za, .ref zd, .ref zf, .ref zo, .ref zE, .ref zq, .int 0, .int 0, .int 0, .int 0, .int 0, .int 0, .ref zC])), (zn, .inl (t 1, 5, .inl (fun _ => 0)))] H := hP
  have hD : va_D A [(z, .inr (12, [.int 0, .ref zw, .ref zm, .ref zc, .ref zv, .ref zt, .int 0, .int 0, .int 0, .int 0, .int 0, .long 0, .int 0, .int 0, .int 0, .int (-1), .ref zn, .ref zh, .ref zp, .ref ze, .ref zs, .ref zg, .ref zk, .ref za, .ref zd, .ref zf, .ref zo, .ref zE, .ref zq, .int 0, .int 0, .int 0, .int 0, .int 0, .int 0, .ref zC])), (zn, .inl (t 1, 5, .inl (fun _ => 0)))] := hD
  refine W.widen (k := 0) (n := 0) (Nat.le_of_ble_eq_true rfl) (Nat.le_of_ble_eq_true rfl) ?_
  have h_2 : (r_1 = 1 ∧ 0 ≤ a0.toInt ∧ a0.toInt ≤ 3) ∨ (r_1 = 0 ∧ ¬ (0 ≤ a0.toInt ∧ a0.toInt ≤ 3)) := h_2
  rcases h_2 with ⟨rfl, f_3⟩ | ⟨rfl, f_3⟩
  · refine lv_if_eq (tgt := 14) hx hb dX12_whyNotFell_4 (by decide) (fun c_4 => absurd c_4 (by decide)) (fun _ => ?_)
    refine lv_aload_n hx hb dX12_whyNotFell_7 rfl (lv_at hl 0 rfl) ?_
    refine goI (rnV C0 (c_misHall l G t z zw zm zc zv zt zn zh zp ze zs zg zk za zd zf zo zE zq zC) lkX12_237 ⟨by decide, by decide⟩ (hP.sub (ws' := [(z, .inr (12, [.int 0, .ref zw, .ref zm, .ref zc, .ref zv, .ref zt, .int 0, .int 0, .int 0, .int 0, .int 0, .long 0, .int 0, .int 0, .int 0, .int (-1), .ref zn, .ref zh, .ref zp, .ref ze, .ref zs, .ref zg, .ref zk, .ref za, .ref zd, .ref zf, .ref zo, .ref zE, .ref zq, .int 0, .int 0, .int 0, .int 0, .int 0, .int 0, .ref zC])), (zn, .inl (t 1, 5, .inl (fun _ => 0)))]) [0, 1] rfl) (hD.sub (ws' := [(z, .inr (12, [.int 0, .ref zw, .ref zm, .ref zc, .ref zv, .ref zt, .int 0, .int 0, .int 0, .int 0, .int 0, .long 0, .int 0, .int 0, .int 0, .int (-1), .ref zn, .ref zh, .ref zp, .ref ze, .ref zs, .ref zg, .ref zk, .ref za, .ref zd, .ref zf, .ref zo, .ref zE, .ref zq, .int 0, .int 0, .int 0, .int 0, .int 0, .int 0, .ref zC])), (zn, .inl (t 1, 5, .inl (fun _ => 0)))]) [0, 1] (by decide) rfl) 0 12 rfl rfl rfl rfl hl.1 (rest := []) rfl (Nat.le_of_ble_eq_true rfl) dX12_whyNotFell_8 ⟨by decide, by decide⟩) hP hD hS hA [0, 1] [] (wr := []) rfl rfl (by decide) (by decide) (fun r_5 u H locs h_6 hP hD hS => ?_)
    have hP : va_P G vwCl [(z, .inr (12, [.int 0, .ref zw, .ref zm, .ref zc, .ref zv, .ref zt, .int 0, .int 0, .int 0, .int 0, .int 0, .long 0, .int 0, .int 0, .int 0, .int (-1), .ref zn, .ref zh, .ref zp, .ref ze, .ref zs, .ref zg, .ref zk, .ref za, .ref zd, .ref zf, .ref zo, .ref zE, .ref zq, .int 0, .int 0, .int 0, .int 0, .int 0, .int 0, .ref zC])), (zn, .inl (t 1, 5, .inl (fun _ => 0)))] H := hP
    have hD : va_D A [(z, .inr (12, [.int 0, .ref zw, .ref zm, .ref zc, .ref zv, .ref zt, .int 0, .int 0, .int 0, .int 0, .int 0, .long 0, .int 0, .int 0, .int 0, .int (-1), .ref zn, .ref zh, .ref zp, .ref ze, .ref zs, .ref zg, .ref zk, .ref za, .ref zd, .ref zf, .ref zo, .ref zE, .ref zq, .int 0, .int 0, .int 0, .int 0, .int 0, .int 0, .ref zC])), (zn, .inl (t 1, 5, .inl (fun _ => 0)))] := hD
    refine W.widen (k := 0) (n := 0) (Nat.le_of_ble_eq_true rfl) (Nat.le_of_ble_eq_true rfl) ?_
    obtain rfl : r_5 = 0 := h_6
    refine lv_if_ne (tgt := 17) hx hb dX12_whyNotFell_11 (by decide) (fun c_7 => absurd (by decide) c_7) (fun _ => ?_)
    refine lv_bipush (v := (-2)) hx hb dX12_whyNotFell_14 (by decide) ?_
    refine W.widen (k := 0) (n := 0) (by decide) (by decide) ?_
    exact rtI hx hb hr hlocks hS () (rfl) (hP.sub [0, 1] rfl) (hD.sub [0, 1] (by decide) rfl) dX12_whyNotFell_16
  · refine lv_if_eq (tgt := 14) hx hb dX12_whyNotFell_4 (by decide) (fun _ => ?_) (fun c_8 => absurd (by decide) c_8)
    refine lv_bipush (v := (-2)) hx hb dX12_whyNotFell_14 (by decide) ?_
    refine W.widen (k := 0) (n := 0) (by decide) (by decide) ?_
    exact rtI hx hb hr hlocks hS () (rfl) (hP.sub [0, 1] rfl) (hD.sub [0, 1] (by decide) rfl) dX12_whyNotFell_16

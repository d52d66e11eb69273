set_option maxHeartbeats 4000000 in
set_option maxRecDepth 100000 in
theorem m_in (l : Launch) (G : va_G) (t : Nat → ClassId) (v0 : Int64) (v1 : Int64) (v2 : Int64) : Ct l G t yX12_in cX12_in 6 (some .boolean) ({ frames := 0, cells := 0, slots := 0, locals := 0 }) [.long v0, .long v1, .long v2] [] (QI G (fun r (u : Unit) => ((r.toInt = 1 ∧ v1.toInt ≤ v0.toInt ∧ v0.toInt ≤ v2.toInt) ∨ (r.toInt = 0 ∧ ¬ (v1.toInt ≤ v0.toInt ∧ v0.toInt ≤ v2.toInt)))) (fun (u : Unit) => [])) := by
  refine ent (by decide) (Nat.le_of_ble_eq_true rfl) ?_
  intro p e s m args below meth c hx hb hr hml hts hown hlocks hin A hA hK hO hP hD hS ls hl
  have hown : s.vm.findClass RX12 = some m.cls := hown
  have hl : lv_has ls 6 [(0, .long v0), (2, .long v1), (4, .long v2)] := hl
  have C0 : Cx p s m args c cX12_in 6 RX12 G t := ⟨hx, hb, hml, hown, hts, hK, hO⟩
  refine lv_lload_n hx hb dX12_in_0 rfl (lv_at hl 0 rfl) ?_
  refine lv_lload_n hx hb dX12_in_1 rfl (lv_at hl 1 rfl) ?_
  refine bL_lt (tgt := 17) hx hb dX12_in_2 dX12_in_3 (by decide) v0.toInt v1.toInt rfl rfl (fun c_1 => ?_) (fun c_1 => ?_)
  · refine lv_iconst (v := 0) hx hb dX12_in_17 (by decide) ?_
    exact rtZ hx hb hr hlocks hS rfl () ((show ((0 : Int32).toInt = 1 ∧ v1.toInt ≤ v0.toInt ∧ v0.toInt ≤ v2.toInt) ∨ ((0 : Int32).toInt = 0 ∧ ¬ (v1.toInt ≤ v0.toInt ∧ v0.toInt ≤ v2.toInt)) from (by have : (0 : Int32).toInt = 0 := rfl; omega))) (hP.sub [] rfl) (hD.sub [] (by decide) rfl) dX12_in_18
  · refine lv_lload_n hx hb dX12_in_6 rfl (lv_at hl 0 rfl) ?_
    refine lv_lload hx hb dX12_in_7 (lv_at hl 2 rfl) ?_
    refine bL_gt (tgt := 17) hx hb dX12_in_9 dX12_in_10 (by decide) v0.toInt v2.toInt rfl rfl (fun c_2 => ?_) (fun c_2 => ?_)
    · refine lv_iconst (v := 0) hx hb dX12_in_17 (by decide) ?_
      exact rtZ hx hb hr hlocks hS rfl () ((show ((0 : Int32).toInt = 1 ∧ v1.toInt ≤ v0.toInt ∧ v0.toInt ≤ v2.toInt) ∨ ((0 : Int32).toInt = 0 ∧ ¬ (v1.toInt ≤ v0.toInt ∧ v0.toInt ≤ v2.toInt)) from (by have : (0 : Int32).toInt = 0 := rfl; omega))) (hP.sub [] rfl) (hD.sub [] (by decide) rfl) dX12_in_18
    · refine lv_iconst (v := 1) hx hb dX12_in_13 (by decide) ?_
      refine lv_goto (tgt := 18) hx hb dX12_in_14 (by decide) ?_
      exact rtZ hx hb hr hlocks hS rfl () ((show ((1 : Int32).toInt = 1 ∧ v1.toInt ≤ v0.toInt ∧ v0.toInt ≤ v2.toInt) ∨ ((1 : Int32).toInt = 0 ∧ ¬ (v1.toInt ≤ v0.toInt ∧ v0.toInt ≤ v2.toInt)) from (by have : (1 : Int32).toInt = 1 := rfl; omega))) (hP.sub [] rfl) (hD.sub [] (by decide) rfl) dX12_in_18

set_option maxHeartbeats 4000000 in
set_option maxRecDepth 100000 in
theorem m_isSlot (l : Launch) (G : va_G) (t : Nat → ClassId) (a0 : Int32) : Ct l G t yX12_isSlot cX12_isSlot 1 (some .boolean) ({ frames := 1, cells := 0, slots := 0, locals := 25 }) [.int a0] [] (QI G (fun r (u : Unit) => ((r.toInt = 1 ∧ 0 ≤ a0.toInt ∧ a0.toInt ≤ 3) ∨ (r.toInt = 0 ∧ ¬ (0 ≤ a0.toInt ∧ a0.toInt ≤ 3)))) (fun (u : Unit) => [])) := by
  refine ent (by decide) (Nat.le_of_ble_eq_true rfl) ?_
  intro p e s m args below meth c hx hb hr hml hts hown hlocks hin A hA hK hO hP hD hS ls hl
  have hown : s.vm.findClass RX12 = some m.cls := hown
  have hl : lv_has ls 1 [(0, .int a0)] := hl
  have C0 : Cx p s m args c cX12_isSlot 1 RX12 G t := ⟨hx, hb, hml, hown, hts, hK, hO⟩
  have := zrng a0
  refine lv_iload_n hx hb dX12_isSlot_0 rfl (lv_at hl 0 rfl) ?_
  refine ilZ hx hb dX12_isSlot_1 a0.toInt rfl (fun v_1 zv_1 => ?_)
  refine lv_lconst (v := 0) hx hb dX12_isSlot_2 (by decide) ?_
  refine lv_ldc2 hx hb hown (hts _ tw6_101) dX12_isSlot_3 ?_
  refine goI (rnS C0 (m_in l G t v_1 (0 : Int64) (3 : Int64)) lkX12_79 ⟨by decide, by decide⟩ (hP.sub (ws' := []) [] rfl) (hD.sub (ws' := []) [] (by decide) rfl) rfl hl.1 (rest := []) rfl (Nat.le_of_ble_eq_true rfl) dX12_isSlot_6 ⟨by decide, by decide⟩) hP hD hS hA [] [] (wr := []) rfl rfl (by decide) (by decide) (fun r_2 u H locs h_3 hP hD hS => ?_)
  have : (0 : Int64).toInt = 0 := rfl
  have : (3 : Int64).toInt = 3 := rfl
  have h_3 : ((r_2.toInt = 1 ∧ (0 : Int64).toInt ≤ v_1.toInt ∧ v_1.toInt ≤ (3 : Int64).toInt) ∨ (r_2.toInt = 0 ∧ ¬ ((0 : Int64).toInt ≤ v_1.toInt ∧ v_1.toInt ≤ (3 : Int64).toInt))) := h_3
  have b_4 := h_3
  have hP : va_P G vwCl [] H := hP
  have hD : va_D A [] := hD
  refine W.widen (k := 0) (n := 0) (Nat.le_of_ble_eq_true rfl) (Nat.le_of_ble_eq_true rfl) ?_
  exact rtZ hx hb hr hlocks hS (zbool (by omega)) () ((show (r_2.toInt = 1 ∧ 0 ≤ a0.toInt ∧ a0.toInt ≤ 3) ∨ (r_2.toInt = 0 ∧ ¬ (0 ≤ a0.toInt ∧ a0.toInt ≤ 3)) from (by omega))) (hP.sub [] rfl) (hD.sub [] (by decide) rfl) dX12_isSlot_9

set_option maxHeartbeats 4000000 in
set_option maxRecDepth 100000 in
theorem m_cut (l : Launch) (G : va_G) (t : Nat → ClassId) (v0 : Int64) (b0 : Int32) : Ct l G t yX12_cut cX12_cut 3 (some .long) ({ frames := 0, cells := 0, slots := 0, locals := 0 }) [.long v0, .int b0] [] (QL G (fun r (u : Unit) => True) (fun (u : Unit) => [])) := by
  refine ent (by decide) (Nat.le_of_ble_eq_true rfl) ?_
  intro p e s m args below meth c hx hb hr hml hts hown hlocks hin A hA hK hO hP hD hS ls hl
  have hown : s.vm.findClass RX12 = some m.cls := hown
  have hl : lv_has ls 3 [(0, .long v0), (2, .int b0)] := hl
  have C0 : Cx p s m args c cX12_cut 3 RX12 G t := ⟨hx, hb, hml, hown, hts, hK, hO⟩
  have := zrng b0
  refine lv_iload_n hx hb dX12_cut_0 rfl (lv_at hl 1 rfl) ?_
  refine bF_ne (tgt := 11) hx hb dX12_cut_1 (by decide) b0.toInt rfl (fun c_1 => ?_) (fun c_1 => ?_)
  · refine lv_iload_n hx hb dX12_cut_11 rfl (lv_at hl 1 rfl) ?_
    refine lv_iconst (v := 1) hx hb dX12_cut_12 (by decide) ?_
    refine bI_ne (tgt := 23) hx hb dX12_cut_13 (by decide) b0.toInt 1 rfl rfl (fun c_2 => ?_) (fun c_2 => ?_)
    · refine lv_iload_n hx hb dX12_cut_23 rfl (lv_at hl 1 rfl) ?_
      refine lv_iconst (v := 2) hx hb dX12_cut_24 (by decide) ?_
      refine bI_ne (tgt := 34) hx hb dX12_cut_25 (by decide) b0.toInt 2 rfl rfl (fun c_3 => ?_) (fun c_3 => ?_)
      · refine lv_lload_n hx hb dX12_cut_34 rfl (lv_at hl 0 rfl) ?_
        exact rtL hx hb hr hlocks hS () (trivial) (hP.sub [] rfl) (hD.sub [] (by decide) rfl) dX12_cut_35
      · refine lv_lload_n hx hb dX12_cut_28 rfl (lv_at hl 0 rfl) ?_
        first | refine liZ hx hb dX12_cut_29 v0.toInt rfl (by omega) (fun v_4 zv_4 => ?_) | refine lv_l2i hx hb dX12_cut_29 rfl (gnI (fun v_4 => ?_))
        refine ilZ hx hb dX12_cut_30 v_4.toInt rfl (fun v_5 zv_5 => ?_)
        refine lv_goto (tgt := 35) hx hb dX12_cut_31 (by decide) ?_
        exact rtL hx hb hr hlocks hS () (trivial) (hP.sub [] rfl) (hD.sub [] (by decide) rfl) dX12_cut_35
    · refine lv_lload_n hx hb dX12_cut_16 rfl (lv_at hl 0 rfl) ?_
      first | refine liZ hx hb dX12_cut_17 v0.toInt rfl (by omega) (fun v_6 zv_6 => ?_) | refine lv_l2i hx hb dX12_cut_17 rfl (gnI (fun v_6 => ?_))
      refine lv_i2s hx hb dX12_cut_18 rfl (gnI (fun v_7 => ?_))
      refine ilZ hx hb dX12_cut_19 v_7.toInt rfl (fun v_8 zv_8 => ?_)
      refine lv_goto (tgt := 35) hx hb dX12_cut_20 (by decide) ?_
      exact rtL hx hb hr hlocks hS () (trivial) (hP.sub [] rfl) (hD.sub [] (by decide) rfl) dX12_cut_35
  · refine lv_lload_n hx hb dX12_cut_4 rfl (lv_at hl 0 rfl) ?_
    first | refine liZ hx hb dX12_cut_5 v0.toInt rfl (by omega) (fun v_9 zv_9 => ?_) | refine lv_l2i hx hb dX12_cut_5 rfl (gnI (fun v_9 => ?_))
    refine lv_i2b hx hb dX12_cut_6 rfl (gnI (fun v_10 => ?_))
    refine ilZ hx hb dX12_cut_7 v_10.toInt rfl (fun v_11 zv_11 => ?_)
    refine lv_goto (tgt := 35) hx hb dX12_cut_8 (by decide) ?_
    exact rtL hx hb hr hlocks hS () (trivial) (hP.sub [] rfl) (hD.sub [] (by decide) rfl) dX12_cut_35

set_option maxHeartbeats 4000000 in
set_option maxRecDepth 100000 in
theorem m_isHall (l : Launch) (G : va_G) (t : Nat → ClassId) (mm : Nat) (m_thrown : Int32) (p_width : Nat) (p_many : Nat) (p_cells : Nat) (p_moved : Nat) (p_tape : Nat) (m_taped : Int32) (m_at : Int32) (m_token : Int32) (m_place : Int32) (m_value : Int32) (m_word : Int64) (m_bad : Int32) (m_badPlace : Int32) (m_fault : Int32) (m_faultPlace : Int32) (p_lines : Nat) (p_has : Nat) (p_spot : Nat) (p_exit : Nat) (p_isSat : Nat) (p_change : Nat) (p_isKept : Nat) (p_at0 : Nat) (p_doors : Nat) (p_flow : Nat) (p_from : Nat) (p_edge : Nat) (p_queue : Nat) (m_minutes : Int32) (m_queued : Int32) (m_askLeaves : Int32) (m_blindBest : Int32) (m_claqueActs : Int32) (m_claquePlace : Int32) (p_comes : Nat) (f_lines : Nat → Int32) (h_m_taped : 0 ≤ m_taped.toInt ∧ m_taped.toInt ≤ 1400) (h_m_at : 0 ≤ m_at.toInt ∧ m_at.toInt ≤ 1400) (h_m_value : 0 ≤ m_value.toInt ∧ m_value.toInt ≤ 1000009) (h_m_minutes : 0 ≤ m_minutes.toInt ∧ m_minutes.toInt ≤ 20) : Ct l G t yX12_isHall cX12_isHall 1 (some .boolean) ({ frames := 0, cells := 0, slots := 0, locals := 0 }) [.ref mm] [(mm, .inr (12, [.int m_thrown, .ref p_width, .ref p_many, .ref p_cells, .ref p_moved, .ref p_tape, .int m_taped, .int m_at, .int m_token, .int m_place, .int m_value, .long m_word, .int m_bad, .int m_badPlace, .int m_fault, .int m_faultPlace, .ref p_lines, .ref p_has, .ref p_spot, .ref p_exit, .ref p_isSat, .ref p_change, .ref p_isKept, .ref p_at0, .ref p_doors, .ref p_flow, .ref p_from, .ref p_edge, .ref p_queue, .int m_minutes, .int m_queued, .int m_askLeaves, .int m_blindBest, .int m_claqueActs, .int m_claquePlace, .ref p_comes])), (p_lines, .inl (t 1, 5, .inl f_lines))] (QI G (fun r (u : Unit) => (r.toInt = 0 ∨ r.toInt = 1)) (fun (u : Unit) => [(mm, .inr (12, [.int m_thrown, .ref p_width, .ref p_many, .ref p_cells, .ref p_moved, .ref p_tape, .int m_taped, .int m_at, .int m_token, .int m_place, .int m_value, .long m_word, .int m_bad, .int m_badPlace, .int m_fault, .int m_faultPlace, .ref p_lines, .ref p_has, .ref p_spot, .ref p_exit, .ref p_isSat, .ref p_change, .ref p_isKept, .ref p_at0, .ref p_doors, .ref p_flow, .ref p_from, .ref p_edge, .ref p_queue, .int m_minutes, .int m_queued, .int m_askLeaves, .int m_blindBest, .int m_claqueActs, .int m_claquePlace, .ref p_comes])), (p_lines, .inl (t 1, 5, .inl f_lines))])) := by
  refine ent (by decide) (Nat.le_of_ble_eq_true rfl) ?_
  intro p e s m args below meth c hx hb hr hml hts hown hlocks hin A hA hK hO hP hD hS ls hl
  have hown : s.vm.findClass RX12 = some m.cls := hown
  have hl : lv_has ls 1 [(0, .ref mm)] := hl
  have C0 : Cx p s m args c cX12_isHall 1 RX12 G t := ⟨hx, hb, hml, hown, hts, hK, hO⟩
  refine lv_aload_n hx hb dX12_isHall_0 rfl (lv_at hl 0 rfl) ?_
  refine gf hx hb hts hown hK hP 0 inT12 rfl rfl 16 (by decide) tw6_1 rfl dX12_isHall_1 ?_
  refine lv_iconst (v := 0) hx hb dX12_isHall_4 (by decide) ?_
  refine laI hx hb hK hP 1 rfl 0 rfl (by decide) dX12_isHall_5 (fun v_1 ev_1 => ?_)
  have yv_1 : v_1.toInt = (f_lines 0).toInt := by rw [ev_1]; rfl
  refine bF_le (tgt := 13) hx hb dX12_isHall_6 (by decide) v_1.toInt rfl (fun c_2 => ?_) (fun c_2 => ?_)
  · refine lv_iconst (v := 0) hx hb dX12_isHall_13 (by decide) ?_
    exact rtZ hx hb hr hlocks hS rfl () ((show (0 : Int32).toInt = 0 ∨ (0 : Int32).toInt = 1 from (by have : (0 : Int32).toInt = 0 := rfl; omega))) (hP.sub [0, 1] rfl) (hD.sub [0, 1] (by decide) rfl) dX12_isHall_14
  · refine lv_iconst (v := 1) hx hb dX12_isHall_9 (by decide) ?_
    refine lv_goto (tgt := 14) hx hb dX12_isHall_10 (by decide) ?_
    exact rtZ hx hb hr hlocks hS rfl () ((show (1 : Int32).toInt = 0 ∨ (1 : Int32).toInt = 1 from (by have : (1 : Int32).toInt = 1 := rfl; omega))) (hP.sub [0, 1] rfl) (hD.sub [0, 1] (by decide) rfl) dX12_isHall_14

set_option maxHeartbeats 4000000 in
set_option maxRecDepth 100000 in
theorem m_isRow (l : Launch) (G : va_G) (t : Nat → ClassId) (mm : Nat) (v0 : Int64) (m_thrown : Int32) (p_width : Nat) (p_many : Nat) (p_cells : Nat) (p_moved : Nat) (p_tape : Nat) (m_taped : Int32) (m_at : Int32) (m_token : Int32) (m_place : Int32) (m_value : Int32) (m_word : Int64) (m_bad : Int32) (m_badPlace : Int32) (m_fault : Int32) (m_faultPlace : Int32) (p_lines : Nat) (p_has : Nat) (p_spot : Nat) (p_exit : Nat) (p_isSat : Nat) (p_change : Nat) (p_isKept : Nat) (p_at0 : Nat) (p_doors : Nat) (p_flow : Nat) (p_from : Nat) (p_edge : Nat) (p_queue : Nat) (m_minutes : Int32) (m_queued : Int32) (m_askLeaves : Int32) (m_blindBest : Int32) (m_claqueActs : Int32) (m_claquePlace : Int32) (p_comes : Nat) (f_has : Nat → Int32) (h_m_taped : 0 ≤ m_taped.toInt ∧ m_taped.toInt ≤ 1400) (h_m_at : 0 ≤ m_at.toInt ∧ m_at.toInt ≤ 1400) (h_m_value : 0 ≤ m_value.toInt ∧ m_value.toInt ≤ 1000009) (h_m_minutes : 0 ≤ m_minutes.toInt ∧ m_minutes.toInt ≤ 20) (h_f_has : Rp (fun i v => 0 ≤ v ∧ (i % 6 = 0 → v ≤ 6) ∧ (i % 6 = 1 → v ≤ 6) ∧ (i % 6 = 3 → v ≤ 9) ∧ (i % 6 = 4 → v ≤ 7) ∧ (i % 6 = 5 → v ≤ 40)) 30 f_has) : Ct l G t yX12_isRow cX12_isRow 3 (some .boolean) ({ frames := 1, cells := 0, slots := 0, locals := 25 }) [.ref mm, .long v0] [(mm, .inr (12, [.int m_thrown, .ref p_width, .ref p_many, .ref p_cells, .ref p_moved, .ref p_tape, .int m_taped, .int m_at, .int m_token, .int m_place, .int m_value, .long m_word, .int m_bad, .int m_badPlace, .int m_fault, .int m_faultPlace, .ref p_lines, .ref p_has, .ref p_spot, .ref p_exit, .ref p_isSat, .ref p_change, .ref p_isKept, .ref p_at0, .ref p_doors, .ref p_flow, .ref p_from, .ref p_edge, .ref p_queue, .int m_minutes, .int m_queued, .int m_askLeaves, .int m_blindBest, .int m_claqueActs, .int m_claquePlace, .ref p_comes])), (p_has, .inl (t 1, 30, .inl f_has))] (QI G (fun r (u : Unit) => (r.toInt = 0 ∨ (r.toInt = 1 ∧ 0 ≤ v0.toInt ∧ v0.toInt < (f_has 0).toInt ∧ v0.toInt ≤ 5))) (fun (u : Unit) => [(mm, .inr (12, [.int m_thrown, .ref p_width, .ref p_many, .ref p_cells, .ref p_moved, .ref p_tape, .int m_taped, .int m_at, .int m_token, .int m_place, .int m_value, .long m_word, .int m_bad, .int m_badPlace, .int m_fault, .int m_faultPlace, .ref p_lines, .ref p_has, .ref p_spot, .ref p_exit, .ref p_isSat, .ref p_change, .ref p_isKept, .ref p_at0, .ref p_doors, .ref p_flow, .ref p_from, .ref p_edge, .ref p_queue, .int m_minutes, .int m_queued, .int m_askLeaves, .int m_blindBest, .int m_claqueActs, .int m_claquePlace, .ref p_comes])), (p_has, .inl (t 1, 30, .inl f_has))])) := by
  refine ent (by decide) (Nat.le_of_ble_eq_true rfl) ?_
  intro p e s m args below meth c hx hb hr hml hts hown hlocks hin A hA hK hO hP hD hS ls hl
  have hown : s.vm.findClass RX12 = some m.cls := hown
  have hl : lv_has ls 3 [(0, .ref mm), (1, .long v0)] := hl
  have C0 : Cx p s m args c cX12_isRow 3 RX12 G t := ⟨hx, hb, hml, hown, hts, hK, hO⟩
  refine lv_lload_n hx hb dX12_isRow_0 rfl (lv_at hl 1 rfl) ?_
  refine lv_lconst (v := 0) hx hb dX12_isRow_1 (by decide) ?_
  refine lv_aload_n hx hb dX12_isRow_2 rfl (lv_at hl 0 rfl) ?_
  refine gf hx hb hts hown hK hP 0 inT12 rfl rfl 17 (by decide) tw6_2 rfl dX12_isRow_3 ?_
  refine lv_iconst (v := 0) hx hb dX12_isRow_6 (by decide) ?_
  refine lpI hx hb hK hP 1 h_f_has rfl 0 rfl (by decide) dX12_isRow_7 (fun v_1 ev_1 zv_1 => ?_)
  try dsimp only at zv_1
  have yv_1 : v_1.toInt = (f_has 0).toInt := by rw [ev_1]; rfl
  refine ilZ hx hb dX12_isRow_8 v_1.toInt rfl (fun v_2 zv_2 => ?_)
  refine lv_lconst (v := 1) hx hb dX12_isRow_9 (by decide) ?_
  first | refine lqsZ hx hb dX12_isRow_10 v_2.toInt 1 rfl rfl (by have := yrng v_2; omega) (fun v_3 zv_3 => ?_) | refine lv_lsub hx hb dX12_isRow_10 (gnL (fun v_3 => ?_))
  refine goI (rnS C0 (m_in l G t v0 (0 : Int64) v_3) lkX12_79 ⟨by decide, by decide⟩ (hP.sub (ws' := []) [] rfl) (hD.sub (ws' := []) [] (by decide) rfl) rfl hl.1 (rest := []) rfl (Nat.le_of_ble_eq_true rfl) dX12_isRow_11 ⟨by decide, by decide⟩) hP hD hS hA [] [0, 1] (wr := [(mm, .inr (12, [.int m_thrown, .ref p_width, .ref p_many, .ref p_cells, .ref p_moved, .ref p_tape, .int m_taped, .int m_at, .int m_token, .int m_place, .int m_value, .long m_word, .int m_bad, .int m_badPlace, .int m_fault, .int m_faultPlace, .ref p_lines, .ref p_has, .ref p_spot, .ref p_exit, .ref p_isSat, .ref p_change, .ref p_isKept, .ref p_at0, .ref p_doors, .ref p_flow, .ref p_from, .ref p_edge, .ref p_queue, .int m_minutes, .int m_queued, .int m_askLeaves, .int m_blindBest, .int m_claqueActs, .int m_claquePlace, .ref p_comes])), (p_has, .inl (t 1, 30, .inl f_has))]) rfl rfl (by decide) (by decide) (fun r_4 u H locs h_5 hP hD hS => ?_)
  have : (0 : Int64).toInt = 0 := rfl
  have h_5 : ((r_4.toInt = 1 ∧ (0 : Int64).toInt ≤ v0.toInt ∧ v0.toInt ≤ v_3.toInt) ∨ (r_4.toInt = 0 ∧ ¬ ((0 : Int64).toInt ≤ v0.toInt ∧ v0.toInt ≤ v_3.toInt))) := h_5
  have b_6 := h_5
  have hP : va_P G vwCl [(mm, .inr (12, [.int m_thrown, .ref p_width, .ref p_many, .ref p_cells, .ref p_moved, .ref p_tape, .int m_taped, .int m_at, .int m_token, .int m_place, .int m_value, .long m_word, .int m_bad, .int m_badPlace, .int m_fault, .int m_faultPlace, .ref p_lines, .ref p_has, .ref p_spot, .ref p_exit, .ref p_isSat, .ref p_change, .ref p_isKept, .ref p_at0, .ref p_doors, .ref p_flow, .ref p_from, .ref p_edge, .ref p_queue, .int m_minutes, .int m_queued, .int m_askLeaves, .int m_blindBest, .int m_claqueActs, .int m_claquePlace, .ref p_comes])), (p_has, .inl (t 1, 30, .inl f_has))] H := hP
  have hD : va_D A [(mm, .inr (12, [.int m_thrown, .ref p_width, .ref p_many, .ref p_cells, .ref p_moved, .ref p_tape, .int m_taped, .int m_at, .int m_token, .int m_place, .int m_value, .long m_word, .int m_bad, .int m_badPlace, .int m_fault, .int m_faultPlace, .ref p_lines, .ref p_has, .ref p_spot, .ref p_exit, .ref p_isSat, .ref p_change, .ref p_isKept, .ref p_at0, .ref p_doors, .ref p_flow, .ref p_from, .ref p_edge, .ref p_queue, .int m_minutes, .int m_queued, .int m_askLeaves, .int m_blindBest, .int m_claqueActs, .int m_claquePlace, .ref p_comes])), (p_has, .inl (t 1, 30, .inl f_has))] := hD
  refine W.widen (k := 0) (n := 0) (Nat.le_of_ble_eq_true rfl) (Nat.le_of_ble_eq_true rfl) ?_
  exact rtZ hx hb hr hlocks hS (zbool (by omega)) () ((show r_4.toInt = 0 ∨ (r_4.toInt = 1 ∧ 0 ≤ v0.toInt ∧ v0.toInt < (f_has 0).toInt ∧ v0.toInt ≤ 5) from (by have : (0 : Int32).toInt = 0 := rfl; omega))) (hP.sub [0, 1] rfl) (hD.sub [0, 1] (by decide) rfl) dX12_isRow_14

set_option maxHeartbeats 4000000 in
set_option maxRecDepth 100000 in
theorem m_isSeat (l : Launch) (G : va_G) (t : Nat → ClassId) (mm : Nat) (v0 : Int64) (v1 : Int64) (m_thrown : Int32) (p_width : Nat) (p_many : Nat) (p_cells : Nat) (p_moved : Nat) (p_tape : Nat) (m_taped : Int32) (m_at : Int32) (m_token : Int32) (m_place : Int32) (m_value : Int32) (m_word : Int64) (m_bad : Int32) (m_badPlace : Int32) (m_fault : Int32) (m_faultPlace : Int32) (p_lines : Nat) (p_has : Nat) (p_spot : Nat) (p_exit : Nat) (p_isSat : Nat) (p_change : Nat) (p_isKept : Nat) (p_at0 : Nat) (p_doors : Nat) (p_flow : Nat) (p_from : Nat) (p_edge : Nat) (p_queue : Nat) (m_minutes : Int32) (m_queued : Int32) (m_askLeaves : Int32) (m_blindBest : Int32) (m_claqueActs : Int32) (m_claquePlace : Int32) (p_comes : Nat) (f_has : Nat → Int32) (h_m_taped : 0 ≤ m_taped.toInt ∧ m_taped.toInt ≤ 1400) (h_m_at : 0 ≤ m_at.toInt ∧ m_at.toInt ≤ 1400) (h_m_value : 0 ≤ m_value.toInt ∧ m_value.toInt ≤ 1000009) (h_m_minutes : 0 ≤ m_minutes.toInt ∧ m_minutes.toInt ≤ 20) (h_f_has : Rp (fun i v => 0 ≤ v ∧ (i % 6 = 0 → v ≤ 6) ∧ (i % 6 = 1 → v ≤ 6) ∧ (i % 6 = 3 → v ≤ 9) ∧ (i % 6 = 4 → v ≤ 7) ∧ (i % 6 = 5 → v ≤ 40)) 30 f_has) : Ct l G t yX12_isSeat cX12_isSeat 5 (some .boolean) ({ frames := 2, cells := 0, slots := 0, locals := 47 }) [.ref mm, .long v0, .long v1] [(mm, .inr (12, [.int m_thrown, .ref p_width, .ref p_many, .ref p_cells, .ref p_moved, .ref p_tape, .int m_taped, .int m_at, .int m_token, .int m_place, .int m_value, .long m_word, .int m_bad, .int m_badPlace, .int m_fault, .int m_faultPlace, .ref p_lines, .ref p_has, .ref p_spot, .ref p_exit, .ref p_isSat, .ref p_change, .ref p_isKept, .ref p_at0, .ref p_doors, .ref p_flow, .ref p_from, .ref p_edge, .ref p_queue, .int m_minutes, .int m_queued, .int m_askLeaves, .int m_blindBest, .int m_claqueActs, .int m_claquePlace, .ref p_comes])), (p_has, .inl (t 1, 30, .inl f_has))] (QI G (fun r (u : Unit) => (r.toInt = 0 ∨ (r.toInt = 1 ∧ 0 ≤ v0.toInt ∧ v0.toInt < (f_has 0).toInt ∧ v0.toInt ≤ 5 ∧ 0 ≤ v1.toInt ∧ v1.toInt < (f_has 1).toInt ∧ v1.toInt ≤ 5))) (fun (u : Unit) => [(mm, .inr (12, [.int m_thrown, .ref p_width, .ref p_many, .ref p_cells, .ref p_moved, .ref p_tape, .int m_taped, .int m_at, .int m_token, .int m_place, .int m_value, .long m_word, .int m_bad, .int m_badPlace, .int m_fault, .int m_faultPlace, .ref p_lines, .ref p_has, .ref p_spot, .ref p_exit, .ref p_isSat, .ref p_change, .ref p_isKept, .ref p_at0, .ref p_doors, .ref p_flow, .ref p_from, .ref p_edge, .ref p_queue, .int m_minutes, .int m_queued, .int m_askLeaves, .int m_blindBest, .int m_claqueActs, .int m_claquePlace, .ref p_comes])), (p_has, .inl (t 1, 30, .inl f_has))])) := by
  refine ent (by decide) (Nat.le_of_ble_eq_true rfl) ?_
  intro p e s m args below meth c hx hb hr hml hts hown hlocks hin A hA hK hO hP hD hS ls hl
  have hown : s.vm.findClass RX12 = some m.cls := hown
  have hl : lv_has ls 5 [(0, .ref mm), (1, .long v0), (3, .long v1)] := hl
  have C0 : Cx p s m args c cX12_isSeat 5 RX12 G t := ⟨hx, hb, hml, hown, hts, hK, hO⟩
  refine lv_aload_n hx hb dX12_isSeat_0 rfl (lv_at hl 0 rfl) ?_
  refine lv_lload_n hx hb dX12_isSeat_1 rfl (lv_at hl 1 rfl) ?_
  refine goI (rnV C0 (m_isRow l G t mm v0 m_thrown p_width p_many p_cells p_moved p_tape m_taped m_at m_token m_place m_value m_word m_bad m_badPlace m_fault m_faultPlace p_lines p_has p_spot p_exit p_isSat p_change p_isKept p_at0 p_doors p_flow p_from p_edge p_queue m_minutes m_queued m_askLeaves m_blindBest m_claqueActs m_claquePlace p_comes f_has (by omega) (by omega) (by omega) (by omega) h_f_has) lkX12_234 ⟨by decide, by decide⟩ (hP.sub (ws' := [(mm, .inr (12, [.int m_thrown, .ref p_width, .ref p_many, .ref p_cells, .ref p_moved, .ref p_tape, .int m_taped, .int m_at, .int m_token, .int m_place, .int m_value, .long m_word, .int m_bad, .int m_badPlace, .int m_fault, .int m_faultPlace, .ref p_lines, .ref p_has, .ref p_spot, .ref p_exit, .ref p_isSat, .ref p_change, .ref p_isKept, .ref p_at0, .ref p_doors, .ref p_flow, .ref p_from, .ref p_edge, .ref p_queue, .int m_minutes, .int m_queued, .int m_askLeaves, .int m_blindBest, .int m_claqueActs, .int m_claquePlace, .ref p_comes])), (p_has, .inl (t 1, 30, .inl f_has))]) [0, 1] rfl) (hD.sub (ws' := [(mm, .inr (12, [.int m_thrown, .ref p_width, .ref p_many, .ref p_cells, .ref p_moved, .ref p_tape, .int m_taped, .int m_at, .int m_token, .int m_place, .int m_value, .long m_word, .int m_bad, .int m_badPlace, .int m_fault, .int m_faultPlace, .ref p_lines, .ref p_has, .ref p_spot, .ref p_exit, .ref p_isSat, .ref p_change, .ref p_isKept, .ref p_at0, .ref p_doors, .ref p_flow, .ref p_from, .ref p_edge, .ref p_queue, .int m_minutes, .int m_queued, .int m_askLeaves, .int m_blindBest, .int m_claqueActs, .int m_claquePlace, .ref p_comes])), (p_has, .inl (t 1, 30, .inl f_has))]) [0, 1] (by decide) rfl) 0 12 rfl rfl rfl rfl hl.1 (rest := []) rfl (Nat.le_of_ble_eq_true rfl) dX12_isSeat_2 ⟨by decide, by decide⟩) hP hD hS hA [0, 1] [] (wr := []) rfl rfl (by decide) (by decide) (fun r_1 u H locs h_2 hP hD hS => ?_)
  have : (0 : Int32).toInt = 0 := rfl
  have h_2 : (r_1.toInt = 0 ∨ (r_1.toInt = 1 ∧ 0 ≤ v0.toInt ∧ v0.toInt < (f_has 0).toInt ∧ v0.toInt ≤ 5)) := h_2
  have b_3 := h_2
  have hP : va_P G vwCl [(mm, .inr (12, [.int m_thrown, .ref p_width, .ref p_many, .ref p_cells, .ref p_moved, .ref p_tape, .int m_taped, .int m_at, .int m_token, .int m_place, .int m_value, .long m_word, .int m_bad, .int m_badPlace, .int m_fault, .int m_faultPlace, .ref p_lines, .ref p_has, .ref p_spot, .ref p_exit, .ref p_isSat, .ref p_change, .ref p_isKept, .ref p_at0, .ref p_doors, .ref p_flow, .ref p_from, .ref p_edge, .ref p_queue, .int m_minutes, .int m_queued, .int m_askLeaves, .int m_blindBest, .int m_claqueActs, .int m_claquePlace, .ref p_comes])), (p_has, .inl (t 1, 30, .inl f_has))] H := hP
  have hD : va_D A [(mm, .inr (12, [.int m_thrown, .ref p_width, .ref p_many, .ref p_cells, .ref p_moved, .ref p_tape, .int m_taped, .int m_at, .int m_token, .int m_place, .int m_value, .long m_word, .int m_bad, .int m_badPlace, .int m_fault, .int m_faultPlace, .ref p_lines, .ref p_has, .ref p_spot, .ref p_exit, .ref p_isSat, .ref p_change, .ref p_isKept, .ref p_at0, .ref p_doors, .ref p_flow, .ref p_from, .ref p_edge, .ref p_queue, .int m_minutes, .int m_queued, .int m_askLeaves, .int m_blindBest, .int m_claqueActs, .int m_claquePlace, .ref p_comes])), (p_has, .inl (t 1, 30, .inl f_has))] := hD
  refine W.widen (k := 0) (n := 0) (Nat.le_of_ble_eq_true rfl) (Nat.le_of_ble_eq_true rfl) ?_
  refine bF_eq (tgt := 29) hx hb dX12_isSeat_5 (by decide) r_1.toInt rfl (fun c_4 => ?_) (fun c_4 => ?_)
  · refine lv_iconst (v := 0) hx hb dX12_isSeat_29 (by decide) ?_
    exact rtZ hx hb hr hlocks hS rfl () ((show (0 : Int32).toInt = 0 ∨ ((0 : Int32).toInt = 1 ∧ 0 ≤ v0.toInt ∧ v0.toInt < (f_has 0).toInt ∧ v0.toInt ≤ 5 ∧ 0 ≤ v1.toInt ∧ v1.toInt < (f_has 1).toInt ∧ v1.toInt ≤ 5) from (by have : (0 : Int32).toInt = 0 := rfl; have : (1 : Int32).toInt = 1 := rfl; omega))) (hP.sub [0, 1] rfl) (hD.sub [0, 1] (by decide) rfl) dX12_isSeat_30
  · refine lv_lload_n hx hb dX12_isSeat_8 rfl (lv_at hl 2 rfl) ?_
    refine lv_lconst (v := 0) hx hb dX12_isSeat_9 (by decide) ?_
    refine lv_aload_n hx hb dX12_isSeat_10 rfl (lv_at hl 0 rfl) ?_
    refine gf hx hb hts hown hK hP 0 inT12 rfl rfl 17 (by decide) tw6_2 rfl dX12_isSeat_11 ?_
    refine lv_iconst (v := 1) hx hb dX12_isSeat_14 (by decide) ?_
    refine lpI hx hb hK hP 1 h_f_has rfl 1 rfl (by decide) dX12_isSeat_15 (fun v_5 ev_5 zv_5 => ?_)
    try dsimp only at zv_5
    have yv_5 : v_5.toInt = (f_has 1).toInt := by rw [ev_5]; rfl
    refine ilZ hx hb dX12_isSeat_16 v_5.toInt rfl (fun v_6 zv_6 => ?_)
    refine lv_lconst (v := 1) hx hb dX12_isSeat_17 (by decide) ?_
    first | refine lqsZ hx hb dX12_isSeat_18 v_6.toInt 1 rfl rfl (by have := yrng v_6; omega) (fun v_7 zv_7 => ?_) | refine lv_lsub hx hb dX12_isSeat_18 (gnL (fun v_7 => ?_))
    refine goI (rnS C0 (m_in l G t v1 (0 : Int64) v_7) lkX12_79 ⟨by decide, by decide⟩ (hP.sub (ws' := []) [] rfl) (hD.sub (ws' := []) [] (by decide) rfl) rfl hl.1 (rest := []) rfl (Nat.le_of_ble_eq_true rfl) dX12_isSeat_19 ⟨by decide, by decide⟩) hP hD hS hA [] [0, 1] (wr := [(mm, .inr (12, [.int m_thrown, .ref p_width, .ref p_many, .ref p_cells, .ref p_moved, .ref p_tape, .int m_taped, .int m_at, .int m_token, .int m_place, .int m_value, .long m_word, .int m_bad, .int m_badPlace, .int m_fault, .int m_faultPlace, .ref p_lines, .ref p_has, .ref p_spot, .ref p_exit, .ref p_isSat, .ref p_change, .ref p_isKept, .ref p_at0, .ref p_doors, .ref p_flow, .ref p_from, .ref p_edge, .ref p_queue, .int m_minutes, .int m_queued, .int m_askLeaves, .int m_blindBest, .int m_claqueActs, .int m_claquePlace, .ref p_comes])), (p_has, .inl (t 1, 30, .inl f_has))]) rfl rfl (by decide) (by decide) (fun r_8 u H locs h_9 hP hD hS => ?_)
    have : (0 : Int64).toInt = 0 := rfl
    have h_9 : ((r_8.toInt = 1 ∧ (0 : Int64).toInt ≤ v1.toInt ∧ v1.toInt ≤ v_7.toInt) ∨ (r_8.toInt = 0 ∧ ¬ ((0 : Int64).toInt ≤ v1.toInt ∧ v1.toInt ≤ v_7.toInt))) := h_9
    have b_10 := h_9
    have hP : va_P G vwCl [(mm, .inr (12, [.int m_thrown, .ref p_width, .ref p_many, .ref p_cells, .ref p_moved, .ref p_tape, .int m_taped, .int m_at, .int m_token, .int m_place, .int m_value, .long m_word, .int m_bad, .int m_badPlace, .int m_fault, .int m_faultPlace, .ref p_lines, .ref p_has, .ref p_spot, .ref p_exit, .ref p_isSat, .ref p_change, .ref p_isKept, .ref p_at0, .ref p_doors, .ref p_flow, .ref p_from, .ref p_edge, .ref p_queue, .int m_minutes, .int m_queued, .int m_askLeaves, .int m_blindBest, .int m_claqueActs, .int m_claquePlace, .ref p_comes])), (p_has, .inl (t 1, 30, .inl f_has))] H := hP
    have hD : va_D A [(mm, .inr (12, [.int m_thrown, .ref p_width, .ref p_many, .ref p_cells, .ref p_moved, .ref p_tape, .int m_taped, .int m_at, .int m_token, .int m_place, .int m_value, .long m_word, .int m_bad, .int m_badPlace, .int m_fault, .int m_faultPlace, .ref p_lines, .ref p_has, .ref p_spot, .ref p_exit, .ref p_isSat, .ref p_change, .ref p_isKept, .ref p_at0, .ref p_doors, .ref p_flow, .ref p_from, .ref p_edge, .ref p_queue, .int m_minutes, .int m_queued, .int m_askLeaves, .int m_blindBest, .int m_claqueActs, .int m_claquePlace, .ref p_comes])), (p_has, .inl (t 1, 30, .inl f_has))] := hD
    refine W.widen (k := 0) (n := 0) (Nat.le_of_ble_eq_true rfl) (Nat.le_of_ble_eq_true rfl) ?_
    refine bF_eq (tgt := 29) hx hb dX12_isSeat_22 (by decide) r_8.toInt rfl (fun c_11 => ?_) (fun c_11 => ?_)
    · refine lv_iconst (v := 0) hx hb dX12_isSeat_29 (by decide) ?_
      exact rtZ hx hb hr hlocks hS rfl () ((show (0 : Int32).toInt = 0 ∨ ((0 : Int32).toInt = 1 ∧ 0 ≤ v0.toInt ∧ v0.toInt < (f_has 0).toInt ∧ v0.toInt ≤ 5 ∧ 0 ≤ v1.toInt ∧ v1.toInt < (f_has 1).toInt ∧ v1.toInt ≤ 5) from (by have : (0 : Int32).toInt = 0 := rfl; have : (1 : Int32).toInt = 1 := rfl; omega))) (hP.sub [0, 1] rfl) (hD.sub [0, 1] (by decide) rfl) dX12_isSeat_30
    · refine lv_iconst (v := 1) hx hb dX12_isSeat_25 (by decide) ?_
      refine lv_goto (tgt := 30) hx hb dX12_isSeat_26 (by decide) ?_
      exact rtZ hx hb hr hlocks hS rfl () ((show (1 : Int32).toInt = 0 ∨ ((1 : Int32).toInt = 1 ∧ 0 ≤ v0.toInt ∧ v0.toInt < (f_has 0).toInt ∧ v0.toInt ≤ 5 ∧ 0 ≤ v1.toInt ∧ v1.toInt < (f_has 1).toInt ∧ v1.toInt ≤ 5) from (by have : (0 : Int32).toInt = 0 := rfl; have : (1 : Int32).toInt = 1 := rfl; omega))) (hP.sub [0, 1] rfl) (hD.sub [0, 1] (by decide) rfl) dX12_isSeat_30

set_option maxHeartbeats 4000000 in
set_option maxRecDepth 100000 in
theorem m_isPlace (l : Launch) (G : va_G) (t : Nat → ClassId) (mm : Nat) (v0 : Int64) (m_thrown : Int32) (p_width : Nat) (p_many : Nat) (p_cells : Nat) (p_moved : Nat) (p_tape : Nat) (m_taped : Int32) (m_at : Int32) (m_token : Int32) (m_place : Int32) (m_value : Int32) (m_word : Int64) (m_bad : Int32) (m_badPlace : Int32) (m_fault : Int32) (m_faultPlace : Int32) (p_lines : Nat) (p_has : Nat) (p_spot : Nat) (p_exit : Nat) (p_isSat : Nat) (p_change : Nat) (p_isKept : Nat) (p_at0 : Nat) (p_doors : Nat) (p_flow : Nat) (p_from : Nat) (p_edge : Nat) (p_queue : Nat) (m_minutes : Int32) (m_queued : Int32) (m_askLeaves : Int32) (m_blindBest : Int32) (m_claqueActs : Int32) (m_claquePlace : Int32) (p_comes : Nat) (f_has : Nat → Int32) (h_m_taped : 0 ≤ m_taped.toInt ∧ m_taped.toInt ≤ 1400) (h_m_at : 0 ≤ m_at.toInt ∧ m_at.toInt ≤ 1400) (h_m_value : 0 ≤ m_value.toInt ∧ m_value.toInt ≤ 1000009) (h_m_minutes : 0 ≤ m_minutes.toInt ∧ m_minutes.toInt ≤ 20) (h_f_has : Rp (fun i v => 0 ≤ v ∧ (i % 6 = 0 → v ≤ 6) ∧ (i % 6 = 1 → v ≤ 6) ∧ (i % 6 = 3 → v ≤ 9) ∧ (i % 6 = 4 → v ≤ 7) ∧ (i % 6 = 5 → v ≤ 40)) 30 f_has) : Ct l G t yX12_isPlace cX12_isPlace 3 (some .boolean) ({ frames := 1, cells := 0, slots := 0, locals := 25 }) [.ref mm, .long v0] [(mm, .inr (12, [.int m_thrown, .ref p_width, .ref p_many, .ref p_cells, .ref p_moved, .ref p_tape, .int m_taped, .int m_at, .int m_token, .int m_place, .int m_value, .long m_word, .int m_bad, .int m_badPlace, .int m_fault, .int m_faultPlace, .ref p_lines, .ref p_has, .ref p_spot, .ref p_exit, .ref p_isSat, .ref p_change, .ref p_isKept, .ref p_at0, .ref p_doors, .ref p_flow, .ref p_from, .ref p_edge, .ref p_queue, .int m_minutes, .int m_queued, .int m_askLeaves, .int m_blindBest, .int m_claqueActs, .int m_claquePlace, .ref p_comes])), (p_has, .inl (t 1, 30, .inl f_has))] (QI G (fun r (u : Unit) => (r.toInt = 0 ∨ (r.toInt = 1 ∧ 0 ≤ v0.toInt ∧ v0.toInt < (f_has 3).toInt ∧ v0.toInt ≤ 8))) (fun (u : Unit) => [(mm, .inr (12, [.int m_thrown, .ref p_width, .ref p_many, .ref p_cells, .ref p_moved, .ref p_tape, .int m_taped, .int m_at, .int m_token, .int m_place, .int m_value, .long m_word, .int m_bad, .int m_badPlace, .int m_fault, .int m_faultPlace, .ref p_lines, .ref p_has, .ref p_spot, .ref p_exit, .ref p_isSat, .ref p_change, .ref p_isKept, .ref p_at0, .ref p_doors, .ref p_flow, .ref p_from, .ref p_edge, .ref p_queue, .int m_minutes, .int m_queued, .int m_askLeaves, .int m_blindBest, .int m_claqueActs, .int m_claquePlace, .ref p_comes])), (p_has, .inl (t 1, 30, .inl f_has))])) := by
  refine ent (by decide) (Nat.le_of_ble_eq_true rfl) ?_
  intro p e s m args below meth c hx hb hr hml hts hown hlocks hin A hA hK hO hP hD hS ls hl
  have hown : s.vm.findClass RX12 = some m.cls := hown
  have hl : lv_has ls 3 [(0, .ref mm), (1, .long v0)] := hl
  have C0 : Cx p s m args c cX12_isPlace 3 RX12 G t := ⟨hx, hb, hml, hown, hts, hK, hO⟩
  refine lv_lload_n hx hb dX12_isPlace_0 rfl (lv_at hl 1 rfl) ?_
  refine lv_lconst (v := 0) hx hb dX12_isPlace_1 (by decide) ?_
  refine lv_aload_n hx hb dX12_isPlace_2 rfl (lv_at hl 0 rfl) ?_
  refine gf hx hb hts hown hK hP 0 inT12 rfl rfl 17 (by decide) tw6_2 rfl dX12_isPlace_3 ?_
  refine lv_iconst (v := 3) hx hb dX12_isPlace_6 (by decide) ?_
  refine lpI hx hb hK hP 1 h_f_has rfl 3 rfl (by decide) dX12_isPlace_7 (fun v_1 ev_1 zv_1 => ?_)
  try dsimp only at zv_1
  have yv_1 : v_1.toInt = (f_has 3).toInt := by rw [ev_1]; rfl
  refine ilZ hx hb dX12_isPlace_8 v_1.toInt rfl (fun v_2 zv_2 => ?_)
  refine lv_lconst (v := 1) hx hb dX12_isPlace_9 (by decide) ?_
  first | refine lqsZ hx hb dX12_isPlace_10 v_2.toInt 1 rfl rfl (by have := yrng v_2; omega) (fun v_3 zv_3 => ?_) | refine lv_lsub hx hb dX12_isPlace_10 (gnL (fun v_3 => ?_))
  refine goI (rnS C0 (m_in l G t v0 (0 : Int64) v_3) lkX12_79 ⟨by decide, by decide⟩ (hP.sub (ws' := []) [] rfl) (hD.sub (ws' := []) [] (by decide) rfl) rfl hl.1 (rest := []) rfl (Nat.le_of_ble_eq_true rfl) dX12_isPlace_11 ⟨by decide, by decide⟩) hP hD hS hA [] [0, 1] (wr := [(mm, .inr (12, [.int m_thrown, .ref p_width, .ref p_many, .ref p_cells, .ref p_moved, .ref p_tape, .int m_taped, .int m_at, .int m_token, .int m_place, .int m_value, .long m_word, .int m_bad, .int m_badPlace, .int m_fault, .int m_faultPlace, .ref p_lines, .ref p_has, .ref p_spot, .ref p_exit, .ref p_isSat, .ref p_change, .ref p_isKept, .ref p_at0, .ref p_doors, .ref p_flow, .ref p_from, .ref p_edge, .ref p_queue, .int m_minutes, .int m_queued, .int m_askLeaves, .int m_blindBest, .int m_claqueActs, .int m_claquePlace, .ref p_comes])), (p_has, .inl (t 1, 30, .inl f_has))]) rfl rfl (by decide) (by decide) (fun r_4 u H locs h_5 hP hD hS => ?_)
  have : (0 : Int64).toInt = 0 := rfl
  have h_5 : ((r_4.toInt = 1 ∧ (0 : Int64).toInt ≤ v0.toInt ∧ v0.toInt ≤ v_3.toInt) ∨ (r_4.toInt = 0 ∧ ¬ ((0 : Int64).toInt ≤ v0.toInt ∧ v0.toInt ≤ v_3.toInt))) := h_5
  have b_6 := h_5
  have hP : va_P G vwCl [(mm, .inr (12, [.int m_thrown, .ref p_width, .ref p_many, .ref p_cells, .ref p_moved, .ref p_tape, .int m_taped, .int m_at, .int m_token, .int m_place, .int m_value, .long m_word, .int m_bad, .int m_badPlace, .int m_fault, .int m_faultPlace, .ref p_lines, .ref p_has, .ref p_spot, .ref p_exit, .ref p_isSat, .ref p_change, .ref p_isKept, .ref p_at0, .ref p_doors, .ref p_flow, .ref p_from, .ref p_edge, .ref p_queue, .int m_minutes, .int m_queued, .int m_askLeaves, .int m_blindBest, .int m_claqueActs, .int m_claquePlace, .ref p_comes])), (p_has, .inl (t 1, 30, .inl f_has))] H := hP
  have hD : va_D A [(mm, .inr (12, [.int m_thrown, .ref p_width, .ref p_many, .ref p_cells, .ref p_moved, .ref p_tape, .int m_taped, .int m_at, .int m_token, .int m_place, .int m_value, .long m_word, .int m_bad, .int m_badPlace, .int m_fault, .int m_faultPlace, .ref p_lines, .ref p_has, .ref p_spot, .ref p_exit, .ref p_isSat, .ref p_change, .ref p_isKept, .ref p_at0, .ref p_doors, .ref p_flow, .ref p_from, .ref p_edge, .ref p_queue, .int m_minutes, .int m_queued, .int m_askLeaves, .int m_blindBest, .int m_claqueActs, .int m_claquePlace, .ref p_comes])), (p_has, .inl (t 1, 30, .inl f_has))] := hD
  refine W.widen (k := 0) (n := 0) (Nat.le_of_ble_eq_true rfl) (Nat.le_of_ble_eq_true rfl) ?_
  exact rtZ hx hb hr hlocks hS (zbool (by omega)) () ((show r_4.toInt = 0 ∨ (r_4.toInt = 1 ∧ 0 ≤ v0.toInt ∧ v0.toInt < (f_has 3).toInt ∧ v0.toInt ≤ 8) from (by have : (3 : Int32).toInt = 3 := rfl; omega))) (hP.sub [0, 1] rfl) (hD.sub [0, 1] (by decide) rfl) dX12_isPlace_14

set_option maxHeartbeats 4000000 in
set_option maxRecDepth 100000 in
theorem m_isExit (l : Launch) (G : va_G) (t : Nat → ClassId) (mm : Nat) (v0 : Int64) (m_thrown : Int32) (p_width : Nat) (p_many : Nat) (p_cells : Nat) (p_moved : Nat) (p_tape : Nat) (m_taped : Int32) (m_at : Int32) (m_token : Int32) (m_place : Int32) (m_value : Int32) (m_word : Int64) (m_bad : Int32) (m_badPlace : Int32) (m_fault : Int32) (m_faultPlace : Int32) (p_lines : Nat) (p_has : Nat) (p_spot : Nat) (p_exit : Nat) (p_isSat : Nat) (p_change : Nat) (p_isKept : Nat) (p_at0 : Nat) (p_doors : Nat) (p_flow : Nat) (p_from : Nat) (p_edge : Nat) (p_queue : Nat) (m_minutes : Int32) (m_queued : Int32) (m_askLeaves : Int32) (m_blindBest : Int32) (m_claqueActs : Int32) (m_claquePlace : Int32) (p_comes : Nat) (f_has : Nat → Int32) (h_m_taped : 0 ≤ m_taped.toInt ∧ m_taped.toInt ≤ 1400) (h_m_at : 0 ≤ m_at.toInt ∧ m_at.toInt ≤ 1400) (h_m_value : 0 ≤ m_value.toInt ∧ m_value.toInt ≤ 1000009) (h_m_minutes : 0 ≤ m_minutes.toInt ∧ m_minutes.toInt ≤ 20) (h_f_has : Rp (fun i v => 0 ≤ v ∧ (i % 6 = 0 → v ≤ 6) ∧ (i % 6 = 1 → v ≤ 6) ∧ (i % 6 = 3 → v ≤ 9) ∧ (i % 6 = 4 → v ≤ 7) ∧ (i % 6 = 5 → v ≤ 40)) 30 f_has) : Ct l G t yX12_isExit cX12_isExit 3 (some .boolean) ({ frames := 1, cells := 0, slots := 0, locals := 25 }) [.ref mm, .long v0] [(mm, .inr (12, [.int m_thrown, .ref p_width, .ref p_many, .ref p_cells, .ref p_moved, .ref p_tape, .int m_taped, .int m_at, .int m_token, .int m_place, .int m_value, .long m_word, .int m_bad, .int m_badPlace, .int m_fault, .int m_faultPlace, .ref p_lines, .ref p_has, .ref p_spot, .ref p_exit, .ref p_isSat, .ref p_change, .ref p_isKept, .ref p_at0, .ref p_doors, .ref p_flow, .ref p_from, .ref p_edge, .ref p_queue, .int m_minutes, .int m_queued, .int m_askLeaves, .int m_blindBest, .int m_claqueActs, .int m_claquePlace, .ref p_comes])), (p_has, .inl (t 1, 30, .inl f_has))] (QI G (fun r (u : Unit) => (r.toInt = 0 ∨ (r.toInt = 1 ∧ 0 ≤ v0.toInt ∧ v0.toInt < (f_has 4).toInt ∧ v0.toInt ≤ 6))) (fun (u : Unit) => [(mm, .inr (12, [.int m_thrown, .ref p_width, .ref p_many, .ref p_cells, .ref p_moved, .ref p_tape, .int m_taped, .int m_at, .int m_token, .int m_place, .int m_value, .long m_word, .int m_bad, .int m_badPlace, .int m_fault, .int m_faultPlace, .ref p_lines, .ref p_has, .ref p_spot, .ref p_exit, .ref p_isSat, .ref p_change, .ref p_isKept, .ref p_at0, .ref p_doors, .ref p_flow, .ref p_from, .ref p_edge, .ref p_queue, .int m_minutes, .int m_queued, .int m_askLeaves, .int m_blindBest, .int m_claqueActs, .int m_claquePlace, .ref p_comes])), (p_has, .inl (t 1, 30, .inl f_has))])) := by
  refine ent (by decide) (Nat.le_of_ble_eq_true rfl) ?_
  intro p e s m args below meth c hx hb hr hml hts hown hlocks hin A hA hK hO hP hD hS ls hl
  have hown : s.vm.findClass RX12 = some m.cls := hown
  have hl : lv_has ls 3 [(0, .ref mm), (1, .long v0)] := hl
  have C0 : Cx p s m args c cX12_isExit 3 RX12 G t := ⟨hx, hb, hml, hown, hts, hK, hO⟩
  refine lv_lload_n hx hb dX12_isExit_0 rfl (lv_at hl 1 rfl) ?_
  refine lv_lconst (v := 0) hx hb dX12_isExit_1 (by decide) ?_
  refine lv_aload_n hx hb dX12_isExit_2 rfl (lv_at hl 0 rfl) ?_
  refine gf hx hb hts hown hK hP 0 inT12 rfl rfl 17 (by decide) tw6_2 rfl dX12_isExit_3 ?_
  refine lv_iconst (v := 4) hx hb dX12_isExit_6 (by decide) ?_
  refine lpI hx hb hK hP 1 h_f_has rfl 4 rfl (by decide) dX12_isExit_7 (fun v_1 ev_1 zv_1 => ?_)
  try dsimp only at zv_1
  have yv_1 : v_1.toInt = (f_has 4).toInt := by rw [ev_1]; rfl
  refine ilZ hx hb dX12_isExit_8 v_1.toInt rfl (fun v_2 zv_2 => ?_)
  refine lv_lconst (v := 1) hx hb dX12_isExit_9 (by decide) ?_
  first | refine lqsZ hx hb dX12_isExit_10 v_2.toInt 1 rfl rfl (by have := yrng v_2; omega) (fun v_3 zv_3 => ?_) | refine lv_lsub hx hb dX12_isExit_10 (gnL (fun v_3 => ?_))
  refine goI (rnS C0 (m_in l G t v0 (0 : Int64) v_3) lkX12_79 ⟨by decide, by decide⟩ (hP.sub (ws' := []) [] rfl) (hD.sub (ws' := []) [] (by decide) rfl) rfl hl.1 (rest := []) rfl (Nat.le_of_ble_eq_true rfl) dX12_isExit_11 ⟨by decide, by decide⟩) hP hD hS hA [] [0, 1] (wr := [(mm, .inr (12, [.int m_thrown, .ref p_width, .ref p_many, .ref p_cells, .ref p_moved, .ref p_tape, .int m_taped, .int m_at, .int m_token, .int m_place, .int m_value, .long m_word, .int m_bad, .int m_badPlace, .int m_fault, .int m_faultPlace, .ref p_lines, .ref p_has, .ref p_spot, .ref p_exit, .ref p_isSat, .ref p_change, .ref p_isKept, .ref p_at0, .ref p_doors, .ref p_flow, .ref p_from, .ref p_edge, .ref p_queue, .int m_minutes, .int m_queued, .int m_askLeaves, .int m_blindBest, .int m_claqueActs, .int m_claquePlace, .ref p_comes])), (p_has, .inl (t 1, 30, .inl f_has))]) rfl rfl (by decide) (by decide) (fun r_4 u H locs h_5 hP hD hS => ?_)
  have : (0 : Int64).toInt = 0 := rfl
  have h_5 : ((r_4.toInt = 1 ∧ (0 : Int64).toInt ≤ v0.toInt ∧ v0.toInt ≤ v_3.toInt) ∨ (r_4.toInt = 0 ∧ ¬ ((0 : Int64).toInt ≤ v0.toInt ∧ v0.toInt ≤ v_3.toInt))) := h_5
  have b_6 := h_5
  have hP : va_P G vwCl [(mm, .inr (12, [.int m_thrown, .ref p_width, .ref p_many, .ref p_cells, .ref p_moved, .ref p_tape, .int m_taped, .int m_at, .int m_token, .int m_place, .int m_value, .long m_word, .int m_bad, .int m_badPlace, .int m_fault, .int m_faultPlace, .ref p_lines, .ref p_has, .ref p_spot, .ref p_exit, .ref p_isSat, .ref p_change, .ref p_isKept, .ref p_at0, .ref p_doors, .ref p_flow, .ref p_from, .ref p_edge, .ref p_queue, .int m_minutes, .int m_queued, .int m_askLeaves, .int m_blindBest, .int m_claqueActs, .int m_claquePlace, .ref p_comes])), (p_has, .inl (t 1, 30, .inl f_has))] H := hP
  have hD : va_D A [(mm, .inr (12, [.int m_thrown, .ref p_width, .ref p_many, .ref p_cells, .ref p_moved, .ref p_tape, .int m_taped, .int m_at, .int m_token, .int m_place, .int m_value, .long m_word, .int m_bad, .int m_badPlace, .int m_fault, .int m_faultPlace, .ref p_lines, .ref p_has, .ref p_spot, .ref p_exit, .ref p_isSat, .ref p_change, .ref p_isKept, .ref p_at0, .ref p_doors, .ref p_flow, .ref p_from, .ref p_edge, .ref p_queue, .int m_minutes, .int m_queued, .int m_askLeaves, .int m_blindBest, .int m_claqueActs, .int m_claquePlace, .ref p_comes])), (p_has, .inl (t 1, 30, .inl f_has))] := hD
  refine W.widen (k := 0) (n := 0) (Nat.le_of_ble_eq_true rfl) (Nat.le_of_ble_eq_true rfl) ?_
  exact rtZ hx hb hr hlocks hS (zbool (by omega)) () ((show r_4.toInt = 0 ∨ (r_4.toInt = 1 ∧ 0 ≤ v0.toInt ∧ v0.toInt < (f_has 4).toInt ∧ v0.toInt ≤ 6) from (by have : (4 : Int32).toInt = 4 := rfl; omega))) (hP.sub [0, 1] rfl) (hD.sub [0, 1] (by decide) rfl) dX12_isExit_14

set_option maxHeartbeats 4000000 in
set_option maxRecDepth 100000 in
theorem m_isAct (l : Launch) (G : va_G) (t : Nat → ClassId) (mm : Nat) (a0 : Int32) (m_thrown : Int32) (p_width : Nat) (p_many : Nat) (p_cells : Nat) (p_moved : Nat) (p_tape : Nat) (m_taped : Int32) (m_at : Int32) (m_token : Int32) (m_place : Int32) (m_value : Int32) (m_word : Int64) (m_bad : Int32) (m_badPlace : Int32) (m_fault : Int32) (m_faultPlace : Int32) (p_lines : Nat) (p_has : Nat) (p_spot : Nat) (p_exit : Nat) (p_isSat : Nat) (p_change : Nat) (p_isKept : Nat) (p_at0 : Nat) (p_doors : Nat) (p_flow : Nat) (p_from : Nat) (p_edge : Nat) (p_queue : Nat) (m_minutes : Int32) (m_queued : Int32) (m_askLeaves : Int32) (m_blindBest : Int32) (m_claqueActs : Int32) (m_claquePlace : Int32) (p_comes : Nat) (f_lines : Nat → Int32) (h_m_taped : 0 ≤ m_taped.toInt ∧ m_taped.toInt ≤ 1400) (h_m_at : 0 ≤ m_at.toInt ∧ m_at.toInt ≤ 1400) (h_m_value : 0 ≤ m_value.toInt ∧ m_value.toInt ≤ 1000009) (h_m_minutes : 0 ≤ m_minutes.toInt ∧ m_minutes.toInt ≤ 20) : Ct l G t yX12_isAct cX12_isAct 2 (some .boolean) ({ frames := 1, cells := 0, slots := 0, locals := 25 }) [.ref mm, .int a0] [(mm, .inr (12, [.int m_thrown, .ref p_width, .ref p_many, .ref p_cells, .ref p_moved, .ref p_tape, .int m_taped, .int m_at, .int m_token, .int m_place, .int m_value, .long m_word, .int m_bad, .int m_badPlace, .int m_fault, .int m_faultPlace, .ref p_lines, .ref p_has, .ref p_spot, .ref p_exit, .ref p_isSat, .ref p_change, .ref p_isKept, .ref p_at0, .ref p_doors, .ref p_flow, .ref p_from, .ref p_edge, .ref p_queue, .int m_minutes, .int m_queued, .int m_askLeaves, .int m_blindBest, .int m_claqueActs, .int m_claquePlace, .ref p_comes])), (p_lines, .inl (t 1, 5, .inl f_lines))] (QI G (fun r (u : Unit) => (r.toInt = 0 ∨ (r.toInt = 1 ∧ 0 ≤ a0.toInt ∧ a0.toInt ≤ 59))) (fun (u : Unit) => [(mm, .inr (12, [.int m_thrown, .ref p_width, .ref p_many, .ref p_cells, .ref p_moved, .ref p_tape, .int m_taped, .int m_at, .int m_token, .int m_place, .int m_value, .long m_word, .int m_bad, .int m_badPlace, .int m_fault, .int m_faultPlace, .ref p_lines, .ref p_has, .ref p_spot, .ref p_exit, .ref p_isSat, .ref p_change, .ref p_isKept, .ref p_at0, .ref p_doors, .ref p_flow, .ref p_from, .ref p_edge, .ref p_queue, .int m_minutes, .int m_queued, .int m_askLeaves, .int m_blindBest, .int m_claqueActs, .int m_claquePlace, .ref p_comes])), (p_lines, .inl (t 1, 5, .inl f_lines))])) := by
  refine ent (by decide) (Nat.le_of_ble_eq_true rfl) ?_
  intro p e s m args below meth c hx hb hr hml hts hown hlocks hin A hA hK hO hP hD hS ls hl
  have hown : s.vm.findClass RX12 = some m.cls := hown
  have hl : lv_has ls 2 [(0, .ref mm), (1, .int a0)] := hl
  have C0 : Cx p s m args c cX12_isAct 2 RX12 G t := ⟨hx, hb, hml, hown, hts, hK, hO⟩
  have := zrng a0
  refine lv_aload_n hx hb dX12_isAct_0 rfl (lv_at hl 0 rfl) ?_
  refine goI (rnV C0 (m_isHall l G t mm m_thrown p_width p_many p_cells p_moved p_tape m_taped m_at m_token m_place m_value m_word m_bad m_badPlace m_fault m_faultPlace p_lines p_has p_spot p_exit p_isSat p_change p_isKept p_at0 p_doors p_flow p_from p_edge p_queue m_minutes m_queued m_askLeaves m_blindBest m_claqueActs m_claquePlace p_comes f_lines (by omega) (by omega) (by omega) (by omega)) lkX12_237 ⟨by decide, by decide⟩ (hP.sub (ws' := [(mm, .inr (12, [.int m_thrown, .ref p_width, .ref p_many, .ref p_cells, .ref p_moved, .ref p_tape, .int m_taped, .int m_at, .int m_token, .int m_place, .int m_value, .long m_word, .int m_bad, .int m_badPlace, .int m_fault, .int m_faultPlace, .ref p_lines, .ref p_has, .ref p_spot, .ref p_exit, .ref p_isSat, .ref p_change, .ref p_isKept, .ref p_at0, .ref p_doors, .ref p_flow, .ref p_from, .ref p_edge, .ref p_queue, .int m_minutes, .int m_queued, .int m_askLeaves, .int m_blindBest, .int m_claqueActs, .int m_claquePlace, .ref p_comes])), (p_lines, .inl (t 1, 5, .inl f_lines))]) [0, 1] rfl) (hD.sub (ws' := [(mm, .inr (12, [.int m_thrown, .ref p_width, .ref p_many, .ref p_cells, .ref p_moved, .ref p_tape, .int m_taped, .int m_at, .int m_token, .int m_place, .int m_value, .long m_word, .int m_bad, .int m_badPlace, .int m_fault, .int m_faultPlace, .ref p_lines, .ref p_has, .ref p_spot, .ref p_exit, .ref p_isSat, .ref p_change, .ref p_isKept, .ref p_at0, .ref p_doors, .ref p_flow, .ref p_from, .ref p_edge, .ref p_queue, .int m_minutes, .int m_queued, .int m_askLeaves, .int m_blindBest, .int m_claqueActs, .int m_claquePlace, .ref p_comes])), (p_lines, .inl (t 1, 5, .inl f_lines))]) [0, 1] (by decide) rfl) 0 12 rfl rfl rfl rfl hl.1 (rest := []) rfl (Nat.le_of_ble_eq_true rfl) dX12_isAct_1 ⟨by decide, by decide⟩) hP hD hS hA [0, 1] [] (wr := []) rfl rfl (by decide) (by decide) (fun r_1 u H locs h_2 hP hD hS => ?_)
  have h_2 : (r_1.toInt = 0 ∨ r_1.toInt = 1) := h_2
  have b_3 := h_2
  have hP : va_P G vwCl [(mm, .inr (12, [.int m_thrown, .ref p_width, .ref p_many, .ref p_cells, .ref p_moved, .ref p_tape, .int m_taped, .int m_at, .int m_token, .int m_place, .int m_value, .long m_word, .int m_bad, .int m_badPlace, .int m_fault, .int m_faultPlace, .ref p_lines, .ref p_has, .ref p_spot, .ref p_exit, .ref p_isSat, .ref p_change, .ref p_isKept, .ref p_at0, .ref p_doors, .ref p_flow, .ref p_from, .ref p_edge, .ref p_queue, .int m_minutes, .int m_queued, .int m_askLeaves, .int m_blindBest, .int m_claqueActs, .int m_claquePlace, .ref p_comes])), (p_lines, .inl (t 1, 5, .inl f_lines))] H := hP
  have hD : va_D A [(mm, .inr (12, [.int m_thrown, .ref p_width, .ref p_many, .ref p_cells, .ref p_moved, .ref p_tape, .int m_taped, .int m_at, .int m_token, .int m_place, .int m_value, .long m_word, .int m_bad, .int m_badPlace, .int m_fault, .int m_faultPlace, .ref p_lines, .ref p_has, .ref p_spot, .ref p_exit, .ref p_isSat, .ref p_change, .ref p_isKept, .ref p_at0, .ref p_doors, .ref p_flow, .ref p_from, .ref p_edge, .ref p_queue, .int m_minutes, .int m_queued, .int m_askLeaves, .int m_blindBest, .int m_claqueActs, .int m_claquePlace, .ref p_comes])), (p_lines, .inl (t 1, 5, .inl f_lines))] := hD
  refine W.widen (k := 0) (n := 0) (Nat.le_of_ble_eq_true rfl) (Nat.le_of_ble_eq_true rfl) ?_
  refine bF_eq (tgt := 23) hx hb dX12_isAct_4 (by decide) r_1.toInt rfl (fun c_4 => ?_) (fun c_4 => ?_)
  · refine lv_iconst (v := 0) hx hb dX12_isAct_23 (by decide) ?_
    exact rtZ hx hb hr hlocks hS rfl () ((show (0 : Int32).toInt = 0 ∨ ((0 : Int32).toInt = 1 ∧ 0 ≤ a0.toInt ∧ a0.toInt ≤ 59) from (by have : (0 : Int32).toInt = 0 := rfl; omega))) (hP.sub [0, 1] rfl) (hD.sub [0, 1] (by decide) rfl) dX12_isAct_24
  · refine lv_iload_n hx hb dX12_isAct_7 rfl (lv_at hl 1 rfl) ?_
    refine ilZ hx hb dX12_isAct_8 a0.toInt rfl (fun v_5 zv_5 => ?_)
    refine lv_lconst (v := 0) hx hb dX12_isAct_9 (by decide) ?_
    refine lv_ldc2 hx hb hown (hts _ tw7_51) dX12_isAct_10 ?_
    refine goI (rnS C0 (m_in l G t v_5 (0 : Int64) (59 : Int64)) lkX12_79 ⟨by decide, by decide⟩ (hP.sub (ws' := []) [] rfl) (hD.sub (ws' := []) [] (by decide) rfl) rfl hl.1 (rest := []) rfl (Nat.le_of_ble_eq_true rfl) dX12_isAct_13 ⟨by decide, by decide⟩) hP hD hS hA [] [0, 1] (wr := [(mm, .inr (12, [.int m_thrown, .ref p_width, .ref p_many, .ref p_cells, .ref p_moved, .ref p_tape, .int m_taped, .int m_at, .int m_token, .int m_place, .int m_value, .long m_word, .int m_bad, .int m_badPlace, .int m_fault, .int m_faultPlace, .ref p_lines, .ref p_has, .ref p_spot, .ref p_exit, .ref p_isSat, .ref p_change, .ref p_isKept, .ref p_at0, .ref p_doors, .ref p_flow, .ref p_from, .ref p_edge, .ref p_queue, .int m_minutes, .int m_queued, .int m_askLeaves, .int m_blindBest, .int m_claqueActs, .int m_claquePlace, .ref p_comes])), (p_lines, .inl (t 1, 5, .inl f_lines))]) rfl rfl (by decide) (by decide) (fun r_6 u H locs h_7 hP hD hS => ?_)
    have : (0 : Int64).toInt = 0 := rfl
    have : (59 : Int64).toInt = 59 := rfl
    have h_7 : ((r_6.toInt = 1 ∧ (0 : Int64).toInt ≤ v_5.toInt ∧ v_5.toInt ≤ (59 : Int64).toInt) ∨ (r_6.toInt = 0 ∧ ¬ ((0 : Int64).toInt ≤ v_5.toInt ∧ v_5.toInt ≤ (59 : Int64).toInt))) := h_7
    have b_8 := h_7
    have hP : va_P G vwCl [(mm, .inr (12, [.int m_thrown, .ref p_width, .ref p_many, .ref p_cells, .ref p_moved, .ref p_tape, .int m_taped, .int m_at, .int m_token, .int m_place, .int m_value, .long m_word, .int m_bad, .int m_badPlace, .int m_fault, .int m_faultPlace, .ref p_lines, .ref p_has, .ref p_spot, .ref p_exit, .ref p_isSat, .ref p_change, .ref p_isKept, .ref p_at0, .ref p_doors, .ref p_flow, .ref p_from, .ref p_edge, .ref p_queue, .int m_minutes, .int m_queued, .int m_askLeaves, .int m_blindBest, .int m_claqueActs, .int m_claquePlace, .ref p_comes])), (p_lines, .inl (t 1, 5, .inl f_lines))] H := hP
    have hD : va_D A [(mm, .inr (12, [.int m_thrown, .ref p_width, .ref p_many, .ref p_cells, .ref p_moved, .ref p_tape, .int m_taped, .int m_at, .int m_token, .int m_place, .int m_value, .long m_word, .int m_bad, .int m_badPlace, .int m_fault, .int m_faultPlace, .ref p_lines, .ref p_has, .ref p_spot, .ref p_exit, .ref p_isSat, .ref p_change, .ref p_isKept, .ref p_at0, .ref p_doors, .ref p_flow, .ref p_from, .ref p_edge, .ref p_queue, .int m_minutes, .int m_queued, .int m_askLeaves, .int m_blindBest, .int m_claqueActs, .int m_claquePlace, .ref p_comes])), (p_lines, .inl (t 1, 5, .inl f_lines))] := hD
    refine W.widen (k := 0) (n := 0) (Nat.le_of_ble_eq_true rfl) (Nat.le_of_ble_eq_true rfl) ?_
    refine bF_eq (tgt := 23) hx hb dX12_isAct_16 (by decide) r_6.toInt rfl (fun c_9 => ?_) (fun c_9 => ?_)
    · refine lv_iconst (v := 0) hx hb dX12_isAct_23 (by decide) ?_
      exact rtZ hx hb hr hlocks hS rfl () ((show (0 : Int32).toInt = 0 ∨ ((0 : Int32).toInt = 1 ∧ 0 ≤ a0.toInt ∧ a0.toInt ≤ 59) from (by have : (0 : Int32).toInt = 0 := rfl; omega))) (hP.sub [0, 1] rfl) (hD.sub [0, 1] (by decide) rfl) dX12_isAct_24
    · refine lv_iconst (v := 1) hx hb dX12_isAct_19 (by decide) ?_
      refine lv_goto (tgt := 24) hx hb dX12_isAct_20 (by decide) ?_
      exact rtZ hx hb hr hlocks hS rfl () ((show (1 : Int32).toInt = 0 ∨ ((1 : Int32).toInt = 1 ∧ 0 ≤ a0.toInt ∧ a0.toInt ≤ 59) from (by have : (1 : Int32).toInt = 1 := rfl; omega))) (hP.sub [0, 1] rfl) (hD.sub [0, 1] (by decide) rfl) dX12_isAct_24

set_option maxHeartbeats 4000000 in
set_option maxRecDepth 100000 in
theorem m_isBehind (l : Launch) (G : va_G) (t : Nat → ClassId) (v0 : Int64) : Ct l G t yX12_isBehind cX12_isBehind 2 (some .boolean) ({ frames := 1, cells := 0, slots := 0, locals := 25 }) [.long v0] [] (QI G (fun r (u : Unit) => (r.toInt = 0 ∨ (r.toInt = 1 ∧ 0 ≤ v0.toInt ∧ v0.toInt ≤ 4))) (fun (u : Unit) => [])) := by
  refine ent (by decide) (Nat.le_of_ble_eq_true rfl) ?_
  intro p e s m args below meth c hx hb hr hml hts hown hlocks hin A hA hK hO hP hD hS ls hl
  have hown : s.vm.findClass RX12 = some m.cls := hown
  have hl : lv_has ls 2 [(0, .long v0)] := hl
  have C0 : Cx p s m args c cX12_isBehind 2 RX12 G t := ⟨hx, hb, hml, hown, hts, hK, hO⟩
  refine lv_lload_n hx hb dX12_isBehind_0 rfl (lv_at hl 0 rfl) ?_
  refine lv_lconst (v := 0) hx hb dX12_isBehind_1 (by decide) ?_
  refine lv_ldc2 hx hb hown (hts _ tw7_95) dX12_isBehind_2 ?_
  refine goI (rnS C0 (m_in l G t v0 (0 : Int64) (4 : Int64)) lkX12_79 ⟨by decide, by decide⟩ (hP.sub (ws' := []) [] rfl) (hD.sub (ws' := []) [] (by decide) rfl) rfl hl.1 (rest := []) rfl (Nat.le_of_ble_eq_true rfl) dX12_isBehind_5 ⟨by decide, by decide⟩) hP hD hS hA [] [] (wr := []) rfl rfl (by decide) (by decide) (fun r_1 u H locs h_2 hP hD hS => ?_)
  have : (0 : Int64).toInt = 0 := rfl
  have : (4 : Int64).toInt = 4 := rfl
  have h_2 : ((r_1.toInt = 1 ∧ (0 : Int64).toInt ≤ v0.toInt ∧ v0.toInt ≤ (4 : Int64).toInt) ∨ (r_1.toInt = 0 ∧ ¬ ((0 : Int64).toInt ≤ v0.toInt ∧ v0.toInt ≤ (4 : Int64).toInt))) := h_2
  have b_3 := h_2
  have hP : va_P G vwCl [] H := hP
  have hD : va_D A [] := hD
  refine W.widen (k := 0) (n := 0) (Nat.le_of_ble_eq_true rfl) (Nat.le_of_ble_eq_true rfl) ?_
  exact rtZ hx hb hr hlocks hS (zbool (by omega)) () ((show r_1.toInt = 0 ∨ (r_1.toInt = 1 ∧ 0 ≤ v0.toInt ∧ v0.toInt ≤ 4) from (by omega))) (hP.sub [] rfl) (hD.sub [] (by decide) rfl) dX12_isBehind_8

set_option maxHeartbeats 4000000 in
set_option maxRecDepth 100000 in
theorem m_isBit (l : Launch) (G : va_G) (t : Nat → ClassId) (a0 : Int32) (b0 : Int32) : Ct l G t yX12_isBit cX12_isBit 2 (some .boolean) ({ frames := 0, cells := 0, slots := 0, locals := 0 }) [.int a0, .int b0] [] (QI G (fun r (u : Unit) => (r.toInt = 0 ∨ r.toInt = 1)) (fun (u : Unit) => [])) := by
  refine ent (by decide) (Nat.le_of_ble_eq_true rfl) ?_
  intro p e s m args below meth c hx hb hr hml hts hown hlocks hin A hA hK hO hP hD hS ls hl
  have hown : s.vm.findClass RX12 = some m.cls := hown
  have hl : lv_has ls 2 [(0, .int a0), (1, .int b0)] := hl
  have C0 : Cx p s m args c cX12_isBit 2 RX12 G t := ⟨hx, hb, hml, hown, hts, hK, hO⟩
  have := zrng a0
  have := zrng b0
  refine lv_iload_n hx hb dX12_isBit_0 rfl (lv_at hl 0 rfl) ?_
  refine lv_iload_n hx hb dX12_isBit_1 rfl (lv_at hl 1 rfl) ?_
  refine lv_ishr hx hb dX12_isBit_2 (gnI (fun v_1 => ?_))
  refine lv_iconst (v := 1) hx hb dX12_isBit_3 (by decide) ?_
  refine lv_iand hx hb dX12_isBit_4 (gnI (fun v_2 => ?_))
  refine lv_iconst (v := 1) hx hb dX12_isBit_5 (by decide) ?_
  refine bI_ne (tgt := 13) hx hb dX12_isBit_6 (by decide) v_2.toInt 1 rfl rfl (fun c_3 => ?_) (fun c_3 => ?_)
  · refine lv_iconst (v := 0) hx hb dX12_isBit_13 (by decide) ?_
    exact rtZ hx hb hr hlocks hS rfl () ((show (0 : Int32).toInt = 0 ∨ (0 : Int32).toInt = 1 from (by have : (0 : Int32).toInt = 0 := rfl; omega))) (hP.sub [] rfl) (hD.sub [] (by decide) rfl) dX12_isBit_14
  · refine lv_iconst (v := 1) hx hb dX12_isBit_9 (by decide) ?_
    refine lv_goto (tgt := 14) hx hb dX12_isBit_10 (by decide) ?_
    exact rtZ hx hb hr hlocks hS rfl () ((show (1 : Int32).toInt = 0 ∨ (1 : Int32).toInt = 1 from (by have : (1 : Int32).toInt = 1 := rfl; omega))) (hP.sub [] rfl) (hD.sub [] (by decide) rfl) dX12_isBit_14

set_option maxHeartbeats 4000000 in
set_option maxRecDepth 100000 in
theorem m_sizeOf (l : Launch) (G : va_G) (t : Nat → ClassId) (a0 : Int32) : Ct l G t yX12_sizeOf cX12_sizeOf 3 (some .int) ({ frames := 0, cells := 0, slots := 0, locals := 0 }) [.int a0] [] (QI G (fun r (u : Unit) => True) (fun (u : Unit) => [])) := by
  refine ent (by decide) (Nat.le_of_ble_eq_true rfl) ?_
  intro p e s m args below meth c hx hb hr hml hts hown hlocks hin A hA hK hO hP hD hS ls hl
  have hown : s.vm.findClass RX12 = some m.cls := hown
  have hl : lv_has ls 3 [(0, .int a0)] := hl
  have C0 : Cx p s m args c cX12_sizeOf 3 RX12 G t := ⟨hx, hb, hml, hown, hts, hK, hO⟩
  have := zrng a0
  refine lv_iconst (v := 0) hx hb dX12_sizeOf_0 (by decide) ?_
  refine lv_istore_n (lv' := [(1, .int 0), (0, .int a0)]) hx hb dX12_sizeOf_1 rfl hl (by decide) rfl (fun ls hl => ?_)
  refine lv_iload_n hx hb dX12_sizeOf_2 rfl (lv_at hl 1 rfl) ?_
  refine lv_istore_n (lv' := [(2, .int a0), (1, .int 0), (0, .int a0)]) hx hb dX12_sizeOf_3 rfl hl (by decide) rfl (fun ls hl => ?_)
  have LP_5 : ∀ (n : Nat) (g_3 : Int32) (g_4 : Int32) (H : Heap) (locs : List Loc) (ls : Array Slot), lv_has ls 3 [(2, .int g_3), (1, .int g_4), (0, .int a0)] → va_P G vwCl [] H → va_D A [] → va_S A s.heap H locs → unY g_3 = n → W p l e ({ frames := 0, cells := 0, slots := 0, locals := 0 }) s m args below meth c H locs 0 0 (MQ below ((QI G (fun r (u : Unit) => True) (fun (u : Unit) => [])) A) args s 0 0 A) (F0 m 4 ls []) := by
    intro n
    induction n using Nat.strongRecOn with
    | ind n ih_4 =>
      intro g_3 g_4 H locs ls hl hP hD hS hmu
      have := zrng g_3
      have := zrng g_4
      refine lv_iload_n hx hb dX12_sizeOf_4 rfl (lv_at hl 0 rfl) ?_
      refine bF_eq (tgt := 20) hx hb dX12_sizeOf_5 (by decide) g_3.toInt rfl (fun c_6 => ?_) (fun c_6 => ?_)
      · refine lv_iload_n hx hb dX12_sizeOf_20 rfl (lv_at hl 1 rfl) ?_
        exact rtI hx hb hr hlocks hS () (trivial) (hP.sub [] rfl) (hD.sub [] (by decide) rfl) dX12_sizeOf_21
      · first | refine incZ hx hb dX12_sizeOf_8 hl (k := 1) rfl g_4.toInt rfl (by have := zrng g_4; omega) (by decide) (fun v_7 zv_7 ls hl => ?_) | refine incU hx hb dX12_sizeOf_8 hl (k := 1) rfl (by decide) (fun v_7 ls hl => ?_)
        have hl : lv_has ls 3 [(1, .int v_7), (2, .int g_3), (0, .int a0)] := hl
        refine lv_iload_n hx hb dX12_sizeOf_11 rfl (lv_at hl 1 rfl) ?_
        refine lv_iload_n hx hb dX12_sizeOf_12 rfl (lv_at hl 1 rfl) ?_
        refine lv_iconst (v := 1) hx hb dX12_sizeOf_13 (by decide) ?_
        refine lv_isub hx hb dX12_sizeOf_14 ?_
        refine lv_iand hx hb dX12_sizeOf_15 ?_
        refine lv_istore_n (lv' := [(2, .int (g_3 &&& (g_3 - 1))), (1, .int v_7), (0, .int a0)]) hx hb dX12_sizeOf_16 rfl hl (by decide) rfl (fun ls hl => ?_)
        refine lv_goto (tgt := 4) hx hb dX12_sizeOf_17 (by decide) ?_
        exact ih_4 (unY (g_3 &&& (g_3 - 1))) (by subst hmu; exact un_dec (by omega)) (g_3 &&& (g_3 - 1)) v_7  _ _ _ (lv_sub hl [0, 1, 2] rfl) (hP.sub [] rfl) (hD.sub [] (by decide) rfl) hS rfl
  exact LP_5 (unY a0) a0 0  _ _ _ (lv_sub hl [0, 1, 2] rfl) (hP.sub [] rfl) (hD.sub [] (by decide) rfl) hS rfl

set_option maxHeartbeats 4000000 in
set_option maxRecDepth 100000 in
theorem m_between (l : Launch) (G : va_G) (t : Nat → ClassId) (a0 : Int32) (b0 : Int32) : Ct l G t yX12_between cX12_between 2 (some .int) ({ frames := 0, cells := 0, slots := 0, locals := 0 }) [.int a0, .int b0] [] (QI G (fun r (u : Unit) => True) (fun (u : Unit) => [])) := by
  refine ent (by decide) (Nat.le_of_ble_eq_true rfl) ?_
  intro p e s m args below meth c hx hb hr hml hts hown hlocks hin A hA hK hO hP hD hS ls hl
  have hown : s.vm.findClass RX12 = some m.cls := hown
  have hl : lv_has ls 2 [(0, .int a0), (1, .int b0)] := hl
  have C0 : Cx p s m args c cX12_between 2 RX12 G t := ⟨hx, hb, hml, hown, hts, hK, hO⟩
  have := zrng a0
  have := zrng b0
  refine lv_iload_n hx hb dX12_between_0 rfl (lv_at hl 0 rfl) ?_
  refine lv_iload_n hx hb dX12_between_1 rfl (lv_at hl 1 rfl) ?_
  refine bI_ge (tgt := 11) hx hb dX12_between_2 (by decide) a0.toInt b0.toInt rfl rfl (fun c_1 => ?_) (fun c_1 => ?_)
  · refine lv_iload_n hx hb dX12_between_11 rfl (lv_at hl 0 rfl) ?_
    refine lv_iload_n hx hb dX12_between_12 rfl (lv_at hl 1 rfl) ?_
    first | refine sbZ hx hb dX12_between_13 a0.toInt b0.toInt rfl rfl (by have := zrng a0; have := zrng b0; omega) (fun v_2 zv_2 => ?_) | refine lv_isub hx hb dX12_between_13 (gnI (fun v_2 => ?_))
    exact rtI hx hb hr hlocks hS () (trivial) (hP.sub [] rfl) (hD.sub [] (by decide) rfl) dX12_between_14
  · refine lv_iload_n hx hb dX12_between_5 rfl (lv_at hl 1 rfl) ?_
    refine lv_iload_n hx hb dX12_between_6 rfl (lv_at hl 0 rfl) ?_
    first | refine sbZ hx hb dX12_between_7 b0.toInt a0.toInt rfl rfl (by have := zrng b0; have := zrng a0; omega) (fun v_3 zv_3 => ?_) | refine lv_isub hx hb dX12_between_7 (gnI (fun v_3 => ?_))
    refine lv_goto (tgt := 14) hx hb dX12_between_8 (by decide) ?_
    exact rtI hx hb hr hlocks hS () (trivial) (hP.sub [] rfl) (hD.sub [] (by decide) rfl) dX12_between_14

set_option maxHeartbeats 4000000 in
set_option maxRecDepth 100000 in
theorem m_of0 (l : Launch) (G : va_G) (t : Nat → ClassId) (mm : Nat) (a0 : Int32) (m_thrown : Int32) (p_width : Nat) (p_many : Nat) (p_cells : Nat) (p_moved : Nat) (p_tape : Nat) (m_taped : Int32) (m_at : Int32) (m_token : Int32) (m_place : Int32) (m_value : Int32) (m_word : Int64) (m_bad : Int32) (m_badPlace : Int32) (m_fault : Int32) (m_faultPlace : Int32) (p_lines : Nat) (p_has : Nat) (p_spot : Nat) (p_exit : Nat) (p_isSat : Nat) (p_change : Nat) (p_isKept : Nat) (p_at0 : Nat) (p_doors : Nat) (p_flow : Nat) (p_from : Nat) (p_edge : Nat) (p_queue : Nat) (m_minutes : Int32) (m_queued : Int32) (m_askLeaves : Int32) (m_blindBest : Int32) (m_claqueActs : Int32) (m_claquePlace : Int32) (p_comes : Nat) (f_spot : Nat → Int32) (h_a0 : 0 ≤ a0.toInt ∧ a0.toInt ≤ 8) (h_m_taped : 0 ≤ m_taped.toInt ∧ m_taped.toInt ≤ 1400) (h_m_at : 0 ≤ m_at.toInt ∧ m_at.toInt ≤ 1400) (h_m_value : 0 ≤ m_value.toInt ∧ m_value.toInt ≤ 1000009) (h_m_minutes : 0 ≤ m_minutes.toInt ∧ m_minutes.toInt ≤ 20) (h_f_spot : Rp (fun i v => 0 ≤ v ∧ (i % 4 = 0 → v ≤ 5) ∧ (i % 4 = 1 → v ≤ 5) ∧ (i % 4 = 2 → v ≤ 4)) 180 f_spot) : Ct l G t yX12_of cX12_of 3 (some .int) ({ frames := 0, cells := 0, slots := 0, locals := 0 }) [.ref mm, .int a0, .int 0] [(mm, .inr (12, [.int m_thrown, .ref p_width, .ref p_many, .ref p_cells, .ref p_moved, .ref p_tape, .int m_taped, .int m_at, .int m_token, .int m_place, .int m_value, .long m_word, .int m_bad, .int m_badPlace, .int m_fault, .int m_faultPlace, .ref p_lines, .ref p_has, .ref p_spot, .ref p_exit, .ref p_isSat, .ref p_change, .ref p_isKept, .ref p_at0, .ref p_doors, .ref p_flow, .ref p_from, .ref p_edge, .ref p_queue, .int m_minutes, .int m_queued, .int m_askLeaves, .int m_blindBest, .int m_claqueActs, .int m_claquePlace, .ref p_comes])), (p_spot, .inl (t 1, 180, .inl f_spot))] (QI G (fun r (u : Unit) => (0 ≤ r.toInt ∧ r.toInt ≤ 5)) (fun (u : Unit) => [(mm, .inr (12, [.int m_thrown, .ref p_width, .ref p_many, .ref p_cells, .ref p_moved, .ref p_tape, .int m_taped, .int m_at, .int m_token, .int m_place, .int m_value, .long m_word, .int m_bad, .int m_badPlace, .int m_fault, .int m_faultPlace, .ref p_lines, .ref p_has, .ref p_spot, .ref p_exit, .ref p_isSat, .ref p_change, .ref p_isKept, .ref p_at0, .ref p_doors, .ref p_flow, .ref p_from, .ref p_edge, .ref p_queue, .int m_minutes, .int m_queued, .int m_askLeaves, .int m_blindBest, .int m_claqueActs, .int m_claquePlace, .ref p_comes])), (p_spot, .inl (t 1, 180, .inl f_spot))])) := by
  refine ent (by decide) (Nat.le_of_ble_eq_true rfl) ?_
  intro p e s m args below meth c hx hb hr hml hts hown hlocks hin A hA hK hO hP hD hS ls hl
  have hown : s.vm.findClass RX12 = some m.cls := hown
  have hl : lv_has ls 3 [(0, .ref mm), (1, .int a0), (2, .int 0)] := hl
  have C0 : Cx p s m args c cX12_of 3 RX12 G t := ⟨hx, hb, hml, hown, hts, hK, hO⟩
  refine lv_aload_n hx hb dX12_of_0 rfl (lv_at hl 0 rfl) ?_
  refine gf hx hb hts hown hK hP 0 inT12 rfl rfl 18 (by decide) tw6_3 rfl dX12_of_1 ?_
  refine lv_iconst (v := 4) hx hb dX12_of_4 (by decide) ?_
  refine lv_iload_n hx hb dX12_of_5 rfl (lv_at hl 1 rfl) ?_
  first | refine muZ hx hb dX12_of_6 4 a0.toInt rfl rfl (by have := zrng a0; omega) (fun v_1 zv_1 => ?_) | refine lv_imul hx hb dX12_of_6 (gnI (fun v_1 => ?_))
  refine lv_iload_n hx hb dX12_of_7 rfl (lv_at hl 2 rfl) ?_
  first | refine adZ hx hb dX12_of_8 v_1.toInt 0 rfl rfl (by have := zrng v_1; omega) (fun v_2 zv_2 => ?_) | refine lv_iadd hx hb dX12_of_8 (gnI (fun v_2 => ?_))
  refine lpI hx hb hK hP 1 h_f_spot rfl v_2.toInt rfl (by omega) dX12_of_9 (fun v_3 ev_3 zv_3 => ?_)
  try dsimp only at zv_3
  have kv_3 : v_3.toInt = (f_spot (v_2.toInt).toNat).toInt := by rw [ev_3]
  exact rtI hx hb hr hlocks hS () ((show 0 ≤ v_3.toInt ∧ v_3.toInt ≤ 5 from (by omega))) (hP.sub [0, 1] rfl) (hD.sub [0, 1] (by decide) rfl) dX12_of_10

set_option maxHeartbeats 4000000 in
set_option maxRecDepth 100000 in
theorem m_of1 (l : Launch) (G : va_G) (t : Nat → ClassId) (mm : Nat) (a0 : Int32) (m_thrown : Int32) (p_width : Nat) (p_many : Nat) (p_cells : Nat) (p_moved : Nat) (p_tape : Nat) (m_taped : Int32) (m_at : Int32) (m_token : Int32) (m_place : Int32) (m_value : Int32) (m_word : Int64) (m_bad : Int32) (m_badPlace : Int32) (m_fault : Int32) (m_faultPlace : Int32) (p_lines : Nat) (p_has : Nat) (p_spot : Nat) (p_exit : Nat) (p_isSat : Nat) (p_change : Nat) (p_isKept : Nat) (p_at0 : Nat) (p_doors : Nat) (p_flow : Nat) (p_from : Nat) (p_edge : Nat) (p_queue : Nat) (m_minutes : Int32) (m_queued : Int32) (m_askLeaves : Int32) (m_blindBest : Int32) (m_claqueActs : Int32) (m_claquePlace : Int32) (p_comes : Nat) (f_spot : Nat → Int32) (h_a0 : 0 ≤ a0.toInt ∧ a0.toInt ≤ 8) (h_m_taped : 0 ≤ m_taped.toInt ∧ m_taped.toInt ≤ 1400) (h_m_at : 0 ≤ m_at.toInt ∧ m_at.toInt ≤ 1400) (h_m_value : 0 ≤ m_value.toInt ∧ m_value.toInt ≤ 1000009) (h_m_minutes : 0 ≤ m_minutes.toInt ∧ m_minutes.toInt ≤ 20) (h_f_spot : Rp (fun i v => 0 ≤ v ∧ (i % 4 = 0 → v ≤ 5) ∧ (i % 4 = 1 → v ≤ 5) ∧ (i % 4 = 2 → v ≤ 4)) 180 f_spot) : Ct l G t yX12_of cX12_of 3 (some .int) ({ frames := 0, cells := 0, slots := 0, locals := 0 }) [.ref mm, .int a0, .int 1] [(mm, .inr (12, [.int m_thrown, .ref p_width, .ref p_many, .ref p_cells, .ref p_moved, .ref p_tape, .int m_taped, .int m_at, .int m_token, .int m_place, .int m_value, .long m_word, .int m_bad, .int m_badPlace, .int m_fault, .int m_faultPlace, .ref p_lines, .ref p_has, .ref p_spot, .ref p_exit, .ref p_isSat, .ref p_change, .ref p_isKept, .ref p_at0, .ref p_doors, .ref p_flow, .ref p_from, .ref p_edge, .ref p_queue, .int m_minutes, .int m_queued, .int m_askLeaves, .int m_blindBest, .int m_claqueActs, .int m_claquePlace, .ref p_comes])), (p_spot, .inl (t 1, 180, .inl f_spot))] (QI G (fun r (u : Unit) => (0 ≤ r.toInt ∧ r.toInt ≤ 5)) (fun (u : Unit) => [(mm, .inr (12, [.int m_thrown, .ref p_width, .ref p_many, .ref p_cells, .ref p_moved, .ref p_tape, .int m_taped, .int m_at, .int m_token, .int m_place, .int m_value, .long m_word, .int m_bad, .int m_badPlace, .int m_fault, .int m_faultPlace, .ref p_lines, .ref p_has, .ref p_spot, .ref p_exit, .ref p_isSat, .ref p_change, .ref p_isKept, .ref p_at0, .ref p_doors, .ref p_flow, .ref p_from, .ref p_edge, .ref p_queue, .int m_minutes, .int m_queued, .int m_askLeaves, .int m_blindBest, .int m_claqueActs, .int m_claquePlace, .ref p_comes])), (p_spot, .inl (t 1, 180, .inl f_spot))])) := by
  refine ent (by decide) (Nat.le_of_ble_eq_true rfl) ?_
  intro p e s m args below meth c hx hb hr hml hts hown hlocks hin A hA hK hO hP hD hS ls hl
  have hown : s.vm.findClass RX12 = some m.cls := hown
  have hl : lv_has ls 3 [(0, .ref mm), (1, .int a0), (2, .int 1)] := hl
  have C0 : Cx p s m args c cX12_of 3 RX12 G t := ⟨hx, hb, hml, hown, hts, hK, hO⟩
  refine lv_aload_n hx hb dX12_of_0 rfl (lv_at hl 0 rfl) ?_
  refine gf hx hb hts hown hK hP 0 inT12 rfl rfl 18 (by decide) tw6_3 rfl dX12_of_1 ?_
  refine lv_iconst (v := 4) hx hb dX12_of_4 (by decide) ?_
  refine lv_iload_n hx hb dX12_of_5 rfl (lv_at hl 1 rfl) ?_
  first | refine muZ hx hb dX12_of_6 4 a0.toInt rfl rfl (by have := zrng a0; omega) (fun v_1 zv_1 => ?_) | refine lv_imul hx hb dX12_of_6 (gnI (fun v_1 => ?_))
  refine lv_iload_n hx hb dX12_of_7 rfl (lv_at hl 2 rfl) ?_
  first | refine adZ hx hb dX12_of_8 v_1.toInt 1 rfl rfl (by have := zrng v_1; omega) (fun v_2 zv_2 => ?_) | refine lv_iadd hx hb dX12_of_8 (gnI (fun v_2 => ?_))
  refine lpI hx hb hK hP 1 h_f_spot rfl v_2.toInt rfl (by omega) dX12_of_9 (fun v_3 ev_3 zv_3 => ?_)
  try dsimp only at zv_3
  have kv_3 : v_3.toInt = (f_spot (v_2.toInt).toNat).toInt := by rw [ev_3]
  exact rtI hx hb hr hlocks hS () ((show 0 ≤ v_3.toInt ∧ v_3.toInt ≤ 5 from (by omega))) (hP.sub [0, 1] rfl) (hD.sub [0, 1] (by decide) rfl) dX12_of_10

set_option maxHeartbeats 4000000 in
set_option maxRecDepth 100000 in
theorem m_of2 (l : Launch) (G : va_G) (t : Nat → ClassId) (mm : Nat) (a0 : Int32) (m_thrown : Int32) (p_width : Nat) (p_many : Nat) (p_cells : Nat) (p_moved : Nat) (p_tape : Nat) (m_taped : Int32) (m_at : Int32) (m_token : Int32) (m_place : Int32) (m_value : Int32) (m_word : Int64) (m_bad : Int32) (m_badPlace : Int32) (m_fault : Int32) (m_faultPlace : Int32) (p_lines : Nat) (p_has : Nat) (p_spot : Nat) (p_exit : Nat) (p_isSat : Nat) (p_change : Nat) (p_isKept : Nat) (p_at0 : Nat) (p_doors : Nat) (p_flow : Nat) (p_from : Nat) (p_edge : Nat) (p_queue : Nat) (m_minutes : Int32) (m_queued : Int32) (m_askLeaves : Int32) (m_blindBest : Int32) (m_claqueActs : Int32) (m_claquePlace : Int32) (p_comes : Nat) (f_spot : Nat → Int32) (h_a0 : 0 ≤ a0.toInt ∧ a0.toInt ≤ 8) (h_m_taped : 0 ≤ m_taped.toInt ∧ m_taped.toInt ≤ 1400) (h_m_at : 0 ≤ m_at.toInt ∧ m_at.toInt ≤ 1400) (h_m_value : 0 ≤ m_value.toInt ∧ m_value.toInt ≤ 1000009) (h_m_minutes : 0 ≤ m_minutes.toInt ∧ m_minutes.toInt ≤ 20) (h_f_spot : Rp (fun i v => 0 ≤ v ∧ (i % 4 = 0 → v ≤ 5) ∧ (i % 4 = 1 → v ≤ 5) ∧ (i % 4 = 2 → v ≤ 4)) 180 f_spot) : Ct l G t yX12_of cX12_of 3 (some .int) ({ frames := 0, cells := 0, slots := 0, locals := 0 }) [.ref mm, .int a0, .int 2] [(mm, .inr (12, [.int m_thrown, .ref p_width, .ref p_many, .ref p_cells, .ref p_moved, .ref p_tape, .int m_taped, .int m_at, .int m_token, .int m_place, .int m_value, .long m_word, .int m_bad, .int m_badPlace, .int m_fault, .int m_faultPlace, .ref p_lines, .ref p_has, .ref p_spot, .ref p_exit, .ref p_isSat, .ref p_change, .ref p_isKept, .ref p_at0, .ref p_doors, .ref p_flow, .ref p_from, .ref p_edge, .ref p_queue, .int m_minutes, .int m_queued, .int m_askLeaves, .int m_blindBest, .int m_claqueActs, .int m_claquePlace, .ref p_comes])), (p_spot, .inl (t 1, 180, .inl f_spot))] (QI G (fun r (u : Unit) => (0 ≤ r.toInt ∧ r.toInt ≤ 4)) (fun (u : Unit) => [(mm, .inr (12, [.int m_thrown, .ref p_width, .ref p_many, .ref p_cells, .ref p_moved, .ref p_tape, .int m_taped, .int m_at, .int m_token, .int m_place, .int m_value, .long m_word, .int m_bad, .int m_badPlace, .int m_fault, .int m_faultPlace, .ref p_lines, .ref p_has, .ref p_spot, .ref p_exit, .ref p_isSat, .ref p_change, .ref p_isKept, .ref p_at0, .ref p_doors, .ref p_flow, .ref p_from, .ref p_edge, .ref p_queue, .int m_minutes, .int m_queued, .int m_askLeaves, .int m_blindBest, .int m_claqueActs, .int m_claquePlace, .ref p_comes])), (p_spot, .inl (t 1, 180, .inl f_spot))])) := by
  refine ent (by decide) (Nat.le_of_ble_eq_true rfl) ?_
  intro p e s m args below meth c hx hb hr hml hts hown hlocks hin A hA hK hO hP hD hS ls hl
  have hown : s.vm.findClass RX12 = some m.cls := hown
  have hl : lv_has ls 3 [(0, .ref mm), (1, .int a0), (2, .int 2)] := hl
  have C0 : Cx p s m args c cX12_of 3 RX12 G t := ⟨hx, hb, hml, hown, hts, hK, hO⟩
  refine lv_aload_n hx hb dX12_of_0 rfl (lv_at hl 0 rfl) ?_
  refine gf hx hb hts hown hK hP 0 inT12 rfl rfl 18 (by decide) tw6_3 rfl dX12_of_1 ?_
  refine lv_iconst (v := 4) hx hb dX12_of_4 (by decide) ?_
  refine lv_iload_n hx hb dX12_of_5 rfl (lv_at hl 1 rfl) ?_
  first | refine muZ hx hb dX12_of_6 4 a0.toInt rfl rfl (by have := zrng a0; omega) (fun v_1 zv_1 => ?_) | refine lv_imul hx hb dX12_of_6 (gnI (fun v_1 => ?_))
  refine lv_iload_n hx hb dX12_of_7 rfl (lv_at hl 2 rfl) ?_
  first | refine adZ hx hb dX12_of_8 v_1.toInt 2 rfl rfl (by have := zrng v_1; omega) (fun v_2 zv_2 => ?_) | refine lv_iadd hx hb dX12_of_8 (gnI (fun v_2 => ?_))
  refine lpI hx hb hK hP 1 h_f_spot rfl v_2.toInt rfl (by omega) dX12_of_9 (fun v_3 ev_3 zv_3 => ?_)
  try dsimp only at zv_3
  have kv_3 : v_3.toInt = (f_spot (v_2.toInt).toNat).toInt := by rw [ev_3]
  exact rtI hx hb hr hlocks hS () ((show 0 ≤ v_3.toInt ∧ v_3.toInt ≤ 4 from (by omega))) (hP.sub [0, 1] rfl) (hD.sub [0, 1] (by decide) rfl) dX12_of_10

set_option maxHeartbeats 4000000 in
set_option maxRecDepth 100000 in
theorem m_of3 (l : Launch) (G : va_G) (t : Nat → ClassId) (mm : Nat) (a0 : Int32) (m_thrown : Int32) (p_width : Nat) (p_many : Nat) (p_cells : Nat) (p_moved : Nat) (p_tape : Nat) (m_taped : Int32) (m_at : Int32) (m_token : Int32) (m_place : Int32) (m_value : Int32) (m_word : Int64) (m_bad : Int32) (m_badPlace : Int32) (m_fault : Int32) (m_faultPlace : Int32) (p_lines : Nat) (p_has : Nat) (p_spot : Nat) (p_exit : Nat) (p_isSat : Nat) (p_change : Nat) (p_isKept : Nat) (p_at0 : Nat) (p_doors : Nat) (p_flow : Nat) (p_from : Nat) (p_edge : Nat) (p_queue : Nat) (m_minutes : Int32) (m_queued : Int32) (m_askLeaves : Int32) (m_blindBest : Int32) (m_claqueActs : Int32) (m_claquePlace : Int32) (p_comes : Nat) (f_spot : Nat → Int32) (h_a0 : 0 ≤ a0.toInt ∧ a0.toInt ≤ 8) (h_m_taped : 0 ≤ m_taped.toInt ∧ m_taped.toInt ≤ 1400) (h_m_at : 0 ≤ m_at.toInt ∧ m_at.toInt ≤ 1400) (h_m_value : 0 ≤ m_value.toInt ∧ m_value.toInt ≤ 1000009) (h_m_minutes : 0 ≤ m_minutes.toInt ∧ m_minutes.toInt ≤ 20) (h_f_spot : Rp (fun i v => 0 ≤ v ∧ (i % 4 = 0 → v ≤ 5) ∧ (i % 4 = 1 → v ≤ 5) ∧ (i % 4 = 2 → v ≤ 4)) 180 f_spot) : Ct l G t yX12_of cX12_of 3 (some .int) ({ frames := 0, cells := 0, slots := 0, locals := 0 }) [.ref mm, .int a0, .int 3] [(mm, .inr (12, [.int m_thrown, .ref p_width, .ref p_many, .ref p_cells, .ref p_moved, .ref p_tape, .int m_taped, .int m_at, .int m_token, .int m_place, .int m_value, .long m_word, .int m_bad, .int m_badPlace, .int m_fault, .int m_faultPlace, .ref p_lines, .ref p_has, .ref p_spot, .ref p_exit, .ref p_isSat, .ref p_change, .ref p_isKept, .ref p_at0, .ref p_doors, .ref p_flow, .ref p_from, .ref p_edge, .ref p_queue, .int m_minutes, .int m_queued, .int m_askLeaves, .int m_blindBest, .int m_claqueActs, .int m_claquePlace, .ref p_comes])), (p_spot, .inl (t 1, 180, .inl f_spot))] (QI G (fun r (u : Unit) => (0 ≤ r.toInt)) (fun (u : Unit) => [(mm, .inr (12, [.int m_thrown, .ref p_width, .ref p_many, .ref p_cells, .ref p_moved, .ref p_tape, .int m_taped, .int m_at, .int m_token, .int m_place, .int m_value, .long m_word, .int m_bad, .int m_badPlace, .int m_fault, .int m_faultPlace, .ref p_lines, .ref p_has, .ref p_spot, .ref p_exit, .ref p_isSat, .ref p_change, .ref p_isKept, .ref p_at0, .ref p_doors, .ref p_flow, .ref p_from, .ref p_edge, .ref p_queue, .int m_minutes, .int m_queued, .int m_askLeaves, .int m_blindBest, .int m_claqueActs, .int m_claquePlace, .ref p_comes])), (p_spot, .inl (t 1, 180, .inl f_spot))])) := by
  refine ent (by decide) (Nat.le_of_ble_eq_true rfl) ?_
  intro p e s m args below meth c hx hb hr hml hts hown hlocks hin A hA hK hO hP hD hS ls hl
  have hown : s.vm.findClass RX12 = some m.cls := hown
  have hl : lv_has ls 3 [(0, .ref mm), (1, .int a0), (2, .int 3)] := hl
  have C0 : Cx p s m args c cX12_of 3 RX12 G t := ⟨hx, hb, hml, hown, hts, hK, hO⟩
  refine lv_aload_n hx hb dX12_of_0 rfl (lv_at hl 0 rfl) ?_
  refine gf hx hb hts hown hK hP 0 inT12 rfl rfl 18 (by decide) tw6_3 rfl dX12_of_1 ?_
  refine lv_iconst (v := 4) hx hb dX12_of_4 (by decide) ?_
  refine lv_iload_n hx hb dX12_of_5 rfl (lv_at hl 1 rfl) ?_
  first | refine muZ hx hb dX12_of_6 4 a0.toInt rfl rfl (by have := zrng a0; omega) (fun v_1 zv_1 => ?_) | refine lv_imul hx hb dX12_of_6 (gnI (fun v_1 => ?_))
  refine lv_iload_n hx hb dX12_of_7 rfl (lv_at hl 2 rfl) ?_
  first | refine adZ hx hb dX12_of_8 v_1.toInt 3 rfl rfl (by have := zrng v_1; omega) (fun v_2 zv_2 => ?_) | refine lv_iadd hx hb dX12_of_8 (gnI (fun v_2 => ?_))
  refine lpI hx hb hK hP 1 h_f_spot rfl v_2.toInt rfl (by omega) dX12_of_9 (fun v_3 ev_3 zv_3 => ?_)
  try dsimp only at zv_3
  have kv_3 : v_3.toInt = (f_spot (v_2.toInt).toNat).toInt := by rw [ev_3]
  exact rtI hx hb hr hlocks hS () ((show 0 ≤ v_3.toInt from (by omega))) (hP.sub [0, 1] rfl) (hD.sub [0, 1] (by decide) rfl) dX12_of_10

set_option maxHeartbeats 4000000 in
set_option maxRecDepth 100000 in
theorem m_of (l : Launch) (G : va_G) (t : Nat → ClassId) (mm : Nat) (a0 : Int32) (b0 : Int32) (m_thrown : Int32) (p_width : Nat) (p_many : Nat) (p_cells : Nat) (p_moved : Nat) (p_tape : Nat) (m_taped : Int32) (m_at : Int32) (m_token : Int32) (m_place : Int32) (m_value : Int32) (m_word : Int64) (m_bad : Int32) (m_badPlace : Int32) (m_fault : Int32) (m_faultPlace : Int32) (p_lines : Nat) (p_has : Nat) (p_spot : Nat) (p_exit : Nat) (p_isSat : Nat) (p_change : Nat) (p_isKept : Nat) (p_at0 : Nat) (p_doors : Nat) (p_flow : Nat) (p_from : Nat) (p_edge : Nat) (p_queue : Nat) (m_minutes : Int32) (m_queued : Int32) (m_askLeaves : Int32) (m_blindBest : Int32) (m_claqueActs : Int32) (m_claquePlace : Int32) (p_comes : Nat) (f_spot : Nat → Int32) (h_a0 : 0 ≤ a0.toInt ∧ a0.toInt ≤ 8) (h_b0 : 0 ≤ b0.toInt ∧ b0.toInt ≤ 3) (h_m_taped : 0 ≤ m_taped.toInt ∧ m_taped.toInt ≤ 1400) (h_m_at : 0 ≤ m_at.toInt ∧ m_at.toInt ≤ 1400) (h_m_value : 0 ≤ m_value.toInt ∧ m_value.toInt ≤ 1000009) (h_m_minutes : 0 ≤ m_minutes.toInt ∧ m_minutes.toInt ≤ 20) (h_f_spot : Rp (fun i v => 0 ≤ v ∧ (i % 4 = 0 → v ≤ 5) ∧ (i % 4 = 1 → v ≤ 5) ∧ (i % 4 = 2 → v ≤ 4)) 180 f_spot) : Ct l G t yX12_of cX12_of 3 (some .int) ({ frames := 0, cells := 0, slots := 0, locals := 0 }) [.ref mm, .int a0, .int b0] [(mm, .inr (12, [.int m_thrown, .ref p_width, .ref p_many, .ref p_cells, .ref p_moved, .ref p_tape, .int m_taped, .int m_at, .int m_token, .int m_place, .int m_value, .long m_word, .int m_bad, .int m_badPlace, .int m_fault, .int m_faultPlace, .ref p_lines, .ref p_has, .ref p_spot, .ref p_exit, .ref p_isSat, .ref p_change, .ref p_isKept, .ref p_at0, .ref p_doors, .ref p_flow, .ref p_from, .ref p_edge, .ref p_queue, .int m_minutes, .int m_queued, .int m_askLeaves, .int m_blindBest, .int m_claqueActs, .int m_claquePlace, .ref p_comes])), (p_spot, .inl (t 1, 180, .inl f_spot))] (QI G (fun r (u : Unit) => True) (fun (u : Unit) => [(mm, .inr (12, [.int m_thrown, .ref p_width, .ref p_many, .ref p_cells, .ref p_moved, .ref p_tape, .int m_taped, .int m_at, .int m_token, .int m_place, .int m_value, .long m_word, .int m_bad, .int m_badPlace, .int m_fault, .int m_faultPlace, .ref p_lines, .ref p_has, .ref p_spot, .ref p_exit, .ref p_isSat, .ref p_change, .ref p_isKept, .ref p_at0, .ref p_doors, .ref p_flow, .ref p_from, .ref p_edge, .ref p_queue, .int m_minutes, .int m_queued, .int m_askLeaves, .int m_blindBest, .int m_claqueActs, .int m_claquePlace, .ref p_comes])), (p_spot, .inl (t 1, 180, .inl f_spot))])) := by
  refine ent (by decide) (Nat.le_of_ble_eq_true rfl) ?_
  intro p e s m args below meth c hx hb hr hml hts hown hlocks hin A hA hK hO hP hD hS ls hl
  have hown : s.vm.findClass RX12 = some m.cls := hown
  have hl : lv_has ls 3 [(0, .ref mm), (1, .int a0), (2, .int b0)] := hl
  have C0 : Cx p s m args c cX12_of 3 RX12 G t := ⟨hx, hb, hml, hown, hts, hK, hO⟩
  refine lv_aload_n hx hb dX12_of_0 rfl (lv_at hl 0 rfl) ?_
  refine gf hx hb hts hown hK hP 0 inT12 rfl rfl 18 (by decide) tw6_3 rfl dX12_of_1 ?_
  refine lv_iconst (v := 4) hx hb dX12_of_4 (by decide) ?_
  refine lv_iload_n hx hb dX12_of_5 rfl (lv_at hl 1 rfl) ?_
  first | refine muZ hx hb dX12_of_6 4 a0.toInt rfl rfl (by have := zrng a0; omega) (fun v_1 zv_1 => ?_) | refine lv_imul hx hb dX12_of_6 (gnI (fun v_1 => ?_))
  refine lv_iload_n hx hb dX12_of_7 rfl (lv_at hl 2 rfl) ?_
  first | refine adZ hx hb dX12_of_8 v_1.toInt b0.toInt rfl rfl (by have := zrng v_1; have := zrng b0; omega) (fun v_2 zv_2 => ?_) | refine lv_iadd hx hb dX12_of_8 (gnI (fun v_2 => ?_))
  refine lpI hx hb hK hP 1 h_f_spot rfl v_2.toInt rfl (by omega) dX12_of_9 (fun v_3 ev_3 zv_3 => ?_)
  try dsimp only at zv_3
  have kv_3 : v_3.toInt = (f_spot (v_2.toInt).toNat).toInt := by rw [ev_3]
  exact rtI hx hb hr hlocks hS () (trivial) (hP.sub [0, 1] rfl) (hD.sub [0, 1] (by decide) rfl) dX12_of_10

set_option maxHeartbeats 4000000 in
set_option maxRecDepth 100000 in
theorem m_isGoodPlace (l : Launch) (G : va_G) (t : Nat → ClassId) (mm : Nat) (a0 : Int32) (m_thrown : Int32) (p_width : Nat) (p_many : Nat) (p_cells : Nat) (p_moved : Nat) (p_tape : Nat) (m_taped : Int32) (m_at : Int32) (m_token : Int32) (m_place : Int32) (m_value : Int32) (m_word : Int64) (m_bad : Int32) (m_badPlace : Int32) (m_fault : Int32) (m_faultPlace : Int32) (p_lines : Nat) (p_has : Nat) (p_spot : Nat) (p_exit : Nat) (p_isSat : Nat) (p_change : Nat) (p_isKept : Nat) (p_at0 : Nat) (p_doors : Nat) (p_flow : Nat) (p_from : Nat) (p_edge : Nat) (p_queue : Nat) (m_minutes : Int32) (m_queued : Int32) (m_askLeaves : Int32) (m_blindBest : Int32) (m_claqueActs : Int32) (m_claquePlace : Int32) (p_comes : Nat) (f_spot : Nat → Int32) (h_a0 : 0 ≤ a0.toInt ∧ a0.toInt ≤ 8) (h_m_taped : 0 ≤ m_taped.toInt ∧ m_taped.toInt ≤ 1400) (h_m_at : 0 ≤ m_at.toInt ∧ m_at.toInt ≤ 1400) (h_m_value : 0 ≤ m_value.toInt ∧ m_value.toInt ≤ 1000009) (h_m_minutes : 0 ≤ m_minutes.toInt ∧ m_minutes.toInt ≤ 20) (h_f_spot : Rp (fun i v => 0 ≤ v ∧ (i % 4 = 0 → v ≤ 5) ∧ (i % 4 = 1 → v ≤ 5) ∧ (i % 4 = 2 → v ≤ 4)) 180 f_spot) : Ct l G t yX12_isGoodPlace cX12_isGoodPlace 2 (some .boolean) ({ frames := 1, cells := 0, slots := 0, locals := 22 }) [.ref mm, .int a0] [(mm, .inr (12, [.int m_thrown, .ref p_width, .ref p_many, .ref p_cells, .ref p_moved, .ref p_tape, .int m_taped, .int m_at, .int m_token, .int m_place, .int m_value, .long m_word, .int m_bad, .int m_badPlace, .int m_fault, .int m_faultPlace, .ref p_lines, .ref p_has, .ref p_spot, .ref p_exit, .ref p_isSat, .ref p_change, .ref p_isKept, .ref p_at0, .ref p_doors, .ref p_flow, .ref p_from, .ref p_edge, .ref p_queue, .int m_minutes, .int m_queued, .int m_askLeaves, .int m_blindBest, .int m_claqueActs, .int m_claquePlace, .ref p_comes])), (p_spot, .inl (t 1, 180, .inl f_spot))] (QI G (fun r (u : Unit) => (r.toInt = 0 ∨ r.toInt = 1)) (fun (u : Unit) => [(mm, .inr (12, [.int m_thrown, .ref p_width, .ref p_many, .ref p_cells, .ref p_moved, .ref p_tape, .int m_taped, .int m_at, .int m_token, .int m_place, .int m_value, .long m_word, .int m_bad, .int m_badPlace, .int m_fault, .int m_faultPlace, .ref p_lines, .ref p_has, .ref p_spot, .ref p_exit, .ref p_isSat, .ref p_change, .ref p_isKept, .ref p_at0, .ref p_doors, .ref p_flow, .ref p_from, .ref p_edge, .ref p_queue, .int m_minutes, .int m_queued, .int m_askLeaves, .int m_blindBest, .int m_claqueActs, .int m_claquePlace, .ref p_comes])), (p_spot, .inl (t 1, 180, .inl f_spot))])) := by
  refine ent (by decide) (Nat.le_of_ble_eq_true rfl) ?_
  intro p e s m args below meth c hx hb hr hml hts hown hlocks hin A hA hK hO hP hD hS ls hl
  have hown : s.vm.findClass RX12 = some m.cls := hown
  have hl : lv_has ls 2 [(0, .ref mm), (1, .int a0)] := hl
  have C0 : Cx p s m args c cX12_isGoodPlace 2 RX12 G t := ⟨hx, hb, hml, hown, hts, hK, hO⟩
  refine lv_aload_n hx hb dX12_isGoodPlace_0 rfl (lv_at hl 0 rfl) ?_
  refine lv_iload_n hx hb dX12_isGoodPlace_1 rfl (lv_at hl 1 rfl) ?_
  refine lv_iconst (v := 2) hx hb dX12_isGoodPlace_2 (by decide) ?_
  refine goI (rnV C0 (m_of2 l G t mm a0 m_thrown p_width p_many p_cells p_moved p_tape m_taped m_at m_token m_place m_value m_word m_bad m_badPlace m_fault m_faultPlace p_lines p_has p_spot p_exit p_isSat p_change p_isKept p_at0 p_doors p_flow p_from p_edge p_queue m_minutes m_queued m_askLeaves m_blindBest m_claqueActs m_claquePlace p_comes f_spot (by omega) (by omega) (by omega) (by omega) (by omega) h_f_spot) lkX12_244 ⟨by decide, by decide⟩ (hP.sub (ws' := [(mm, .inr (12, [.int m_thrown, .ref p_width, .ref p_many, .ref p_cells, .ref p_moved, .ref p_tape, .int m_taped, .int m_at, .int m_token, .int m_place, .int m_value, .long m_word, .int m_bad, .int m_badPlace, .int m_fault, .int m_faultPlace, .ref p_lines, .ref p_has, .ref p_spot, .ref p_exit, .ref p_isSat, .ref p_change, .ref p_isKept, .ref p_at0, .ref p_doors, .ref p_flow, .ref p_from, .ref p_edge, .ref p_queue, .int m_minutes, .int m_queued, .int m_askLeaves, .int m_blindBest, .int m_claqueActs, .int m_claquePlace, .ref p_comes])), (p_spot, .inl (t 1, 180, .inl f_spot))]) [0, 1] rfl) (hD.sub (ws' := [(mm, .inr (12, [.int m_thrown, .ref p_width, .ref p_many, .ref p_cells, .ref p_moved, .ref p_tape, .int m_taped, .int m_at, .int m_token, .int m_place, .int m_value, .long m_word, .int m_bad, .int m_badPlace, .int m_fault, .int m_faultPlace, .ref p_lines, .ref p_has, .ref p_spot, .ref p_exit, .ref p_isSat, .ref p_change, .ref p_isKept, .ref p_at0, .ref p_doors, .ref p_flow, .ref p_from, .ref p_edge, .ref p_queue, .int m_minutes, .int m_queued, .int m_askLeaves, .int m_blindBest, .int m_claqueActs, .int m_claquePlace, .ref p_comes])), (p_spot, .inl (t 1, 180, .inl f_spot))]) [0, 1] (by decide) rfl) 0 12 rfl rfl rfl rfl hl.1 (rest := []) rfl (Nat.le_of_ble_eq_true rfl) dX12_isGoodPlace_3 ⟨by decide, by decide⟩) hP hD hS hA [0, 1] [] (wr := []) rfl rfl (by decide) (by decide) (fun r_1 u H locs h_2 hP hD hS => ?_)
  have h_2 : (0 ≤ r_1.toInt ∧ r_1.toInt ≤ 4) := h_2
  have b_3 := h_2
  have hP : va_P G vwCl [(mm, .inr (12, [.int m_thrown, .ref p_width, .ref p_many, .ref p_cells, .ref p_moved, .ref p_tape, .int m_taped, .int m_at, .int m_token, .int m_place, .int m_value, .long m_word, .int m_bad, .int m_badPlace, .int m_fault, .int m_faultPlace, .ref p_lines, .ref p_has, .ref p_spot, .ref p_exit, .ref p_isSat, .ref p_change, .ref p_isKept, .ref p_at0, .ref p_doors, .ref p_flow, .ref p_from, .ref p_edge, .ref p_queue, .int m_minutes, .int m_queued, .int m_askLeaves, .int m_blindBest, .int m_claqueActs, .int m_claquePlace, .ref p_comes])), (p_spot, .inl (t 1, 180, .inl f_spot))] H := hP
  have hD : va_D A [(mm, .inr (12, [.int m_thrown, .ref p_width, .ref p_many, .ref p_cells, .ref p_moved, .ref p_tape, .int m_taped, .int m_at, .int m_token, .int m_place, .int m_value, .long m_word, .int m_bad, .int m_badPlace, .int m_fault, .int m_faultPlace, .ref p_lines, .ref p_has, .ref p_spot, .ref p_exit, .ref p_isSat, .ref p_change, .ref p_isKept, .ref p_at0, .ref p_doors, .ref p_flow, .ref p_from, .ref p_edge, .ref p_queue, .int m_minutes, .int m_queued, .int m_askLeaves, .int m_blindBest, .int m_claqueActs, .int m_claquePlace, .ref p_comes])), (p_spot, .inl (t 1, 180, .inl f_spot))] := hD
  refine W.widen (k := 0) (n := 0) (Nat.le_of_ble_eq_true rfl) (Nat.le_of_ble_eq_true rfl) ?_
  refine bF_eq (tgt := 19) hx hb dX12_isGoodPlace_6 (by decide) r_1.toInt rfl (fun c_4 => ?_) (fun c_4 => ?_)
  · refine lv_iconst (v := 1) hx hb dX12_isGoodPlace_19 (by decide) ?_
    refine lv_goto (tgt := 24) hx hb dX12_isGoodPlace_20 (by decide) ?_
    exact rtZ hx hb hr hlocks hS rfl () ((show (1 : Int32).toInt = 0 ∨ (1 : Int32).toInt = 1 from (by have : (1 : Int32).toInt = 1 := rfl; omega))) (hP.sub [0, 1] rfl) (hD.sub [0, 1] (by decide) rfl) dX12_isGoodPlace_24
  · refine lv_aload_n hx hb dX12_isGoodPlace_9 rfl (lv_at hl 0 rfl) ?_
    refine lv_iload_n hx hb dX12_isGoodPlace_10 rfl (lv_at hl 1 rfl) ?_
    refine lv_iconst (v := 2) hx hb dX12_isGoodPlace_11 (by decide) ?_
    refine goI (rnV C0 (m_of2 l G t mm a0 m_thrown p_width p_many p_cells p_moved p_tape m_taped m_at m_token m_place m_value m_word m_bad m_badPlace m_fault m_faultPlace p_lines p_has p_spot p_exit p_isSat p_change p_isKept p_at0 p_doors p_flow p_from p_edge p_queue m_minutes m_queued m_askLeaves m_blindBest m_claqueActs m_claquePlace p_comes f_spot (by omega) (by omega) (by omega) (by omega) (by omega) h_f_spot) lkX12_244 ⟨by decide, by decide⟩ (hP.sub (ws' := [(mm, .inr (12, [.int m_thrown, .ref p_width, .ref p_many, .ref p_cells, .ref p_moved, .ref p_tape, .int m_taped, .int m_at, .int m_token, .int m_place, .int m_value, .long m_word, .int m_bad, .int m_badPlace, .int m_fault, .int m_faultPlace, .ref p_lines, .ref p_has, .ref p_spot, .ref p_exit, .ref p_isSat, .ref p_change, .ref p_isKept, .ref p_at0, .ref p_doors, .ref p_flow, .ref p_from, .ref p_edge, .ref p_queue, .int m_minutes, .int m_queued, .int m_askLeaves, .int m_blindBest, .int m_claqueActs, .int m_claquePlace, .ref p_comes])), (p_spot, .inl (t 1, 180, .inl f_spot))]) [0, 1] rfl) (hD.sub (ws' := [(mm, .inr (12, [.int m_thrown, .ref p_width, .ref p_many, .ref p_cells, .ref p_moved, .ref p_tape, .int m_taped, .int m_at, .int m_token, .int m_place, .int m_value, .long m_word, .int m_bad, .int m_badPlace, .int m_fault, .int m_faultPlace, .ref p_lines, .ref p_has, .ref p_spot, .ref p_exit, .ref p_isSat, .ref p_change, .ref p_isKept, .ref p_at0, .ref p_doors, .ref p_flow, .ref p_from, .ref p_edge, .ref p_queue, .int m_minutes, .int m_queued, .int m_askLeaves, .int m_blindBest, .int m_claqueActs, .int m_claquePlace, .ref p_comes])), (p_spot, .inl (t 1, 180, .inl f_spot))]) [0, 1] (by decide) rfl) 0 12 rfl rfl rfl rfl hl.1 (rest := []) rfl (Nat.le_of_ble_eq_true rfl) dX12_isGoodPlace_12 ⟨by decide, by decide⟩) hP hD hS hA [0, 1] [] (wr := []) rfl rfl (by decide) (by decide) (fun r_5 u H locs h_6 hP hD hS => ?_)
    have h_6 : (0 ≤ r_5.toInt ∧ r_5.toInt ≤ 4) := h_6
    have b_7 := h_6
    have hP : va_P G vwCl [(mm, .inr (12, [.int m_thrown, .ref p_width, .ref p_many, .ref p_cells, .ref p_moved, .ref p_tape, .int m_taped, .int m_at, .int m_token, .int m_place, .int m_value, .long m_word, .int m_bad, .int m_badPlace, .int m_fault, .int m_faultPlace, .ref p_lines, .ref p_has, .ref p_spot, .ref p_exit, .ref p_isSat, .ref p_change, .ref p_isKept, .ref p_at0, .ref p_doors, .ref p_flow, .ref p_from, .ref p_edge, .ref p_queue, .int m_minutes, .int m_queued, .int m_askLeaves, .int m_blindBest, .int m_claqueActs, .int m_claquePlace, .ref p_comes])), (p_spot, .inl (t 1, 180, .inl f_spot))] H := hP
    have hD : va_D A [(mm, .inr (12, [.int m_thrown, .ref p_width, .ref p_many, .ref p_cells, .ref p_moved, .ref p_tape, .int m_taped, .int m_at, .int m_token, .int m_place, .int m_value, .long m_word, .int m_bad, .int m_badPlace, .int m_fault, .int m_faultPlace, .ref p_lines, .ref p_has, .ref p_spot, .ref p_exit, .ref p_isSat, .ref p_change, .ref p_isKept, .ref p_at0, .ref p_doors, .ref p_flow, .ref p_from, .ref p_edge, .ref p_queue, .int m_minutes, .int m_queued, .int m_askLeaves, .int m_blindBest, .int m_claqueActs, .int m_claquePlace, .ref p_comes])), (p_spot, .inl (t 1, 180, .inl f_spot))] := hD
    refine W.widen (k := 0) (n := 0) (Nat.le_of_ble_eq_true rfl) (Nat.le_of_ble_eq_true rfl) ?_
    refine lv_iconst (v := 4) hx hb dX12_isGoodPlace_15 (by decide) ?_
    refine bI_ne (tgt := 23) hx hb dX12_isGoodPlace_16 (by decide) r_5.toInt 4 rfl rfl (fun c_8 => ?_) (fun c_8 => ?_)
    · refine lv_iconst (v := 0) hx hb dX12_isGoodPlace_23 (by decide) ?_
      exact rtZ hx hb hr hlocks hS rfl () ((show (0 : Int32).toInt = 0 ∨ (0 : Int32).toInt = 1 from (by have : (0 : Int32).toInt = 0 := rfl; omega))) (hP.sub [0, 1] rfl) (hD.sub [0, 1] (by decide) rfl) dX12_isGoodPlace_24
    · refine lv_iconst (v := 1) hx hb dX12_isGoodPlace_19 (by decide) ?_
      refine lv_goto (tgt := 24) hx hb dX12_isGoodPlace_20 (by decide) ?_
      exact rtZ hx hb hr hlocks hS rfl () ((show (1 : Int32).toInt = 0 ∨ (1 : Int32).toInt = 1 from (by have : (1 : Int32).toInt = 1 := rfl; omega))) (hP.sub [0, 1] rfl) (hD.sub [0, 1] (by decide) rfl) dX12_isGoodPlace_24

set_option maxHeartbeats 4000000 in
set_option maxRecDepth 100000 in
theorem m_place (l : Launch) (G : va_G) (t : Nat → ClassId) (mm : Nat) (a0 : Int32) (b0 : Int32) (m_thrown : Int32) (p_width : Nat) (p_many : Nat) (p_cells : Nat) (p_moved : Nat) (p_tape : Nat) (m_taped : Int32) (m_at : Int32) (m_token : Int32) (m_place : Int32) (m_value : Int32) (m_word : Int64) (m_bad : Int32) (m_badPlace : Int32) (m_fault : Int32) (m_faultPlace : Int32) (p_lines : Nat) (p_has : Nat) (p_spot : Nat) (p_exit : Nat) (p_isSat : Nat) (p_change : Nat) (p_isKept : Nat) (p_at0 : Nat) (p_doors : Nat) (p_flow : Nat) (p_from : Nat) (p_edge : Nat) (p_queue : Nat) (m_minutes : Int32) (m_queued : Int32) (m_askLeaves : Int32) (m_blindBest : Int32) (m_claqueActs : Int32) (m_claquePlace : Int32) (p_comes : Nat) (f_has : Nat → Int32) (f_spot : Nat → Int32) (h_m_taped : 0 ≤ m_taped.toInt ∧ m_taped.toInt ≤ 1400) (h_m_at : 0 ≤ m_at.toInt ∧ m_at.toInt ≤ 1400) (h_m_value : 0 ≤ m_value.toInt ∧ m_value.toInt ≤ 1000009) (h_m_minutes : 0 ≤ m_minutes.toInt ∧ m_minutes.toInt ≤ 20) (h_f_has : Rp (fun i v => 0 ≤ v ∧ (i % 6 = 0 → v ≤ 6) ∧ (i % 6 = 1 → v ≤ 6) ∧ (i % 6 = 3 → v ≤ 9) ∧ (i % 6 = 4 → v ≤ 7) ∧ (i % 6 = 5 → v ≤ 40)) 30 f_has) (h_f_spot : Rp (fun i v => 0 ≤ v ∧ (i % 4 = 0 → v ≤ 5) ∧ (i % 4 = 1 → v ≤ 5) ∧ (i % 4 = 2 → v ≤ 4)) 180 f_spot) : Ct l G t yX12_place cX12_place 3 (some .int) ({ frames := 2, cells := 0, slots := 0, locals := 47 }) [.ref mm, .int a0, .int b0] [(mm, .inr (12, [.int m_thrown, .ref p_width, .ref p_many, .ref p_cells, .ref p_moved, .ref p_tape, .int m_taped, .int m_at, .int m_token, .int m_place, .int m_value, .long m_word, .int m_bad, .int m_badPlace, .int m_fault, .int m_faultPlace, .ref p_lines, .ref p_has, .ref p_spot, .ref p_exit, .ref p_isSat, .ref p_change, .ref p_isKept, .ref p_at0, .ref p_doors, .ref p_flow, .ref p_from, .ref p_edge, .ref p_queue, .int m_minutes, .int m_queued, .int m_askLeaves, .int m_blindBest, .int m_claqueActs, .int m_claquePlace, .ref p_comes])), (p_has, .inl (t 1, 30, .inl f_has)), (p_spot, .inl (t 1, 180, .inl f_spot))] (QI G (fun r (u : (Int32)) => True) (fun (u : (Int32)) => [(mm, .inr (12, [.int u, .ref p_width, .ref p_many, .ref p_cells, .ref p_moved, .ref p_tape, .int m_taped, .int m_at, .int m_token, .int m_place, .int m_value, .long m_word, .int m_bad, .int m_badPlace, .int m_fault, .int m_faultPlace, .ref p_lines, .ref p_has, .ref p_spot, .ref p_exit, .ref p_isSat, .ref p_change, .ref p_isKept, .ref p_at0, .ref p_doors, .ref p_flow, .ref p_from, .ref p_edge, .ref p_queue, .int m_minutes, .int m_queued, .int m_askLeaves, .int m_blindBest, .int m_claqueActs, .int m_claquePlace, .ref p_comes])), (p_has, .inl (t 1, 30, .inl f_has)), (p_spot, .inl (t 1, 180, .inl f_spot))])) := by
  refine ent (by decide) (Nat.le_of_ble_eq_true rfl) ?_
  intro p e s m args below meth c hx hb hr hml hts hown hlocks hin A hA hK hO hP hD hS ls hl
  have hown : s.vm.findClass RX12 = some m.cls := hown
  have hl : lv_has ls 3 [(0, .ref mm), (1, .int a0), (2, .int b0)] := hl
  have C0 : Cx p s m args c cX12_place 3 RX12 G t := ⟨hx, hb, hml, hown, hts, hK, hO⟩
  have := zrng a0
  have := zrng b0
  refine lv_aload_n hx hb dX12_place_0 rfl (lv_at hl 0 rfl) ?_
  refine lv_iconst (v := 0) hx hb dX12_place_1 (by decide) ?_
  refine pf hx hb hts hown hK hP hD hS 0 inT12 tyX12_ok nmX12 rfl rfl 0 (by decide) tw5_225 rfl rfl rfl (Nat.le_of_ble_eq_true rfl) dX12_place_2 (ws' := [(mm, .inr (12, [.int 0, .ref p_width, .ref p_many, .ref p_cells, .ref p_moved, .ref p_tape, .int m_taped, .int m_at, .int m_token, .int m_place, .int m_value, .long m_word, .int m_bad, .int m_badPlace, .int m_fault, .int m_faultPlace, .ref p_lines, .ref p_has, .ref p_spot, .ref p_exit, .ref p_isSat, .ref p_change, .ref p_isKept, .ref p_at0, .ref p_doors, .ref p_flow, .ref p_from, .ref p_edge, .ref p_queue, .int m_minutes, .int m_queued, .int m_askLeaves, .int m_blindBest, .int m_claqueActs, .int m_claquePlace, .ref p_comes])), (p_has, .inl (t 1, 30, .inl f_has)), (p_spot, .inl (t 1, 180, .inl f_spot))]) rfl (fun H locs hP hD hS => ?_)
  refine lv_aload_n hx hb dX12_place_5 rfl (lv_at hl 0 rfl) ?_
  refine lv_iload_n hx hb dX12_place_6 rfl (lv_at hl 1 rfl) ?_
  refine ilZ hx hb dX12_place_7 a0.toInt rfl (fun v_1 zv_1 => ?_)
  refine goI (rnV C0 (m_isPlace l G t mm v_1 0 p_width p_many p_cells p_moved p_tape m_taped m_at m_token m_place m_value m_word m_bad m_badPlace m_fault m_faultPlace p_lines p_has p_spot p_exit p_isSat p_change p_isKept p_at0 p_doors p_flow p_from p_edge p_queue m_minutes m_queued m_askLeaves m_blindBest m_claqueActs m_claquePlace p_comes f_has (by omega) (by omega) (by omega) (by omega) h_f_has) lkX12_247 ⟨by decide, by decide⟩ (hP.sub (ws' := [(mm, .inr (12, [.int 0, .ref p_width, .ref p_many, .ref p_cells, .ref p_moved, .ref p_tape, .int m_taped, .int m_at, .int m_token, .int m_place, .int m_value, .long m_word, .int m_bad, .int m_badPlace, .int m_fault, .int m_faultPlace, .ref p_lines, .ref p_has, .ref p_spot, .ref p_exit, .ref p_isSat, .ref p_change, .ref p_isKept, .ref p_at0, .ref p_doors, .ref p_flow, .ref p_from, .ref p_edge, .ref p_queue, .int m_minutes, .int m_queued, .int m_askLeaves, .int m_blindBest, .int m_claqueActs, .int m_claquePlace, .ref p_comes])), (p_has, .inl (t 1, 30, .inl f_has))]) [0, 1] rfl) (hD.sub (ws' := [(mm, .inr (12, [.int 0, .ref p_width, .ref p_many, .ref p_cells, .ref p_moved, .ref p_tape, .int m_taped, .int m_at, .int m_token, .int m_place, .int m_value, .long m_word, .int m_bad, .int m_badPlace, .int m_fault, .int m_faultPlace, .ref p_lines, .ref p_has, .ref p_spot, .ref p_exit, .ref p_isSat, .ref p_change, .ref p_isKept, .ref p_at0, .ref p_doors, .ref p_flow, .ref p_from, .ref p_edge, .ref p_queue, .int m_minutes, .int m_queued, .int m_askLeaves, .int m_blindBest, .int m_claqueActs, .int m_claquePlace, .ref p_comes])), (p_has, .inl (t 1, 30, .inl f_has))]) [0, 1] (by decide) rfl) 0 12 rfl rfl rfl rfl hl.1 (rest := []) rfl (Nat.le_of_ble_eq_true rfl) dX12_place_8 ⟨by decide, by decide⟩) hP hD hS hA [0, 1] [2] (wr := [(p_spot, .inl (t 1, 180, .inl f_spot))]) rfl rfl (by decide) (by decide) (fun r_2 u H locs h_3 hP hD hS => ?_)
  have : (3 : Int32).toInt = 3 := rfl
  have h_3 : (r_2.toInt = 0 ∨ (r_2.toInt = 1 ∧ 0 ≤ v_1.toInt ∧ v_1.toInt < (f_has 3).toInt ∧ v_1.toInt ≤ 8)) := h_3
  have b_4 := h_3
  have hP : va_P G vwCl [(p_spot, .inl (t 1, 180, .inl f_spot)), (mm, .inr (12, [.int 0, .ref p_width, .ref p_many, .ref p_cells, .ref p_moved, .ref p_tape, .int m_taped, .int m_at, .int m_token, .int m_place, .int m_value, .long m_word, .int m_bad, .int m_badPlace, .int m_fault, .int m_faultPlace, .ref p_lines, .ref p_has, .ref p_spot, .ref p_exit, .ref p_isSat, .ref p_change, .ref p_isKept, .ref p_at0, .ref p_doors, .ref p_flow, .ref p_from, .ref p_edge, .ref p_queue, .int m_minutes, .int m_queued, .int m_askLeaves, .int m_blindBest, .int m_claqueActs, .int m_claquePlace, .ref p_comes])), (p_has, .inl (t 1, 30, .inl f_has))] H := hP
  have hD : va_D A [(p_spot, .inl (t 1, 180, .inl f_spot)), (mm, .inr (12, [.int 0, .ref p_width, .ref p_many, .ref p_cells, .ref p_moved, .ref p_tape, .int m_taped, .int m_at, .int m_token, .int m_place, .int m_value, .long m_word, .int m_bad, .int m_badPlace, .int m_fault, .int m_faultPlace, .ref p_lines, .ref p_has, .ref p_spot, .ref p_exit, .ref p_isSat, .ref p_change, .ref p_isKept, .ref p_at0, .ref p_doors, .ref p_flow, .ref p_from, .ref p_edge, .ref p_queue, .int m_minutes, .int m_queued, .int m_askLeaves, .int m_blindBest, .int m_claqueActs, .int m_claquePlace, .ref p_comes])), (p_has, .inl (t 1, 30, .inl f_has))] := hD
  refine W.widen (k := 0) (n := 0) (Nat.le_of_ble_eq_true rfl) (Nat.le_of_ble_eq_true rfl) ?_
  refine bF_eq (tgt := 35) hx hb dX12_place_11 (by decide) r_2.toInt rfl (fun c_5 => ?_) (fun c_5 => ?_)
  · refine lv_bipush (v := (-2)) hx hb dX12_place_35 (by decide) ?_
    exact rtI hx hb hr hlocks hS 0 (trivial) (hP.sub [1, 2, 0] rfl) (hD.sub [1, 2, 0] (by decide) rfl) dX12_place_37
  · refine lv_iload_n hx hb dX12_place_14 rfl (lv_at hl 2 rfl) ?_
    refine ilZ hx hb dX12_place_15 b0.toInt rfl (fun v_6 zv_6 => ?_)
    refine lv_lconst (v := 0) hx hb dX12_place_16 (by decide) ?_
    refine lv_ldc2 hx hb hown (hts _ tw6_101) dX12_place_17 ?_
    refine goI (rnS C0 (m_in l G t v_6 (0 : Int64) (3 : Int64)) lkX12_79 ⟨by decide, by decide⟩ (hP.sub (ws' := []) [] rfl) (hD.sub (ws' := []) [] (by decide) rfl) rfl hl.1 (rest := []) rfl (Nat.le_of_ble_eq_true rfl) dX12_place_20 ⟨by decide, by decide⟩) hP hD hS hA [] [0, 1, 2] (wr := [(p_spot, .inl (t 1, 180, .inl f_spot)), (mm, .inr (12, [.int 0, .ref p_width, .ref p_many, .ref p_cells, .ref p_moved, .ref p_tape, .int m_taped, .int m_at, .int m_token, .int m_place, .int m_value, .long m_word, .int m_bad, .int m_badPlace, .int m_fault, .int m_faultPlace, .ref p_lines, .ref p_has, .ref p_spot, .ref p_exit, .ref p_isSat, .ref p_change, .ref p_isKept, .ref p_at0, .ref p_doors, .ref p_flow, .ref p_from, .ref p_edge, .ref p_queue, .int m_minutes, .int m_queued, .int m_askLeaves, .int m_blindBest, .int m_claqueActs, .int m_claquePlace, .ref p_comes])), (p_has, .inl (t 1, 30, .inl f_has))]) rfl rfl (by decide) (by decide) (fun r_7 u H locs h_8 hP hD hS => ?_)
    have : (0 : Int64).toInt = 0 := rfl
    have : (3 : Int64).toInt = 3 := rfl
    have h_8 : ((r_7.toInt = 1 ∧ (0 : Int64).toInt ≤ v_6.toInt ∧ v_6.toInt ≤ (3 : Int64).toInt) ∨ (r_7.toInt = 0 ∧ ¬ ((0 : Int64).toInt ≤ v_6.toInt ∧ v_6.toInt ≤ (3 : Int64).toInt))) := h_8
    have b_9 := h_8
    have hP : va_P G vwCl [(p_spot, .inl (t 1, 180, .inl f_spot)), (mm, .inr (12, [.int 0, .ref p_width, .ref p_many, .ref p_cells, .ref p_moved, .ref p_tape, .int m_taped, .int m_at, .int m_token, .int m_place, .int m_value, .long m_word, .int m_bad, .int m_badPlace, .int m_fault, .int m_faultPlace, .ref p_lines, .ref p_has, .ref p_spot, .ref p_exit, .ref p_isSat, .ref p_change, .ref p_isKept, .ref p_at0, .ref p_doors, .ref p_flow, .ref p_from, .ref p_edge, .ref p_queue, .int m_minutes, .int m_queued, .int m_askLeaves, .int m_blindBest, .int m_claqueActs, .int m_claquePlace, .ref p_comes])), (p_has, .inl (t 1, 30, .inl f_has))] H := hP
    have hD : va_D A [(p_spot, .inl (t 1, 180, .inl f_spot)), (mm, .inr (12, [.int 0, .ref p_width, .ref p_many, .ref p_cells, .ref p_moved, .ref p_tape, .int m_taped, .int m_at, .int m_token, .int m_place, .int m_value, .long m_word, .int m_bad, .int m_badPlace, .int m_fault, .int m_faultPlace, .ref p_lines, .ref p_has, .ref p_spot, .ref p_exit, .ref p_isSat, .ref p_change, .ref p_isKept, .ref p_at0, .ref p_doors, .ref p_flow, .ref p_from, .ref p_edge, .ref p_queue, .int m_minutes, .int m_queued, .int m_askLeaves, .int m_blindBest, .int m_claqueActs, .int m_claquePlace, .ref p_comes])), (p_has, .inl (t 1, 30, .inl f_has))] := hD
    refine W.widen (k := 0) (n := 0) (Nat.le_of_ble_eq_true rfl) (Nat.le_of_ble_eq_true rfl) ?_
    refine bF_eq (tgt := 35) hx hb dX12_place_23 (by decide) r_7.toInt rfl (fun c_10 => ?_) (fun c_10 => ?_)
    · refine lv_bipush (v := (-2)) hx hb dX12_place_35 (by decide) ?_
      exact rtI hx hb hr hlocks hS 0 (trivial) (hP.sub [1, 2, 0] rfl) (hD.sub [1, 2, 0] (by decide) rfl) dX12_place_37
    · refine lv_aload_n hx hb dX12_place_26 rfl (lv_at hl 0 rfl) ?_
      refine lv_iload_n hx hb dX12_place_27 rfl (lv_at hl 1 rfl) ?_
      refine lv_iload_n hx hb dX12_place_28 rfl (lv_at hl 2 rfl) ?_
      refine goI (rnV C0 (m_of l G t mm a0 b0 0 p_width p_many p_cells p_moved p_tape m_taped m_at m_token m_place m_value m_word m_bad m_badPlace m_fault m_faultPlace p_lines p_has p_spot p_exit p_isSat p_change p_isKept p_at0 p_doors p_flow p_from p_edge p_queue m_minutes m_queued m_askLeaves m_blindBest m_claqueActs m_claquePlace p_comes f_spot (by omega) (by omega) (by omega) (by omega) (by omega) (by omega) h_f_spot) lkX12_244 ⟨by decide, by decide⟩ (hP.sub (ws' := [(mm, .inr (12, [.int 0, .ref p_width, .ref p_many, .ref p_cells, .ref p_moved, .ref p_tape, .int m_taped, .int m_at, .int m_token, .int m_place, .int m_value, .long m_word, .int m_bad, .int m_badPlace, .int m_fault, .int m_faultPlace, .ref p_lines, .ref p_has, .ref p_spot, .ref p_exit, .ref p_isSat, .ref p_change, .ref p_isKept, .ref p_at0, .ref p_doors, .ref p_flow, .ref p_from, .ref p_edge, .ref p_queue, .int m_minutes, .int m_queued, .int m_askLeaves, .int m_blindBest, .int m_claqueActs, .int m_claquePlace, .ref p_comes])), (p_spot, .inl (t 1, 180, .inl f_spot))]) [1, 0] rfl) (hD.sub (ws' := [(mm, .inr (12, [.int 0, .ref p_width, .ref p_many, .ref p_cells, .ref p_moved, .ref p_tape, .int m_taped, .int m_at, .int m_token, .int m_place, .int m_value, .long m_word, .int m_bad, .int m_badPlace, .int m_fault, .int m_faultPlace, .ref p_lines, .ref p_has, .ref p_spot, .ref p_exit, .ref p_isSat, .ref p_change, .ref p_isKept, .ref p_at0, .ref p_doors, .ref p_flow, .ref p_from, .ref p_edge, .ref p_queue, .int m_minutes, .int m_queued, .int m_askLeaves, .int m_blindBest, .int m_claqueActs, .int m_claquePlace, .ref p_comes])), (p_spot, .inl (t 1, 180, .inl f_spot))]) [1, 0] (by decide) rfl) 0 12 rfl rfl rfl rfl hl.1 (rest := []) rfl (Nat.le_of_ble_eq_true rfl) dX12_place_29 ⟨by decide, by decide⟩) hP hD hS hA [1, 0] [2] (wr := [(p_has, .inl (t 1, 30, .inl f_has))]) rfl rfl (by decide) (by decide) (fun r_11 u H locs h_12 hP hD hS => ?_)
      have hP : va_P G vwCl [(p_has, .inl (t 1, 30, .inl f_has)), (mm, .inr (12, [.int 0, .ref p_width, .ref p_many, .ref p_cells, .ref p_moved, .ref p_tape, .int m_taped, .int m_at, .int m_token, .int m_place, .int m_value, .long m_word, .int m_bad, .int m_badPlace, .int m_fault, .int m_faultPlace, .ref p_lines, .ref p_has, .ref p_spot, .ref p_exit, .ref p_isSat, .ref p_change, .ref p_isKept, .ref p_at0, .ref p_doors, .ref p_flow, .ref p_from, .ref p_edge, .ref p_queue, .int m_minutes, .int m_queued, .int m_askLeaves, .int m_blindBest, .int m_claqueActs, .int m_claquePlace, .ref p_comes])), (p_spot, .inl (t 1, 180, .inl f_spot))] H := hP
      have hD : va_D A [(p_has, .inl (t 1, 30, .inl f_has)), (mm, .inr (12, [.int 0, .ref p_width, .ref p_many, .ref p_cells, .ref p_moved, .ref p_tape, .int m_taped, .int m_at, .int m_token, .int m_place, .int m_value, .long m_word, .int m_bad, .int m_badPlace, .int m_fault, .int m_faultPlace, .ref p_lines, .ref p_has, .ref p_spot, .ref p_exit, .ref p_isSat, .ref p_change, .ref p_isKept, .ref p_at0, .ref p_doors, .ref p_flow, .ref p_from, .ref p_edge, .ref p_queue, .int m_minutes, .int m_queued, .int m_askLeaves, .int m_blindBest, .int m_claqueActs, .int m_claquePlace, .ref p_comes])), (p_spot, .inl (t 1, 180, .inl f_spot))] := hD
      refine W.widen (k := 0) (n := 0) (Nat.le_of_ble_eq_true rfl) (Nat.le_of_ble_eq_true rfl) ?_
      refine lv_goto (tgt := 37) hx hb dX12_place_32 (by decide) ?_
      exact rtI hx hb hr hlocks hS 0 (trivial) (hP.sub [1, 0, 2] rfl) (hD.sub [1, 0, 2] (by decide) rfl) dX12_place_37

set_option maxHeartbeats 4000000 in
set_option maxRecDepth 100000 in
theorem m_exit (l : Launch) (G : va_G) (t : Nat → ClassId) (mm : Nat) (a0 : Int32) (b0 : Int32) (m_thrown : Int32) (p_width : Nat) (p_many : Nat) (p_cells : Nat) (p_moved : Nat) (p_tape : Nat) (m_taped : Int32) (m_at : Int32) (m_token : Int32) (m_place : Int32) (m_value : Int32) (m_word : Int64) (m_bad : Int32) (m_badPlace : Int32) (m_fault : Int32) (m_faultPlace : Int32) (p_lines : Nat) (p_has : Nat) (p_spot : Nat) (p_exit : Nat) (p_isSat : Nat) (p_change : Nat) (p_isKept : Nat) (p_at0 : Nat) (p_doors : Nat) (p_flow : Nat) (p_from : Nat) (p_edge : Nat) (p_queue : Nat) (m_minutes : Int32) (m_queued : Int32) (m_askLeaves : Int32) (m_blindBest : Int32) (m_claqueActs : Int32) (m_claquePlace : Int32) (p_comes : Nat) (f_has : Nat → Int32) (f_exit : Nat → Int32) (h_m_taped : 0 ≤ m_taped.toInt ∧ m_taped.toInt ≤ 1400) (h_m_at : 0 ≤ m_at.toInt ∧ m_at.toInt ≤ 1400) (h_m_value : 0 ≤ m_value.toInt ∧ m_value.toInt ≤ 1000009) (h_m_minutes : 0 ≤ m_minutes.toInt ∧ m_minutes.toInt ≤ 20) (h_f_has : Rp (fun i v => 0 ≤ v ∧ (i % 6 = 0 → v ≤ 6) ∧ (i % 6 = 1 → v ≤ 6) ∧ (i % 6 = 3 → v ≤ 9) ∧ (i % 6 = 4 → v ≤ 7) ∧ (i % 6 = 5 → v ≤ 40)) 30 f_has) (h_f_exit : Rp (fun i v => i % 4 = 0 → 0 ≤ v ∧ v ≤ 8) 140 f_exit) : Ct l G t yX12_exit cX12_exit 3 (some .int) ({ frames := 2, cells := 0, slots := 0, locals := 47 }) [.ref mm, .int a0, .int b0] [(mm, .inr (12, [.int m_thrown, .ref p_width, .ref p_many, .ref p_cells, .ref p_moved, .ref p_tape, .int m_taped, .int m_at, .int m_token, .int m_place, .int m_value, .long m_word, .int m_bad, .int m_badPlace, .int m_fault, .int m_faultPlace, .ref p_lines, .ref p_has, .ref p_spot, .ref p_exit, .ref p_isSat, .ref p_change, .ref p_isKept, .ref p_at0, .ref p_doors, .ref p_flow, .ref p_from, .ref p_edge, .ref p_queue, .int m_minutes, .int m_queued, .int m_askLeaves, .int m_blindBest, .int m_claqueActs, .int m_claquePlace, .ref p_comes])), (p_has, .inl (t 1, 30, .inl f_has)), (p_exit, .inl (t 1, 140, .inl f_exit))] (QI G (fun r (u : (Int32)) => True) (fun (u : (Int32)) => [(mm, .inr (12, [.int u, .ref p_width, .ref p_many, .ref p_cells, .ref p_moved, .ref p_tape, .int m_taped, .int m_at, .int m_token, .int m_place, .int m_value, .long m_word, .int m_bad, .int m_badPlace, .int m_fault, .int m_faultPlace, .ref p_lines, .ref p_has, .ref p_spot, .ref p_exit, .ref p_isSat, .ref p_change, .ref p_isKept, .ref p_at0, .ref p_doors, .ref p_flow, .ref p_from, .ref p_edge, .ref p_queue, .int m_minutes, .int m_queued, .int m_askLeaves, .int m_blindBest, .int m_claqueActs, .int m_claquePlace, .ref p_comes])), (p_has, .inl (t 1, 30, .inl f_has)), (p_exit, .inl (t 1, 140, .inl f_exit))])) := by
  refine ent (by decide) (Nat.le_of_ble_eq_true rfl) ?_
  intro p e s m args below meth c hx hb hr hml hts hown hlocks hin A hA hK hO hP hD hS ls hl
  have hown : s.vm.findClass RX12 = some m.cls := hown
  have hl : lv_has ls 3 [(0, .ref mm), (1, .int a0), (2, .int b0)] := hl
  have C0 : Cx p s m args c cX12_exit 3 RX12 G t := ⟨hx, hb, hml, hown, hts, hK, hO⟩
  have := zrng a0
  have := zrng b0
  refine lv_aload_n hx hb dX12_exit_0 rfl (lv_at hl 0 rfl) ?_
  refine lv_iconst (v := 0) hx hb dX12_exit_1 (by decide) ?_
  refine pf hx hb hts hown hK hP hD hS 0 inT12 tyX12_ok nmX12 rfl rfl 0 (by decide) tw5_225 rfl rfl rfl (Nat.le_of_ble_eq_true rfl) dX12_exit_2 (ws' := [(mm, .inr (12, [.int 0, .ref p_width, .ref p_many, .ref p_cells, .ref p_moved, .ref p_tape, .int m_taped, .int m_at, .int m_token, .int m_place, .int m_value, .long m_word, .int m_bad, .int m_badPlace, .int m_fault, .int m_faultPlace, .ref p_lines, .ref p_has, .ref p_spot, .ref p_exit, .ref p_isSat, .ref p_change, .ref p_isKept, .ref p_at0, .ref p_doors, .ref p_flow, .ref p_from, .ref p_edge, .ref p_queue, .int m_minutes, .int m_queued, .int m_askLeaves, .int m_blindBest, .int m_claqueActs, .int m_claquePlace, .ref p_comes])), (p_has, .inl (t 1, 30, .inl f_has)), (p_exit, .inl (t 1, 140, .inl f_exit))]) rfl (fun H locs hP hD hS => ?_)
  refine lv_aload_n hx hb dX12_exit_5 rfl (lv_at hl 0 rfl) ?_
  refine lv_iload_n hx hb dX12_exit_6 rfl (lv_at hl 1 rfl) ?_
  refine ilZ hx hb dX12_exit_7 a0.toInt rfl (fun v_1 zv_1 => ?_)
  refine goI (rnV C0 (m_isExit l G t mm v_1 0 p_width p_many p_cells p_moved p_tape m_taped m_at m_token m_place m_value m_word m_bad m_badPlace m_fault m_faultPlace p_lines p_has p_spot p_exit p_isSat p_change p_isKept p_at0 p_doors p_flow p_from p_edge p_queue m_minutes m_queued m_askLeaves m_blindBest m_claqueActs m_claquePlace p_comes f_has (by omega) (by omega) (by omega) (by omega) h_f_has) lkX12_250 ⟨by decide, by decide⟩ (hP.sub (ws' := [(mm, .inr (12, [.int 0, .ref p_width, .ref p_many, .ref p_cells, .ref p_moved, .ref p_tape, .int m_taped, .int m_at, .int m_token, .int m_place, .int m_value, .long m_word, .int m_bad, .int m_badPlace, .int m_fault, .int m_faultPlace, .ref p_lines, .ref p_has, .ref p_spot, .ref p_exit, .ref p_isSat, .ref p_change, .ref p_isKept, .ref p_at0, .ref p_doors, .ref p_flow, .ref p_from, .ref p_edge, .ref p_queue, .int m_minutes, .int m_queued, .int m_askLeaves, .int m_blindBest, .int m_claqueActs, .int m_claquePlace, .ref p_comes])), (p_has, .inl (t 1, 30, .inl f_has))]) [0, 1] rfl) (hD.sub (ws' := [(mm, .inr (12, [.int 0, .ref p_width, .ref p_many, .ref p_cells, .ref p_moved, .ref p_tape, .int m_taped, .int m_at, .int m_token, .int m_place, .int m_value, .long m_word, .int m_bad, .int m_badPlace, .int m_fault, .int m_faultPlace, .ref p_lines, .ref p_has, .ref p_spot, .ref p_exit, .ref p_isSat, .ref p_change, .ref p_isKept, .ref p_at0, .ref p_doors, .ref p_flow, .ref p_from, .ref p_edge, .ref p_queue, .int m_minutes, .int m_queued, .int m_askLeaves, .int m_blindBest, .int m_claqueActs, .int m_claquePlace, .ref p_comes])), (p_has, .inl (t 1, 30, .inl f_has))]) [0, 1] (by decide) rfl) 0 12 rfl rfl rfl rfl hl.1 (rest := []) rfl (Nat.le_of_ble_eq_true rfl) dX12_exit_8 ⟨by decide, by decide⟩) hP hD hS hA [0, 1] [2] (wr := [(p_exit, .inl (t 1, 140, .inl f_exit))]) rfl rfl (by decide) (by decide) (fun r_2 u H locs h_3 hP hD hS => ?_)
  have : (4 : Int32).toInt = 4 := rfl
  have h_3 : (r_2.toInt = 0 ∨ (r_2.toInt = 1 ∧ 0 ≤ v_1.toInt ∧ v_1.toInt < (f_has 4).toInt ∧ v_1.toInt ≤ 6)) := h_3
  have b_4 := h_3
  have hP : va_P G vwCl [(p_exit, .inl (t 1, 140, .inl f_exit)), (mm, .inr (12, [.int 0, .ref p_width, .ref p_many, .ref p_cells, .ref p_moved, .ref p_tape, .int m_taped, .int m_at, .int m_token, .int m_place, .int m_value, .long m_word, .int m_bad, .int m_badPlace, .int m_fault, .int m_faultPlace, .ref p_lines, .ref p_has, .ref p_spot, .ref p_exit, .ref p_isSat, .ref p_change, .ref p_isKept, .ref p_at0, .ref p_doors, .ref p_flow, .ref p_from, .ref p_edge, .ref p_queue, .int m_minutes, .int m_queued, .int m_askLeaves, .int m_blindBest, .int m_claqueActs, .int m_claquePlace, .ref p_comes])), (p_has, .inl (t 1, 30, .inl f_has))] H := hP
  have hD : va_D A [(p_exit, .inl (t 1, 140, .inl f_exit)), (mm, .inr (12, [.int 0, .ref p_width, .ref p_many, .ref p_cells, .ref p_moved, .ref p_tape, .int m_taped, .int m_at, .int m_token, .int m_place, .int m_value, .long m_word, .int m_bad, .int m_badPlace, .int m_fault, .int m_faultPlace, .ref p_lines, .ref p_has, .ref p_spot, .ref p_exit, .ref p_isSat, .ref p_change, .ref p_isKept, .ref p_at0, .ref p_doors, .ref p_flow, .ref p_from, .ref p_edge, .ref p_queue, .int m_minutes, .int m_queued, .int m_askLeaves, .int m_blindBest, .int m_claqueActs, .int m_claquePlace, .ref p_comes])), (p_has, .inl (t 1, 30, .inl f_has))] := hD
  refine W.widen (k := 0) (n := 0) (Nat.le_of_ble_eq_true rfl) (Nat.le_of_ble_eq_true rfl) ?_
  refine bF_eq (tgt := 39) hx hb dX12_exit_11 (by decide) r_2.toInt rfl (fun c_5 => ?_) (fun c_5 => ?_)
  · refine lv_bipush (v := (-2)) hx hb dX12_exit_39 (by decide) ?_
    exact rtI hx hb hr hlocks hS 0 (trivial) (hP.sub [1, 2, 0] rfl) (hD.sub [1, 2, 0] (by decide) rfl) dX12_exit_41
  · refine lv_iload_n hx hb dX12_exit_14 rfl (lv_at hl 2 rfl) ?_
    refine ilZ hx hb dX12_exit_15 b0.toInt rfl (fun v_6 zv_6 => ?_)
    refine lv_lconst (v := 0) hx hb dX12_exit_16 (by decide) ?_
    refine lv_ldc2 hx hb hown (hts _ tw6_101) dX12_exit_17 ?_
    refine goI (rnS C0 (m_in l G t v_6 (0 : Int64) (3 : Int64)) lkX12_79 ⟨by decide, by decide⟩ (hP.sub (ws' := []) [] rfl) (hD.sub (ws' := []) [] (by decide) rfl) rfl hl.1 (rest := []) rfl (Nat.le_of_ble_eq_true rfl) dX12_exit_20 ⟨by decide, by decide⟩) hP hD hS hA [] [0, 1, 2] (wr := [(p_exit, .inl (t 1, 140, .inl f_exit)), (mm, .inr (12, [.int 0, .ref p_width, .ref p_many, .ref p_cells, .ref p_moved, .ref p_tape, .int m_taped, .int m_at, .int m_token, .int m_place, .int m_value, .long m_word, .int m_bad, .int m_badPlace, .int m_fault, .int m_faultPlace, .ref p_lines, .ref p_has, .ref p_spot, .ref p_exit, .ref p_isSat, .ref p_change, .ref p_isKept, .ref p_at0, .ref p_doors, .ref p_flow, .ref p_from, .ref p_edge, .ref p_queue, .int m_minutes, .int m_queued, .int m_askLeaves, .int m_blindBest, .int m_claqueActs, .int m_claquePlace, .ref p_comes])), (p_has, .inl (t 1, 30, .inl f_has))]) rfl rfl (by decide) (by decide) (fun r_7 u H locs h_8 hP hD hS => ?_)
    have : (0 : Int64).toInt = 0 := rfl
    have : (3 : Int64).toInt = 3 := rfl
    have h_8 : ((r_7.toInt = 1 ∧ (0 : Int64).toInt ≤ v_6.toInt ∧ v_6.toInt ≤ (3 : Int64).toInt) ∨ (r_7.toInt = 0 ∧ ¬ ((0 : Int64).toInt ≤ v_6.toInt ∧ v_6.toInt ≤ (3 : Int64).toInt))) := h_8
    have b_9 := h_8
    have hP : va_P G vwCl [(p_exit, .inl (t 1, 140, .inl f_exit)), (mm, .inr (12, [.int 0, .ref p_width, .ref p_many, .ref p_cells, .ref p_moved, .ref p_tape, .int m_taped, .int m_at, .int m_token, .int m_place, .int m_value, .long m_word, .int m_bad, .int m_badPlace, .int m_fault, .int m_faultPlace, .ref p_lines, .ref p_has, .ref p_spot, .ref p_exit, .ref p_isSat, .ref p_change, .ref p_isKept, .ref p_at0, .ref p_doors, .ref p_flow, .ref p_from, .ref p_edge, .ref p_queue, .int m_minutes, .int m_queued, .int m_askLeaves, .int m_blindBest, .int m_claqueActs, .int m_claquePlace, .ref p_comes])), (p_has, .inl (t 1, 30, .inl f_has))] H := hP
    have hD : va_D A [(p_exit, .inl (t 1, 140, .inl f_exit)), (mm, .inr (12, [.int 0, .ref p_width, .ref p_many, .ref p_cells, .ref p_moved, .ref p_tape, .int m_taped, .int m_at, .int m_token, .int m_place, .int m_value, .long m_word, .int m_bad, .int m_badPlace, .int m_fault, .int m_faultPlace, .ref p_lines, .ref p_has, .ref p_spot, .ref p_exit, .ref p_isSat, .ref p_change, .ref p_isKept, .ref p_at0, .ref p_doors, .ref p_flow, .ref p_from, .ref p_edge, .ref p_queue, .int m_minutes, .int m_queued, .int m_askLeaves, .int m_blindBest, .int m_claqueActs, .int m_claquePlace, .ref p_comes])), (p_has, .inl (t 1, 30, .inl f_has))] := hD
    refine W.widen (k := 0) (n := 0) (Nat.le_of_ble_eq_true rfl) (Nat.le_of_ble_eq_true rfl) ?_
    refine bF_eq (tgt := 39) hx hb dX12_exit_23 (by decide) r_7.toInt rfl (fun c_10 => ?_) (fun c_10 => ?_)
    · refine lv_bipush (v := (-2)) hx hb dX12_exit_39 (by decide) ?_
      exact rtI hx hb hr hlocks hS 0 (trivial) (hP.sub [1, 2, 0] rfl) (hD.sub [1, 2, 0] (by decide) rfl) dX12_exit_41
    · refine lv_aload_n hx hb dX12_exit_26 rfl (lv_at hl 0 rfl) ?_
      refine gf hx hb hts hown hK hP 1 inT12 rfl rfl 19 (by decide) tw6_4 rfl dX12_exit_27 ?_
      refine lv_iconst (v := 4) hx hb dX12_exit_30 (by decide) ?_
      refine lv_iload_n hx hb dX12_exit_31 rfl (lv_at hl 1 rfl) ?_
      first | refine muZ hx hb dX12_exit_32 4 a0.toInt rfl rfl (by have := zrng a0; omega) (fun v_11 zv_11 => ?_) | refine lv_imul hx hb dX12_exit_32 (gnI (fun v_11 => ?_))
      refine lv_iload_n hx hb dX12_exit_33 rfl (lv_at hl 2 rfl) ?_
      first | refine adZ hx hb dX12_exit_34 v_11.toInt b0.toInt rfl rfl (by have := zrng v_11; have := zrng b0; omega) (fun v_12 zv_12 => ?_) | refine lv_iadd hx hb dX12_exit_34 (gnI (fun v_12 => ?_))
      refine lpI hx hb hK hP 0 h_f_exit rfl v_12.toInt rfl (by omega) dX12_exit_35 (fun v_13 ev_13 zv_13 => ?_)
      try dsimp only at zv_13
      have kv_13 : v_13.toInt = (f_exit (v_12.toInt).toNat).toInt := by rw [ev_13]
      refine lv_goto (tgt := 41) hx hb dX12_exit_36 (by decide) ?_
      exact rtI hx hb hr hlocks hS 0 (trivial) (hP.sub [1, 2, 0] rfl) (hD.sub [1, 2, 0] (by decide) rfl) dX12_exit_41

set_option maxHeartbeats 4000000 in
set_option maxRecDepth 100000 in
theorem m_sits (l : Launch) (G : va_G) (t : Nat → ClassId) (mm : Nat) (a0 : Int32) (b0 : Int32) (m_thrown : Int32) (p_width : Nat) (p_many : Nat) (p_cells : Nat) (p_moved : Nat) (p_tape : Nat) (m_taped : Int32) (m_at : Int32) (m_token : Int32) (m_place : Int32) (m_value : Int32) (m_word : Int64) (m_bad : Int32) (m_badPlace : Int32) (m_fault : Int32) (m_faultPlace : Int32) (p_lines : Nat) (p_has : Nat) (p_spot : Nat) (p_exit : Nat) (p_isSat : Nat) (p_change : Nat) (p_isKept : Nat) (p_at0 : Nat) (p_doors : Nat) (p_flow : Nat) (p_from : Nat) (p_edge : Nat) (p_queue : Nat) (m_minutes : Int32) (m_queued : Int32) (m_askLeaves : Int32) (m_blindBest : Int32) (m_claqueActs : Int32) (m_claquePlace : Int32) (p_comes : Nat) (f_has : Nat → Int32) (f_isSat : Nat → Int32) (h_m_taped : 0 ≤ m_taped.toInt ∧ m_taped.toInt ≤ 1400) (h_m_at : 0 ≤ m_at.toInt ∧ m_at.toInt ≤ 1400) (h_m_value : 0 ≤ m_value.toInt ∧ m_value.toInt ≤ 1000009) (h_m_minutes : 0 ≤ m_minutes.toInt ∧ m_minutes.toInt ≤ 20) (h_f_has : Rp (fun i v => 0 ≤ v ∧ (i % 6 = 0 → v ≤ 6) ∧ (i % 6 = 1 → v ≤ 6) ∧ (i % 6 = 3 → v ≤ 9) ∧ (i % 6 = 4 → v ≤ 7) ∧ (i % 6 = 5 → v ≤ 40)) 30 f_has) : Ct l G t yX12_sits cX12_sits 3 (some .int) ({ frames := 3, cells := 0, slots := 0, locals := 71 }) [.ref mm, .int a0, .int b0] [(mm, .inr (12, [.int m_thrown, .ref p_width, .ref p_many, .ref p_cells, .ref p_moved, .ref p_tape, .int m_taped, .int m_at, .int m_token, .int m_place, .int m_value, .long m_word, .int m_bad, .int m_badPlace, .int m_fault, .int m_faultPlace, .ref p_lines, .ref p_has, .ref p_spot, .ref p_exit, .ref p_isSat, .ref p_change, .ref p_isKept, .ref p_at0, .ref p_doors, .ref p_flow, .ref p_from, .ref p_edge, .ref p_queue, .int m_minutes, .int m_queued, .int m_askLeaves, .int m_blindBest, .int m_claqueActs, .int m_claquePlace, .ref p_comes])), (p_has, .inl (t 1, 30, .inl f_has)), (p_isSat, .inl (t 3, 180, .inl f_isSat))] (QI G (fun r (u : (Int32)) => True) (fun (u : (Int32)) => [(mm, .inr (12, [.int u, .ref p_width, .ref p_many, .ref p_cells, .ref p_moved, .ref p_tape, .int m_taped, .int m_at, .int m_token, .int m_place, .int m_value, .long m_word, .int m_bad, .int m_badPlace, .int m_fault, .int m_faultPlace, .ref p_lines, .ref p_has, .ref p_spot, .ref p_exit, .ref p_isSat, .ref p_change, .ref p_isKept, .ref p_at0, .ref p_doors, .ref p_flow, .ref p_from, .ref p_edge, .ref p_queue, .int m_minutes, .int m_queued, .int m_askLeaves, .int m_blindBest, .int m_claqueActs, .int m_claquePlace, .ref p_comes])), (p_has, .inl (t 1, 30, .inl f_has)), (p_isSat, .inl (t 3, 180, .inl f_isSat))])) := by
  refine ent (by decide) (Nat.le_of_ble_eq_true rfl) ?_
  intro p e s m args below meth c hx hb hr hml hts hown hlocks hin A hA hK hO hP hD hS ls hl
  have hown : s.vm.findClass RX12 = some m.cls := hown
  have hl : lv_has ls 3 [(0, .ref mm), (1, .int a0), (2, .int b0)] := hl
  have C0 : Cx p s m args c cX12_sits 3 RX12 G t := ⟨hx, hb, hml, hown, hts, hK, hO⟩
  have := zrng a0
  have := zrng b0
  refine lv_aload_n hx hb dX12_sits_0 rfl (lv_at hl 0 rfl) ?_
  refine lv_iconst (v := 0) hx hb dX12_sits_1 (by decide) ?_
  refine pf hx hb hts hown hK hP hD hS 0 inT12 tyX12_ok nmX12 rfl rfl 0 (by decide) tw5_225 rfl rfl rfl (Nat.le_of_ble_eq_true rfl) dX12_sits_2 (ws' := [(mm, .inr (12, [.int 0, .ref p_width, .ref p_many, .ref p_cells, .ref p_moved, .ref p_tape, .int m_taped, .int m_at, .int m_token, .int m_place, .int m_value, .long m_word, .int m_bad, .int m_badPlace, .int m_fault, .int m_faultPlace, .ref p_lines, .ref p_has, .ref p_spot, .ref p_exit, .ref p_isSat, .ref p_change, .ref p_isKept, .ref p_at0, .ref p_doors, .ref p_flow, .ref p_from, .ref p_edge, .ref p_queue, .int m_minutes, .int m_queued, .int m_askLeaves, .int m_blindBest, .int m_claqueActs, .int m_claquePlace, .ref p_comes])), (p_has, .inl (t 1, 30, .inl f_has)), (p_isSat, .inl (t 3, 180, .inl f_isSat))]) rfl (fun H locs hP hD hS => ?_)
  refine lv_aload_n hx hb dX12_sits_5 rfl (lv_at hl 0 rfl) ?_
  refine lv_iload_n hx hb dX12_sits_6 rfl (lv_at hl 1 rfl) ?_
  refine ilZ hx hb dX12_sits_7 a0.toInt rfl (fun v_1 zv_1 => ?_)
  refine lv_iload_n hx hb dX12_sits_8 rfl (lv_at hl 2 rfl) ?_
  refine ilZ hx hb dX12_sits_9 b0.toInt rfl (fun v_2 zv_2 => ?_)
  refine goI (rnV C0 (m_isSeat l G t mm v_1 v_2 0 p_width p_many p_cells p_moved p_tape m_taped m_at m_token m_place m_value m_word m_bad m_badPlace m_fault m_faultPlace p_lines p_has p_spot p_exit p_isSat p_change p_isKept p_at0 p_doors p_flow p_from p_edge p_queue m_minutes m_queued m_askLeaves m_blindBest m_claqueActs m_claquePlace p_comes f_has (by omega) (by omega) (by omega) (by omega) h_f_has) lkX12_253 ⟨by decide, by decide⟩ (hP.sub (ws' := [(mm, .inr (12, [.int 0, .ref p_width, .ref p_many, .ref p_cells, .ref p_moved, .ref p_tape, .int m_taped, .int m_at, .int m_token, .int m_place, .int m_value, .long m_word, .int m_bad, .int m_badPlace, .int m_fault, .int m_faultPlace, .ref p_lines, .ref p_has, .ref p_spot, .ref p_exit, .ref p_isSat, .ref p_change, .ref p_isKept, .ref p_at0, .ref p_doors, .ref p_flow, .ref p_from, .ref p_edge, .ref p_queue, .int m_minutes, .int m_queued, .int m_askLeaves, .int m_blindBest, .int m_claqueActs, .int m_claquePlace, .ref p_comes])), (p_has, .inl (t 1, 30, .inl f_has))]) [0, 1] rfl) (hD.sub (ws' := [(mm, .inr (12, [.int 0, .ref p_width, .ref p_many, .ref p_cells, .ref p_moved, .ref p_tape, .int m_taped, .int m_at, .int m_token, .int m_place, .int m_value, .long m_word, .int m_bad, .int m_badPlace, .int m_fault, .int m_faultPlace, .ref p_lines, .ref p_has, .ref p_spot, .ref p_exit, .ref p_isSat, .ref p_change, .ref p_isKept, .ref p_at0, .ref p_doors, .ref p_flow, .ref p_from, .ref p_edge, .ref p_queue, .int m_minutes, .int m_queued, .int m_askLeaves, .int m_blindBest, .int m_claqueActs, .int m_claquePlace, .ref p_comes])), (p_has, .inl (t 1, 30, .inl f_has))]) [0, 1] (by decide) rfl) 0 12 rfl rfl rfl rfl hl.1 (rest := []) rfl (Nat.le_of_ble_eq_true rfl) dX12_sits_10 ⟨by decide, by decide⟩) hP hD hS hA [0, 1] [2] (wr := [(p_isSat, .inl (t 3, 180, .inl f_isSat))]) rfl rfl (by decide) (by decide) (fun r_3 u H locs h_4 hP hD hS => ?_)
  have : (0 : Int32).toInt = 0 := rfl
  have : (1 : Int32).toInt = 1 := rfl
  have h_4 : (r_3.toInt = 0 ∨ (r_3.toInt = 1 ∧ 0 ≤ v_1.toInt ∧ v_1.toInt < (f_has 0).toInt ∧ v_1.toInt ≤ 5 ∧ 0 ≤ v_2.toInt ∧ v_2.toInt < (f_has 1).toInt ∧ v_2.toInt ≤ 5)) := h_4
  have b_5 := h_4
  have hP : va_P G vwCl [(p_isSat, .inl (t 3, 180, .inl f_isSat)), (mm, .inr (12, [.int 0, .ref p_width, .ref p_many, .ref p_cells, .ref p_moved, .ref p_tape, .int m_taped, .int m_at, .int m_token, .int m_place, .int m_value, .long m_word, .int m_bad, .int m_badPlace, .int m_fault, .int m_faultPlace, .ref p_lines, .ref p_has, .ref p_spot, .ref p_exit, .ref p_isSat, .ref p_change, .ref p_isKept, .ref p_at0, .ref p_doors, .ref p_flow, .ref p_from, .ref p_edge, .ref p_queue, .int m_minutes, .int m_queued, .int m_askLeaves, .int m_blindBest, .int m_claqueActs, .int m_claquePlace, .ref p_comes])), (p_has, .inl (t 1, 30, .inl f_has))] H := hP
  have hD : va_D A [(p_isSat, .inl (t 3, 180, .inl f_isSat)), (mm, .inr (12, [.int 0, .ref p_width, .ref p_many, .ref p_cells, .ref p_moved, .ref p_tape, .int m_taped, .int m_at, .int m_token, .int m_place, .int m_value, .long m_word, .int m_bad, .int m_badPlace, .int m_fault, .int m_faultPlace, .ref p_lines, .ref p_has, .ref p_spot, .ref p_exit, .ref p_isSat, .ref p_change, .ref p_isKept, .ref p_at0, .ref p_doors, .ref p_flow, .ref p_from, .ref p_edge, .ref p_queue, .int m_minutes, .int m_queued, .int m_askLeaves, .int m_blindBest, .int m_claqueActs, .int m_claquePlace, .ref p_comes])), (p_has, .inl (t 1, 30, .inl f_has))] := hD
  refine W.widen (k := 0) (n := 0) (Nat.le_of_ble_eq_true rfl) (Nat.le_of_ble_eq_true rfl) ?_
  refine bF_eq (tgt := 38) hx hb dX12_sits_13 (by decide) r_3.toInt rfl (fun c_6 => ?_) (fun c_6 => ?_)
  · refine lv_bipush (v := (-2)) hx hb dX12_sits_38 (by decide) ?_
    exact rtI hx hb hr hlocks hS 0 (trivial) (hP.sub [1, 2, 0] rfl) (hD.sub [1, 2, 0] (by decide) rfl) dX12_sits_40
  · refine lv_aload_n hx hb dX12_sits_16 rfl (lv_at hl 0 rfl) ?_
    refine gf hx hb hts hown hK hP 1 inT12 rfl rfl 20 (by decide) tw6_5 rfl dX12_sits_17 ?_
    refine lv_bipush (v := 6) hx hb dX12_sits_20 (by decide) ?_
    refine lv_iload_n hx hb dX12_sits_22 rfl (lv_at hl 1 rfl) ?_
    first | refine muZ hx hb dX12_sits_23 6 a0.toInt rfl rfl (by have := zrng a0; omega) (fun v_7 zv_7 => ?_) | refine lv_imul hx hb dX12_sits_23 (gnI (fun v_7 => ?_))
    refine lv_iload_n hx hb dX12_sits_24 rfl (lv_at hl 2 rfl) ?_
    first | refine adZ hx hb dX12_sits_25 v_7.toInt b0.toInt rfl rfl (by have := zrng v_7; have := zrng b0; omega) (fun v_8 zv_8 => ?_) | refine lv_iadd hx hb dX12_sits_25 (gnI (fun v_8 => ?_))
    refine laZ hx hb hK hP 0 rfl v_8.toInt rfl (by omega) dX12_sits_26 (fun v_9 ev_9 => ?_)
    have kv_9 : v_9.toInt = (f_isSat (v_8.toInt).toNat).toInt := by rw [ev_9]
    refine bF_eq (tgt := 34) hx hb dX12_sits_27 (by decide) v_9.toInt rfl (fun c_10 => ?_) (fun c_10 => ?_)
    · refine lv_iconst (v := 0) hx hb dX12_sits_34 (by decide) ?_
      refine lv_goto (tgt := 40) hx hb dX12_sits_35 (by decide) ?_
      exact rtI hx hb hr hlocks hS 0 (trivial) (hP.sub [1, 2, 0] rfl) (hD.sub [1, 2, 0] (by decide) rfl) dX12_sits_40
    · refine lv_iconst (v := 1) hx hb dX12_sits_30 (by decide) ?_
      refine lv_goto (tgt := 40) hx hb dX12_sits_31 (by decide) ?_
      exact rtI hx hb hr hlocks hS 0 (trivial) (hP.sub [1, 2, 0] rfl) (hD.sub [1, 2, 0] (by decide) rfl) dX12_sits_40

set_option maxHeartbeats 4000000 in
set_option maxRecDepth 100000 in
theorem m_cellOf (l : Launch) (G : va_G) (t : Nat → ClassId) (mm : Nat) (a0 : Int32) (b0 : Int32) (m_thrown : Int32) (p_width : Nat) (p_many : Nat) (p_cells : Nat) (p_moved : Nat) (p_tape : Nat) (m_taped : Int32) (m_at : Int32) (m_token : Int32) (m_place : Int32) (m_value : Int32) (m_word : Int64) (m_bad : Int32) (m_badPlace : Int32) (m_fault : Int32) (m_faultPlace : Int32) (p_lines : Nat) (p_has : Nat) (p_spot : Nat) (p_exit : Nat) (p_isSat : Nat) (p_change : Nat) (p_isKept : Nat) (p_at0 : Nat) (p_doors : Nat) (p_flow : Nat) (p_from : Nat) (p_edge : Nat) (p_queue : Nat) (m_minutes : Int32) (m_queued : Int32) (m_askLeaves : Int32) (m_blindBest : Int32) (m_claqueActs : Int32) (m_claquePlace : Int32) (p_comes : Nat) (f_cells : Nat → Int64) (h_a0 : 0 ≤ a0.toInt ∧ a0.toInt ≤ 3) (h_b0 : 0 ≤ b0.toInt ∧ b0.toInt ≤ 59) (h_m_taped : 0 ≤ m_taped.toInt ∧ m_taped.toInt ≤ 1400) (h_m_at : 0 ≤ m_at.toInt ∧ m_at.toInt ≤ 1400) (h_m_value : 0 ≤ m_value.toInt ∧ m_value.toInt ≤ 1000009) (h_m_minutes : 0 ≤ m_minutes.toInt ∧ m_minutes.toInt ≤ 20) : Ct l G t yX12_cellOf cX12_cellOf 3 (some .long) ({ frames := 0, cells := 0, slots := 0, locals := 0 }) [.ref mm, .int a0, .int b0] [(mm, .inr (12, [.int m_thrown, .ref p_width, .ref p_many, .ref p_cells, .ref p_moved, .ref p_tape, .int m_taped, .int m_at, .int m_token, .int m_place, .int m_value, .long m_word, .int m_bad, .int m_badPlace, .int m_fault, .int m_faultPlace, .ref p_lines, .ref p_has, .ref p_spot, .ref p_exit, .ref p_isSat, .ref p_change, .ref p_isKept, .ref p_at0, .ref p_doors, .ref p_flow, .ref p_from, .ref p_edge, .ref p_queue, .int m_minutes, .int m_queued, .int m_askLeaves, .int m_blindBest, .int m_claqueActs, .int m_claquePlace, .ref p_comes])), (p_cells, .inl (t 2, 240, .inr (.inl f_cells)))] (QL G (fun r (u : Unit) => (r = f_cells (60 * a0.toInt + b0.toInt).toNat)) (fun (u : Unit) => [(mm, .inr (12, [.int m_thrown, .ref p_width, .ref p_many, .ref p_cells, .ref p_moved, .ref p_tape, .int m_taped, .int m_at, .int m_token, .int m_place, .int m_value, .long m_word, .int m_bad, .int m_badPlace, .int m_fault, .int m_faultPlace, .ref p_lines, .ref p_has, .ref p_spot, .ref p_exit, .ref p_isSat, .ref p_change, .ref p_isKept, .ref p_at0, .ref p_doors, .ref p_flow, .ref p_from, .ref p_edge, .ref p_queue, .int m_minutes, .int m_queued, .int m_askLeaves, .int m_blindBest, .int m_claqueActs, .int m_claquePlace, .ref p_comes])), (p_cells, .inl (t 2, 240, .inr (.inl f_cells)))])) := by
  refine ent (by decide) (Nat.le_of_ble_eq_true rfl) ?_
  intro p e s m args below meth c hx hb hr hml hts hown hlocks hin A hA hK hO hP hD hS ls hl
  have hown : s.vm.findClass RX12 = some m.cls := hown
  have hl : lv_has ls 3 [(0, .ref mm), (1, .int a0), (2, .int b0)] := hl
  have C0 : Cx p s m args c cX12_cellOf 3 RX12 G t := ⟨hx, hb, hml, hown, hts, hK, hO⟩
  refine lv_aload_n hx hb dX12_cellOf_0 rfl (lv_at hl 0 rfl) ?_
  refine gf hx hb hts hown hK hP 0 inT12 rfl rfl 3 (by decide) tw5_228 rfl dX12_cellOf_1 ?_
  refine lv_bipush (v := 60) hx hb dX12_cellOf_4 (by decide) ?_
  refine lv_iload_n hx hb dX12_cellOf_6 rfl (lv_at hl 1 rfl) ?_
  first | refine muZ hx hb dX12_cellOf_7 60 a0.toInt rfl rfl (by have := zrng a0; omega) (fun v_1 zv_1 => ?_) | refine lv_imul hx hb dX12_cellOf_7 (gnI (fun v_1 => ?_))
  refine lv_iload_n hx hb dX12_cellOf_8 rfl (lv_at hl 2 rfl) ?_
  first | refine adZ hx hb dX12_cellOf_9 v_1.toInt b0.toInt rfl rfl (by have := zrng v_1; have := zrng b0; omega) (fun v_2 zv_2 => ?_) | refine lv_iadd hx hb dX12_cellOf_9 (gnI (fun v_2 => ?_))
  refine laL hx hb hK hP 1 rfl v_2.toInt rfl (by omega) dX12_cellOf_10 (fun v_3 ev_3 => ?_)
  exact rtL hx hb hr hlocks hS () ((by rw [ev_3]; congr 1; omega)) (hP.sub [0, 1] rfl) (hD.sub [0, 1] (by decide) rfl) dX12_cellOf_11

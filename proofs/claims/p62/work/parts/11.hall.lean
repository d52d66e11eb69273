set_option maxHeartbeats 4000000 in
set_option maxRecDepth 100000 in
theorem x_isTold (l : Launch) (G : va_G) (t : Nat → ClassId) (hh : Nat) (hli : Int32) (hro : Int32) (hse : Int32) (hla : Int32) (hpl : Int32) (hex : Int32) (hsi : Int64) (ha1 : Nat) (ha2 : Nat) (ha3 : Nat) (ha4 : Nat) (ha5 : Nat) (ha6 : Nat) (ha7 : Nat) (ha8 : Nat) (hc : Nat) (h_hro : 0 ≤ hro.toInt ∧ hro.toInt ≤ 6) (h_hse : 0 ≤ hse.toInt ∧ hse.toInt ≤ 6) (h_hpl : 0 ≤ hpl.toInt ∧ hpl.toInt ≤ 9) (h_hex : 0 ≤ hex.toInt ∧ hex.toInt ≤ 7) : Ct l G t yX5_isTold cX5_isTold 1 (some .boolean) ({ frames := 0, cells := 0, slots := 0, locals := 0 }) [.ref hh] [(hh, .inr (5, [.int hli, .int hro, .int hse, .int hla, .int hpl, .int hex, .long hsi, .ref ha1, .ref ha2, .ref ha3, .ref ha4, .ref ha5, .ref ha6, .ref ha7, .ref ha8, .ref hc]))] (QI G (fun r (u : Unit) => True) (fun (u : Unit) => [(hh, .inr (5, [.int hli, .int hro, .int hse, .int hla, .int hpl, .int hex, .long hsi, .ref ha1, .ref ha2, .ref ha3, .ref ha4, .ref ha5, .ref ha6, .ref ha7, .ref ha8, .ref hc]))])) := by
  refine ent (by decide) (Nat.le_of_ble_eq_true rfl) ?_
  intro p e s m args below meth c hx hb hr hml hts hown hlocks hin A hA hK hO hP hD hS ls hl
  have hown : s.vm.findClass RX5 = some m.cls := hown
  have hl : lv_has ls 1 [(0, .ref hh)] := hl
  have C0 : Cx p s m args c cX5_isTold 1 RX5 G t := ⟨hx, hb, hml, hown, hts, hK, hO⟩
  refine lv_aload_n hx hb dX5_isTold_0 rfl (lv_at hl 0 rfl) ?_
  refine gf hx hb hts hown hK hP 0 inT5 rfl rfl 0 (by decide) tw1_80 rfl dX5_isTold_1 ?_
  refine bF_le (tgt := 11) hx hb dX5_isTold_4 (by decide) hli.toInt rfl (fun c_1 => ?_) (fun c_1 => ?_)
  · refine lv_iconst (v := 0) hx hb dX5_isTold_11 (by decide) ?_
    exact rtZ hx hb hr hlocks hS rfl () (trivial) (hP.sub [0] rfl) (hD.sub [0] (by decide) rfl) dX5_isTold_12
  · refine lv_iconst (v := 1) hx hb dX5_isTold_7 (by decide) ?_
    refine lv_goto (tgt := 12) hx hb dX5_isTold_8 (by decide) ?_
    exact rtZ hx hb hr hlocks hS rfl () (trivial) (hP.sub [0] rfl) (hD.sub [0] (by decide) rfl) dX5_isTold_12

set_option maxHeartbeats 4000000 in
set_option maxRecDepth 100000 in
theorem x_hasSeat (l : Launch) (G : va_G) (t : Nat → ClassId) (hh : Nat) (a0 : Int32) (b0 : Int32) (hli : Int32) (hro : Int32) (hse : Int32) (hla : Int32) (hpl : Int32) (hex : Int32) (hsi : Int64) (ha1 : Nat) (ha2 : Nat) (ha3 : Nat) (ha4 : Nat) (ha5 : Nat) (ha6 : Nat) (ha7 : Nat) (ha8 : Nat) (hc : Nat) (h_hro : 0 ≤ hro.toInt ∧ hro.toInt ≤ 6) (h_hse : 0 ≤ hse.toInt ∧ hse.toInt ≤ 6) (h_hpl : 0 ≤ hpl.toInt ∧ hpl.toInt ≤ 9) (h_hex : 0 ≤ hex.toInt ∧ hex.toInt ≤ 7) : Ct l G t yX5_hasSeat cX5_hasSeat 3 (some .boolean) ({ frames := 0, cells := 0, slots := 0, locals := 0 }) [.ref hh, .int a0, .int b0] [(hh, .inr (5, [.int hli, .int hro, .int hse, .int hla, .int hpl, .int hex, .long hsi, .ref ha1, .ref ha2, .ref ha3, .ref ha4, .ref ha5, .ref ha6, .ref ha7, .ref ha8, .ref hc]))] (QI G (fun r (u : Unit) => (r.toInt = 0 ∨ (r.toInt = 1 ∧ 0 ≤ a0.toInt ∧ a0.toInt < hro.toInt ∧ 0 ≤ b0.toInt ∧ b0.toInt < hse.toInt))) (fun (u : Unit) => [(hh, .inr (5, [.int hli, .int hro, .int hse, .int hla, .int hpl, .int hex, .long hsi, .ref ha1, .ref ha2, .ref ha3, .ref ha4, .ref ha5, .ref ha6, .ref ha7, .ref ha8, .ref hc]))])) := by
  refine ent (by decide) (Nat.le_of_ble_eq_true rfl) ?_
  intro p e s m args below meth c hx hb hr hml hts hown hlocks hin A hA hK hO hP hD hS ls hl
  have hown : s.vm.findClass RX5 = some m.cls := hown
  have hl : lv_has ls 3 [(0, .ref hh), (1, .int a0), (2, .int b0)] := hl
  have C0 : Cx p s m args c cX5_hasSeat 3 RX5 G t := ⟨hx, hb, hml, hown, hts, hK, hO⟩
  have := zrng a0
  have := zrng b0
  refine lv_iload_n hx hb dX5_hasSeat_0 rfl (lv_at hl 1 rfl) ?_
  refine bF_lt (tgt := 28) hx hb dX5_hasSeat_1 (by decide) a0.toInt rfl (fun c_1 => ?_) (fun c_1 => ?_)
  · refine lv_iconst (v := 0) hx hb dX5_hasSeat_28 (by decide) ?_
    exact rtZ hx hb hr hlocks hS rfl () ((show (0 : Int32).toInt = 0 ∨ ((0 : Int32).toInt = 1 ∧ 0 ≤ a0.toInt ∧ a0.toInt < hro.toInt ∧ 0 ≤ b0.toInt ∧ b0.toInt < hse.toInt) from (by have : (0 : Int32).toInt = 0 := rfl; omega))) (hP.sub [0] rfl) (hD.sub [0] (by decide) rfl) dX5_hasSeat_29
  · refine lv_iload_n hx hb dX5_hasSeat_4 rfl (lv_at hl 1 rfl) ?_
    refine lv_aload_n hx hb dX5_hasSeat_5 rfl (lv_at hl 0 rfl) ?_
    refine gf hx hb hts hown hK hP 0 inT5 rfl rfl 1 (by decide) tw1_83 rfl dX5_hasSeat_6 ?_
    refine bI_ge (tgt := 28) hx hb dX5_hasSeat_9 (by decide) a0.toInt hro.toInt rfl rfl (fun c_2 => ?_) (fun c_2 => ?_)
    · refine lv_iconst (v := 0) hx hb dX5_hasSeat_28 (by decide) ?_
      exact rtZ hx hb hr hlocks hS rfl () ((show (0 : Int32).toInt = 0 ∨ ((0 : Int32).toInt = 1 ∧ 0 ≤ a0.toInt ∧ a0.toInt < hro.toInt ∧ 0 ≤ b0.toInt ∧ b0.toInt < hse.toInt) from (by have : (0 : Int32).toInt = 0 := rfl; omega))) (hP.sub [0] rfl) (hD.sub [0] (by decide) rfl) dX5_hasSeat_29
    · refine lv_iload_n hx hb dX5_hasSeat_12 rfl (lv_at hl 2 rfl) ?_
      refine bF_lt (tgt := 28) hx hb dX5_hasSeat_13 (by decide) b0.toInt rfl (fun c_3 => ?_) (fun c_3 => ?_)
      · refine lv_iconst (v := 0) hx hb dX5_hasSeat_28 (by decide) ?_
        exact rtZ hx hb hr hlocks hS rfl () ((show (0 : Int32).toInt = 0 ∨ ((0 : Int32).toInt = 1 ∧ 0 ≤ a0.toInt ∧ a0.toInt < hro.toInt ∧ 0 ≤ b0.toInt ∧ b0.toInt < hse.toInt) from (by have : (0 : Int32).toInt = 0 := rfl; omega))) (hP.sub [0] rfl) (hD.sub [0] (by decide) rfl) dX5_hasSeat_29
      · refine lv_iload_n hx hb dX5_hasSeat_16 rfl (lv_at hl 2 rfl) ?_
        refine lv_aload_n hx hb dX5_hasSeat_17 rfl (lv_at hl 0 rfl) ?_
        refine gf hx hb hts hown hK hP 0 inT5 rfl rfl 2 (by decide) tw1_88 rfl dX5_hasSeat_18 ?_
        refine bI_ge (tgt := 28) hx hb dX5_hasSeat_21 (by decide) b0.toInt hse.toInt rfl rfl (fun c_4 => ?_) (fun c_4 => ?_)
        · refine lv_iconst (v := 0) hx hb dX5_hasSeat_28 (by decide) ?_
          exact rtZ hx hb hr hlocks hS rfl () ((show (0 : Int32).toInt = 0 ∨ ((0 : Int32).toInt = 1 ∧ 0 ≤ a0.toInt ∧ a0.toInt < hro.toInt ∧ 0 ≤ b0.toInt ∧ b0.toInt < hse.toInt) from (by have : (0 : Int32).toInt = 0 := rfl; omega))) (hP.sub [0] rfl) (hD.sub [0] (by decide) rfl) dX5_hasSeat_29
        · refine lv_iconst (v := 1) hx hb dX5_hasSeat_24 (by decide) ?_
          refine lv_goto (tgt := 29) hx hb dX5_hasSeat_25 (by decide) ?_
          exact rtZ hx hb hr hlocks hS rfl () ((show (1 : Int32).toInt = 0 ∨ ((1 : Int32).toInt = 1 ∧ 0 ≤ a0.toInt ∧ a0.toInt < hro.toInt ∧ 0 ≤ b0.toInt ∧ b0.toInt < hse.toInt) from (by have : (1 : Int32).toInt = 1 := rfl; omega))) (hP.sub [0] rfl) (hD.sub [0] (by decide) rfl) dX5_hasSeat_29

set_option maxHeartbeats 4000000 in
set_option maxRecDepth 100000 in
theorem x_hasPlace (l : Launch) (G : va_G) (t : Nat → ClassId) (hh : Nat) (a0 : Int32) (hli : Int32) (hro : Int32) (hse : Int32) (hla : Int32) (hpl : Int32) (hex : Int32) (hsi : Int64) (ha1 : Nat) (ha2 : Nat) (ha3 : Nat) (ha4 : Nat) (ha5 : Nat) (ha6 : Nat) (ha7 : Nat) (ha8 : Nat) (hc : Nat) (h_hro : 0 ≤ hro.toInt ∧ hro.toInt ≤ 6) (h_hse : 0 ≤ hse.toInt ∧ hse.toInt ≤ 6) (h_hpl : 0 ≤ hpl.toInt ∧ hpl.toInt ≤ 9) (h_hex : 0 ≤ hex.toInt ∧ hex.toInt ≤ 7) : Ct l G t yX5_hasPlace cX5_hasPlace 2 (some .boolean) ({ frames := 0, cells := 0, slots := 0, locals := 0 }) [.ref hh, .int a0] [(hh, .inr (5, [.int hli, .int hro, .int hse, .int hla, .int hpl, .int hex, .long hsi, .ref ha1, .ref ha2, .ref ha3, .ref ha4, .ref ha5, .ref ha6, .ref ha7, .ref ha8, .ref hc]))] (QI G (fun r (u : Unit) => (r.toInt = 0 ∨ (r.toInt = 1 ∧ 0 ≤ a0.toInt ∧ a0.toInt < hpl.toInt ∧ a0.toInt ≤ 8))) (fun (u : Unit) => [(hh, .inr (5, [.int hli, .int hro, .int hse, .int hla, .int hpl, .int hex, .long hsi, .ref ha1, .ref ha2, .ref ha3, .ref ha4, .ref ha5, .ref ha6, .ref ha7, .ref ha8, .ref hc]))])) := by
  refine ent (by decide) (Nat.le_of_ble_eq_true rfl) ?_
  intro p e s m args below meth c hx hb hr hml hts hown hlocks hin A hA hK hO hP hD hS ls hl
  have hown : s.vm.findClass RX5 = some m.cls := hown
  have hl : lv_has ls 2 [(0, .ref hh), (1, .int a0)] := hl
  have C0 : Cx p s m args c cX5_hasPlace 2 RX5 G t := ⟨hx, hb, hml, hown, hts, hK, hO⟩
  have := zrng a0
  refine lv_iload_n hx hb dX5_hasPlace_0 rfl (lv_at hl 1 rfl) ?_
  refine bF_lt (tgt := 22) hx hb dX5_hasPlace_1 (by decide) a0.toInt rfl (fun c_1 => ?_) (fun c_1 => ?_)
  · refine lv_iconst (v := 0) hx hb dX5_hasPlace_22 (by decide) ?_
    exact rtZ hx hb hr hlocks hS rfl () ((show (0 : Int32).toInt = 0 ∨ ((0 : Int32).toInt = 1 ∧ 0 ≤ a0.toInt ∧ a0.toInt < hpl.toInt ∧ a0.toInt ≤ 8) from (by have : (0 : Int32).toInt = 0 := rfl; omega))) (hP.sub [0] rfl) (hD.sub [0] (by decide) rfl) dX5_hasPlace_23
  · refine lv_iload_n hx hb dX5_hasPlace_4 rfl (lv_at hl 1 rfl) ?_
    refine lv_aload_n hx hb dX5_hasPlace_5 rfl (lv_at hl 0 rfl) ?_
    refine gf hx hb hts hown hK hP 0 inT5 rfl rfl 4 (by decide) tw1_97 rfl dX5_hasPlace_6 ?_
    refine bI_ge (tgt := 22) hx hb dX5_hasPlace_9 (by decide) a0.toInt hpl.toInt rfl rfl (fun c_2 => ?_) (fun c_2 => ?_)
    · refine lv_iconst (v := 0) hx hb dX5_hasPlace_22 (by decide) ?_
      exact rtZ hx hb hr hlocks hS rfl () ((show (0 : Int32).toInt = 0 ∨ ((0 : Int32).toInt = 1 ∧ 0 ≤ a0.toInt ∧ a0.toInt < hpl.toInt ∧ a0.toInt ≤ 8) from (by have : (0 : Int32).toInt = 0 := rfl; omega))) (hP.sub [0] rfl) (hD.sub [0] (by decide) rfl) dX5_hasPlace_23
    · refine lv_iload_n hx hb dX5_hasPlace_12 rfl (lv_at hl 1 rfl) ?_
      refine lv_bipush (v := 9) hx hb dX5_hasPlace_13 (by decide) ?_
      refine bI_ge (tgt := 22) hx hb dX5_hasPlace_15 (by decide) a0.toInt 9 rfl rfl (fun c_3 => ?_) (fun c_3 => ?_)
      · refine lv_iconst (v := 0) hx hb dX5_hasPlace_22 (by decide) ?_
        exact rtZ hx hb hr hlocks hS rfl () ((show (0 : Int32).toInt = 0 ∨ ((0 : Int32).toInt = 1 ∧ 0 ≤ a0.toInt ∧ a0.toInt < hpl.toInt ∧ a0.toInt ≤ 8) from (by have : (0 : Int32).toInt = 0 := rfl; omega))) (hP.sub [0] rfl) (hD.sub [0] (by decide) rfl) dX5_hasPlace_23
      · refine lv_iconst (v := 1) hx hb dX5_hasPlace_18 (by decide) ?_
        refine lv_goto (tgt := 23) hx hb dX5_hasPlace_19 (by decide) ?_
        exact rtZ hx hb hr hlocks hS rfl () ((show (1 : Int32).toInt = 0 ∨ ((1 : Int32).toInt = 1 ∧ 0 ≤ a0.toInt ∧ a0.toInt < hpl.toInt ∧ a0.toInt ≤ 8) from (by have : (1 : Int32).toInt = 1 := rfl; omega))) (hP.sub [0] rfl) (hD.sub [0] (by decide) rfl) dX5_hasPlace_23

set_option maxHeartbeats 4000000 in
set_option maxRecDepth 100000 in
theorem x_hasExit (l : Launch) (G : va_G) (t : Nat → ClassId) (hh : Nat) (a0 : Int32) (hli : Int32) (hro : Int32) (hse : Int32) (hla : Int32) (hpl : Int32) (hex : Int32) (hsi : Int64) (ha1 : Nat) (ha2 : Nat) (ha3 : Nat) (ha4 : Nat) (ha5 : Nat) (ha6 : Nat) (ha7 : Nat) (ha8 : Nat) (hc : Nat) (h_hro : 0 ≤ hro.toInt ∧ hro.toInt ≤ 6) (h_hse : 0 ≤ hse.toInt ∧ hse.toInt ≤ 6) (h_hpl : 0 ≤ hpl.toInt ∧ hpl.toInt ≤ 9) (h_hex : 0 ≤ hex.toInt ∧ hex.toInt ≤ 7) : Ct l G t yX5_hasExit cX5_hasExit 2 (some .boolean) ({ frames := 0, cells := 0, slots := 0, locals := 0 }) [.ref hh, .int a0] [(hh, .inr (5, [.int hli, .int hro, .int hse, .int hla, .int hpl, .int hex, .long hsi, .ref ha1, .ref ha2, .ref ha3, .ref ha4, .ref ha5, .ref ha6, .ref ha7, .ref ha8, .ref hc]))] (QI G (fun r (u : Unit) => (r.toInt = 0 ∨ (r.toInt = 1 ∧ 0 ≤ a0.toInt ∧ a0.toInt < hex.toInt ∧ a0.toInt ≤ 6))) (fun (u : Unit) => [(hh, .inr (5, [.int hli, .int hro, .int hse, .int hla, .int hpl, .int hex, .long hsi, .ref ha1, .ref ha2, .ref ha3, .ref ha4, .ref ha5, .ref ha6, .ref ha7, .ref ha8, .ref hc]))])) := by
  refine ent (by decide) (Nat.le_of_ble_eq_true rfl) ?_
  intro p e s m args below meth c hx hb hr hml hts hown hlocks hin A hA hK hO hP hD hS ls hl
  have hown : s.vm.findClass RX5 = some m.cls := hown
  have hl : lv_has ls 2 [(0, .ref hh), (1, .int a0)] := hl
  have C0 : Cx p s m args c cX5_hasExit 2 RX5 G t := ⟨hx, hb, hml, hown, hts, hK, hO⟩
  have := zrng a0
  refine lv_iload_n hx hb dX5_hasExit_0 rfl (lv_at hl 1 rfl) ?_
  refine bF_lt (tgt := 22) hx hb dX5_hasExit_1 (by decide) a0.toInt rfl (fun c_1 => ?_) (fun c_1 => ?_)
  · refine lv_iconst (v := 0) hx hb dX5_hasExit_22 (by decide) ?_
    exact rtZ hx hb hr hlocks hS rfl () ((show (0 : Int32).toInt = 0 ∨ ((0 : Int32).toInt = 1 ∧ 0 ≤ a0.toInt ∧ a0.toInt < hex.toInt ∧ a0.toInt ≤ 6) from (by have : (0 : Int32).toInt = 0 := rfl; omega))) (hP.sub [0] rfl) (hD.sub [0] (by decide) rfl) dX5_hasExit_23
  · refine lv_iload_n hx hb dX5_hasExit_4 rfl (lv_at hl 1 rfl) ?_
    refine lv_aload_n hx hb dX5_hasExit_5 rfl (lv_at hl 0 rfl) ?_
    refine gf hx hb hts hown hK hP 0 inT5 rfl rfl 5 (by decide) tw1_103 rfl dX5_hasExit_6 ?_
    refine bI_ge (tgt := 22) hx hb dX5_hasExit_9 (by decide) a0.toInt hex.toInt rfl rfl (fun c_2 => ?_) (fun c_2 => ?_)
    · refine lv_iconst (v := 0) hx hb dX5_hasExit_22 (by decide) ?_
      exact rtZ hx hb hr hlocks hS rfl () ((show (0 : Int32).toInt = 0 ∨ ((0 : Int32).toInt = 1 ∧ 0 ≤ a0.toInt ∧ a0.toInt < hex.toInt ∧ a0.toInt ≤ 6) from (by have : (0 : Int32).toInt = 0 := rfl; omega))) (hP.sub [0] rfl) (hD.sub [0] (by decide) rfl) dX5_hasExit_23
    · refine lv_iload_n hx hb dX5_hasExit_12 rfl (lv_at hl 1 rfl) ?_
      refine lv_bipush (v := 7) hx hb dX5_hasExit_13 (by decide) ?_
      refine bI_ge (tgt := 22) hx hb dX5_hasExit_15 (by decide) a0.toInt 7 rfl rfl (fun c_3 => ?_) (fun c_3 => ?_)
      · refine lv_iconst (v := 0) hx hb dX5_hasExit_22 (by decide) ?_
        exact rtZ hx hb hr hlocks hS rfl () ((show (0 : Int32).toInt = 0 ∨ ((0 : Int32).toInt = 1 ∧ 0 ≤ a0.toInt ∧ a0.toInt < hex.toInt ∧ a0.toInt ≤ 6) from (by have : (0 : Int32).toInt = 0 := rfl; omega))) (hP.sub [0] rfl) (hD.sub [0] (by decide) rfl) dX5_hasExit_23
      · refine lv_iconst (v := 1) hx hb dX5_hasExit_18 (by decide) ?_
        refine lv_goto (tgt := 23) hx hb dX5_hasExit_19 (by decide) ?_
        exact rtZ hx hb hr hlocks hS rfl () ((show (1 : Int32).toInt = 0 ∨ ((1 : Int32).toInt = 1 ∧ 0 ≤ a0.toInt ∧ a0.toInt < hex.toInt ∧ a0.toInt ≤ 6) from (by have : (1 : Int32).toInt = 1 := rfl; omega))) (hP.sub [0] rfl) (hD.sub [0] (by decide) rfl) dX5_hasExit_23

set_option maxHeartbeats 4000000 in
set_option maxRecDepth 100000 in
theorem x_clear (l : Launch) (G : va_G) (t : Nat → ClassId) (hh : Nat) (hli : Int32) (hro : Int32) (hse : Int32) (hla : Int32) (hpl : Int32) (hex : Int32) (hsi : Int64) (ha1 : Nat) (ha2 : Nat) (ha3 : Nat) (ha4 : Nat) (ha5 : Nat) (ha6 : Nat) (ha7 : Nat) (ha8 : Nat) (hc : Nat) (hcs : Int32) (hb1 : Nat) (hb2 : Nat) (hb3 : Nat) (hb4 : Nat) (h_hro : 0 ≤ hro.toInt ∧ hro.toInt ≤ 6) (h_hse : 0 ≤ hse.toInt ∧ hse.toInt ≤ 6) (h_hpl : 0 ≤ hpl.toInt ∧ hpl.toInt ≤ 9) (h_hex : 0 ≤ hex.toInt ∧ hex.toInt ≤ 7) (h_hcs : 0 ≤ hcs.toInt ∧ hcs.toInt ≤ 40) : Ct l G t yX5_clear cX5_clear 1 none ({ frames := 0, cells := 0, slots := 0, locals := 0 }) [.ref hh] [(hh, .inr (5, [.int hli, .int hro, .int hse, .int hla, .int hpl, .int hex, .long hsi, .ref ha1, .ref ha2, .ref ha3, .ref ha4, .ref ha5, .ref ha6, .ref ha7, .ref ha8, .ref hc])), (hc, .inr (1, [.int hcs, .ref hb1, .ref hb2, .ref hb3, .ref hb4]))] (QV G (fun (u : (Int32) × (Int32) × (Int32) × (Int32) × (Int32) × (Int32) × (Int64) × (Int32)) => (0 ≤ u.2.1.toInt ∧ u.2.1.toInt ≤ 6) ∧ (0 ≤ u.2.2.1.toInt ∧ u.2.2.1.toInt ≤ 6) ∧ (0 ≤ u.2.2.2.2.1.toInt ∧ u.2.2.2.2.1.toInt ≤ 9) ∧ (0 ≤ u.2.2.2.2.2.1.toInt ∧ u.2.2.2.2.2.1.toInt ≤ 7) ∧ (0 ≤ u.2.2.2.2.2.2.2.toInt ∧ u.2.2.2.2.2.2.2.toInt ≤ 40)) (fun (u : (Int32) × (Int32) × (Int32) × (Int32) × (Int32) × (Int32) × (Int64) × (Int32)) => [(hh, .inr (5, [.int u.1, .int u.2.1, .int u.2.2.1, .int u.2.2.2.1, .int u.2.2.2.2.1, .int u.2.2.2.2.2.1, .long u.2.2.2.2.2.2.1, .ref ha1, .ref ha2, .ref ha3, .ref ha4, .ref ha5, .ref ha6, .ref ha7, .ref ha8, .ref hc])), (hc, .inr (1, [.int u.2.2.2.2.2.2.2, .ref hb1, .ref hb2, .ref hb3, .ref hb4]))])) := by
  refine ent (by decide) (Nat.le_of_ble_eq_true rfl) ?_
  intro p e s m args below meth c hx hb hr hml hts hown hlocks hin A hA hK hO hP hD hS ls hl
  have hown : s.vm.findClass RX5 = some m.cls := hown
  have hl : lv_has ls 1 [(0, .ref hh)] := hl
  have C0 : Cx p s m args c cX5_clear 1 RX5 G t := ⟨hx, hb, hml, hown, hts, hK, hO⟩
  refine lv_aload_n hx hb dX5_clear_0 rfl (lv_at hl 0 rfl) ?_
  refine lv_iconst (v := 0) hx hb dX5_clear_1 (by decide) ?_
  refine pf hx hb hts hown hK hP hD hS 0 inT5 tyX5_ok nmX5 rfl rfl 0 (by decide) tw1_80 rfl rfl rfl (Nat.le_of_ble_eq_true rfl) dX5_clear_2 (ws' := [(hh, .inr (5, [.int 0, .int hro, .int hse, .int hla, .int hpl, .int hex, .long hsi, .ref ha1, .ref ha2, .ref ha3, .ref ha4, .ref ha5, .ref ha6, .ref ha7, .ref ha8, .ref hc])), (hc, .inr (1, [.int hcs, .ref hb1, .ref hb2, .ref hb3, .ref hb4]))]) rfl (fun H locs hP hD hS => ?_)
  refine lv_aload_n hx hb dX5_clear_5 rfl (lv_at hl 0 rfl) ?_
  refine lv_iconst (v := 0) hx hb dX5_clear_6 (by decide) ?_
  refine pf hx hb hts hown hK hP hD hS 0 inT5 tyX5_ok nmX5 rfl rfl 1 (by decide) tw1_83 rfl rfl rfl (Nat.le_of_ble_eq_true rfl) dX5_clear_7 (ws' := [(hh, .inr (5, [.int 0, .int 0, .int hse, .int hla, .int hpl, .int hex, .long hsi, .ref ha1, .ref ha2, .ref ha3, .ref ha4, .ref ha5, .ref ha6, .ref ha7, .ref ha8, .ref hc])), (hc, .inr (1, [.int hcs, .ref hb1, .ref hb2, .ref hb3, .ref hb4]))]) rfl (fun H locs hP hD hS => ?_)
  refine lv_aload_n hx hb dX5_clear_10 rfl (lv_at hl 0 rfl) ?_
  refine lv_iconst (v := 0) hx hb dX5_clear_11 (by decide) ?_
  refine pf hx hb hts hown hK hP hD hS 0 inT5 tyX5_ok nmX5 rfl rfl 2 (by decide) tw1_88 rfl rfl rfl (Nat.le_of_ble_eq_true rfl) dX5_clear_12 (ws' := [(hh, .inr (5, [.int 0, .int 0, .int 0, .int hla, .int hpl, .int hex, .long hsi, .ref ha1, .ref ha2, .ref ha3, .ref ha4, .ref ha5, .ref ha6, .ref ha7, .ref ha8, .ref hc])), (hc, .inr (1, [.int hcs, .ref hb1, .ref hb2, .ref hb3, .ref hb4]))]) rfl (fun H locs hP hD hS => ?_)
  refine lv_aload_n hx hb dX5_clear_15 rfl (lv_at hl 0 rfl) ?_
  refine lv_iconst (v := 0) hx hb dX5_clear_16 (by decide) ?_
  refine pf hx hb hts hown hK hP hD hS 0 inT5 tyX5_ok nmX5 rfl rfl 3 (by decide) tw1_93 rfl rfl rfl (Nat.le_of_ble_eq_true rfl) dX5_clear_17 (ws' := [(hh, .inr (5, [.int 0, .int 0, .int 0, .int 0, .int hpl, .int hex, .long hsi, .ref ha1, .ref ha2, .ref ha3, .ref ha4, .ref ha5, .ref ha6, .ref ha7, .ref ha8, .ref hc])), (hc, .inr (1, [.int hcs, .ref hb1, .ref hb2, .ref hb3, .ref hb4]))]) rfl (fun H locs hP hD hS => ?_)
  refine lv_aload_n hx hb dX5_clear_20 rfl (lv_at hl 0 rfl) ?_
  refine lv_iconst (v := 0) hx hb dX5_clear_21 (by decide) ?_
  refine pf hx hb hts hown hK hP hD hS 0 inT5 tyX5_ok nmX5 rfl rfl 4 (by decide) tw1_97 rfl rfl rfl (Nat.le_of_ble_eq_true rfl) dX5_clear_22 (ws' := [(hh, .inr (5, [.int 0, .int 0, .int 0, .int 0, .int 0, .int hex, .long hsi, .ref ha1, .ref ha2, .ref ha3, .ref ha4, .ref ha5, .ref ha6, .ref ha7, .ref ha8, .ref hc])), (hc, .inr (1, [.int hcs, .ref hb1, .ref hb2, .ref hb3, .ref hb4]))]) rfl (fun H locs hP hD hS => ?_)
  refine lv_aload_n hx hb dX5_clear_25 rfl (lv_at hl 0 rfl) ?_
  refine lv_iconst (v := 0) hx hb dX5_clear_26 (by decide) ?_
  refine pf hx hb hts hown hK hP hD hS 0 inT5 tyX5_ok nmX5 rfl rfl 5 (by decide) tw1_103 rfl rfl rfl (Nat.le_of_ble_eq_true rfl) dX5_clear_27 (ws' := [(hh, .inr (5, [.int 0, .int 0, .int 0, .int 0, .int 0, .int 0, .long hsi, .ref ha1, .ref ha2, .ref ha3, .ref ha4, .ref ha5, .ref ha6, .ref ha7, .ref ha8, .ref hc])), (hc, .inr (1, [.int hcs, .ref hb1, .ref hb2, .ref hb3, .ref hb4]))]) rfl (fun H locs hP hD hS => ?_)
  refine lv_aload_n hx hb dX5_clear_30 rfl (lv_at hl 0 rfl) ?_
  refine lv_lconst (v := 0) hx hb dX5_clear_31 (by decide) ?_
  refine pf hx hb hts hown hK hP hD hS 0 inT5 tyX5_ok nmX5 rfl rfl 6 (by decide) tw1_109 rfl rfl rfl (Nat.le_of_ble_eq_true rfl) dX5_clear_32 (ws' := [(hh, .inr (5, [.int 0, .int 0, .int 0, .int 0, .int 0, .int 0, .long 0, .ref ha1, .ref ha2, .ref ha3, .ref ha4, .ref ha5, .ref ha6, .ref ha7, .ref ha8, .ref hc])), (hc, .inr (1, [.int hcs, .ref hb1, .ref hb2, .ref hb3, .ref hb4]))]) rfl (fun H locs hP hD hS => ?_)
  refine lv_aload_n hx hb dX5_clear_35 rfl (lv_at hl 0 rfl) ?_
  refine gf hx hb hts hown hK hP 0 inT5 rfl rfl 15 (by decide) tw1_141 rfl dX5_clear_36 ?_
  refine lv_iconst (v := 0) hx hb dX5_clear_39 (by decide) ?_
  refine pf hx hb hts hown hK hP hD hS 1 inT1 tyX1_ok nmX1 rfl rfl 0 (by decide) tw1_57 rfl rfl rfl (Nat.le_of_ble_eq_true rfl) dX5_clear_40 (ws' := [(hh, .inr (5, [.int 0, .int 0, .int 0, .int 0, .int 0, .int 0, .long 0, .ref ha1, .ref ha2, .ref ha3, .ref ha4, .ref ha5, .ref ha6, .ref ha7, .ref ha8, .ref hc])), (hc, .inr (1, [.int 0, .ref hb1, .ref hb2, .ref hb3, .ref hb4]))]) rfl (fun H locs hP hD hS => ?_)
  exact rtV hx hb hr hlocks hS (0, 0, 0, 0, 0, 0, 0, 0) (⟨(show 0 ≤ (0 : Int32).toInt ∧ (0 : Int32).toInt ≤ 6 from (by have : (0 : Int32).toInt = 0 := rfl; omega)), (show 0 ≤ (0 : Int32).toInt ∧ (0 : Int32).toInt ≤ 6 from (by have : (0 : Int32).toInt = 0 := rfl; omega)), (show 0 ≤ (0 : Int32).toInt ∧ (0 : Int32).toInt ≤ 9 from (by have : (0 : Int32).toInt = 0 := rfl; omega)), (show 0 ≤ (0 : Int32).toInt ∧ (0 : Int32).toInt ≤ 7 from (by have : (0 : Int32).toInt = 0 := rfl; omega)), (show 0 ≤ (0 : Int32).toInt ∧ (0 : Int32).toInt ≤ 40 from (by have : (0 : Int32).toInt = 0 := rfl; omega))⟩) (hP.sub [0, 1] rfl) (hD.sub [0, 1] (by decide) rfl) dX5_clear_43

set_option maxHeartbeats 4000000 in
set_option maxRecDepth 100000 in
theorem x_copyFrom (l : Launch) (G : va_G) (t : Nat → ClassId) (jj : Nat) (hh : Nat) (jli : Int32) (jro : Int32) (jse : Int32) (jla : Int32) (jpl : Int32) (jex : Int32) (jsi : Int64) (ja1 : Nat) (ja2 : Nat) (ja3 : Nat) (ja4 : Nat) (ja5 : Nat) (ja6 : Nat) (ja7 : Nat) (ja8 : Nat) (jc : Nat) (jf1 : Nat → Int32) (jf2 : Nat → Int32) (jf3 : Nat → Int32) (jf4 : Nat → Int32) (jf5 : Nat → Int32) (jf6 : Nat → Int32) (jf7 : Nat → Int32) (jf8 : Nat → Int32) (jcs : Int32) (jb1 : Nat) (jb2 : Nat) (jb3 : Nat) (jb4 : Nat) (jg1 : Nat → Int32) (jg2 : Nat → Int32) (jg3 : Nat → Int32) (jg4 : Nat → Int32) (hli : Int32) (hro : Int32) (hse : Int32) (hla : Int32) (hpl : Int32) (hex : Int32) (hsi : Int64) (ha1 : Nat) (ha2 : Nat) (ha3 : Nat) (ha4 : Nat) (ha5 : Nat) (ha6 : Nat) (ha7 : Nat) (ha8 : Nat) (hc : Nat) (hf1 : Nat → Int32) (hf2 : Nat → Int32) (hf3 : Nat → Int32) (hf4 : Nat → Int32) (hf5 : Nat → Int32) (hf6 : Nat → Int32) (hf7 : Nat → Int32) (hf8 : Nat → Int32) (hcs : Int32) (hb1 : Nat) (hb2 : Nat) (hb3 : Nat) (hb4 : Nat) (hg1 : Nat → Int32) (hg2 : Nat → Int32) (hg3 : Nat → Int32) (hg4 : Nat → Int32) (h_jro : 0 ≤ jro.toInt ∧ jro.toInt ≤ 6) (h_jse : 0 ≤ jse.toInt ∧ jse.toInt ≤ 6) (h_jpl : 0 ≤ jpl.toInt ∧ jpl.toInt ≤ 9) (h_jex : 0 ≤ jex.toInt ∧ jex.toInt ≤ 7) (h_jf1 : Rp (fun _ v => 0 ≤ v ∧ v ≤ 5) 9 jf1) (h_jf2 : Rp (fun _ v => 0 ≤ v ∧ v ≤ 5) 9 jf2) (h_jcs : 0 ≤ jcs.toInt ∧ jcs.toInt ≤ 40) (h_hro : 0 ≤ hro.toInt ∧ hro.toInt ≤ 6) (h_hse : 0 ≤ hse.toInt ∧ hse.toInt ≤ 6) (h_hpl : 0 ≤ hpl.toInt ∧ hpl.toInt ≤ 9) (h_hex : 0 ≤ hex.toInt ∧ hex.toInt ≤ 7) (h_hf1 : Rp (fun _ v => 0 ≤ v ∧ v ≤ 5) 9 hf1) (h_hf2 : Rp (fun _ v => 0 ≤ v ∧ v ≤ 5) 9 hf2) (h_hcs : 0 ≤ hcs.toInt ∧ hcs.toInt ≤ 40) : Ct l G t yX5_copyFrom cX5_copyFrom 2 none ({ frames := 2, cells := 0, slots := 0, locals := 39 }) [.ref jj, .ref hh] [(jj, .inr (5, [.int jli, .int jro, .int jse, .int jla, .int jpl, .int jex, .long jsi, .ref ja1, .ref ja2, .ref ja3, .ref ja4, .ref ja5, .ref ja6, .ref ja7, .ref ja8, .ref jc])), (ja1, .inl (t 1, 9, .inl jf1)), (ja2, .inl (t 1, 9, .inl jf2)), (ja3, .inl (t 1, 9, .inl jf3)), (ja4, .inl (t 1, 9, .inl jf4)), (ja5, .inl (t 1, 7, .inl jf5)), (ja6, .inl (t 1, 7, .inl jf6)), (ja7, .inl (t 1, 7, .inl jf7)), (ja8, .inl (t 1, 7, .inl jf8)), (jc, .inr (1, [.int jcs, .ref jb1, .ref jb2, .ref jb3, .ref jb4])), (jb1, .inl (t 1, 40, .inl jg1)), (jb2, .inl (t 1, 40, .inl jg2)), (jb3, .inl (t 1, 40, .inl jg3)), (jb4, .inl (t 1, 40, .inl jg4)), (hh, .inr (5, [.int hli, .int hro, .int hse, .int hla, .int hpl, .int hex, .long hsi, .ref ha1, .ref ha2, .ref ha3, .ref ha4, .ref ha5, .ref ha6, .ref ha7, .ref ha8, .ref hc])), (ha1, .inl (t 1, 9, .inl hf1)), (ha2, .inl (t 1, 9, .inl hf2)), (ha3, .inl (t 1, 9, .inl hf3)), (ha4, .inl (t 1, 9, .inl hf4)), (ha5, .inl (t 1, 7, .inl hf5)), (ha6, .inl (t 1, 7, .inl hf6)), (ha7, .inl (t 1, 7, .inl hf7)), (ha8, .inl (t 1, 7, .inl hf8)), (hc, .inr (1, [.int hcs, .ref hb1, .ref hb2, .ref hb3, .ref hb4])), (hb1, .inl (t 1, 40, .inl hg1)), (hb2, .inl (t 1, 40, .inl hg2)), (hb3, .inl (t 1, 40, .inl hg3)), (hb4, .inl (t 1, 40, .inl hg4))] (QV G (fun (u : (Int32) × (Int32) × (Int32) × (Int32) × (Int32) × (Int32) × (Int64) × (Nat → Int32) × (Nat → Int32) × (Nat → Int32) × (Nat → Int32) × (Nat → Int32) × (Nat → Int32) × (Nat → Int32) × (Nat → Int32) × (Int32) × (Nat → Int32) × (Nat → Int32) × (Nat → Int32) × (Nat → Int32)) => (0 ≤ u.2.1.toInt ∧ u.2.1.toInt ≤ 6) ∧ (0 ≤ u.2.2.1.toInt ∧ u.2.2.1.toInt ≤ 6) ∧ (0 ≤ u.2.2.2.2.1.toInt ∧ u.2.2.2.2.1.toInt ≤ 9) ∧ (0 ≤ u.2.2.2.2.2.1.toInt ∧ u.2.2.2.2.2.1.toInt ≤ 7) ∧ (Rp (fun _ v => 0 ≤ v ∧ v ≤ 5) 9 u.2.2.2.2.2.2.2.1) ∧ (Rp (fun _ v => 0 ≤ v ∧ v ≤ 5) 9 u.2.2.2.2.2.2.2.2.1) ∧ (0 ≤ u.2.2.2.2.2.2.2.2.2.2.2.2.2.2.2.1.toInt ∧ u.2.2.2.2.2.2.2.2.2.2.2.2.2.2.2.1.toInt ≤ 40)) (fun (u : (Int32) × (Int32) × (Int32) × (Int32) × (Int32) × (Int32) × (Int64) × (Nat → Int32) × (Nat → Int32) × (Nat → Int32) × (Nat → Int32) × (Nat → Int32) × (Nat → Int32) × (Nat → Int32) × (Nat → Int32) × (Int32) × (Nat → Int32) × (Nat → Int32) × (Nat → Int32) × (Nat → Int32)) => [(jj, .inr (5, [.int u.1, .int u.2.1, .int u.2.2.1, .int u.2.2.2.1, .int u.2.2.2.2.1, .int u.2.2.2.2.2.1, .long u.2.2.2.2.2.2.1, .ref ja1, .ref ja2, .ref ja3, .ref ja4, .ref ja5, .ref ja6, .ref ja7, .ref ja8, .ref jc])), (ja1, .inl (t 1, 9, .inl u.2.2.2.2.2.2.2.1)), (ja2, .inl (t 1, 9, .inl u.2.2.2.2.2.2.2.2.1)), (ja3, .inl (t 1, 9, .inl u.2.2.2.2.2.2.2.2.2.1)), (ja4, .inl (t 1, 9, .inl u.2.2.2.2.2.2.2.2.2.2.1)), (ja5, .inl (t 1, 7, .inl u.2.2.2.2.2.2.2.2.2.2.2.1)), (ja6, .inl (t 1, 7, .inl u.2.2.2.2.2.2.2.2.2.2.2.2.1)), (ja7, .inl (t 1, 7, .inl u.2.2.2.2.2.2.2.2.2.2.2.2.2.1)), (ja8, .inl (t 1, 7, .inl u.2.2.2.2.2.2.2.2.2.2.2.2.2.2.1)), (jc, .inr (1, [.int u.2.2.2.2.2.2.2.2.2.2.2.2.2.2.2.1, .ref jb1, .ref jb2, .ref jb3, .ref jb4])), (jb1, .inl (t 1, 40, .inl u.2.2.2.2.2.2.2.2.2.2.2.2.2.2.2.2.1)), (jb2, .inl (t 1, 40, .inl u.2.2.2.2.2.2.2.2.2.2.2.2.2.2.2.2.2.1)), (jb3, .inl (t 1, 40, .inl u.2.2.2.2.2.2.2.2.2.2.2.2.2.2.2.2.2.2.1)), (jb4, .inl (t 1, 40, .inl u.2.2.2.2.2.2.2.2.2.2.2.2.2.2.2.2.2.2.2)), (hh, .inr (5, [.int hli, .int hro, .int hse, .int hla, .int hpl, .int hex, .long hsi, .ref ha1, .ref ha2, .ref ha3, .ref ha4, .ref ha5, .ref ha6, .ref ha7, .ref ha8, .ref hc])), (ha1, .inl (t 1, 9, .inl hf1)), (ha2, .inl (t 1, 9, .inl hf2)), (ha3, .inl (t 1, 9, .inl hf3)), (ha4, .inl (t 1, 9, .inl hf4)), (ha5, .inl (t 1, 7, .inl hf5)), (ha6, .inl (t 1, 7, .inl hf6)), (ha7, .inl (t 1, 7, .inl hf7)), (ha8, .inl (t 1, 7, .inl hf8)), (hc, .inr (1, [.int hcs, .ref hb1, .ref hb2, .ref hb3, .ref hb4])), (hb1, .inl (t 1, 40, .inl hg1)), (hb2, .inl (t 1, 40, .inl hg2)), (hb3, .inl (t 1, 40, .inl hg3)), (hb4, .inl (t 1, 40, .inl hg4))])) := by
  refine ent (by decide) (Nat.le_of_ble_eq_true rfl) ?_
  intro p e s m args below meth c hx hb hr hml hts hown hlocks hin A hA hK hO hP hD hS ls hl
  have hown : s.vm.findClass RX5 = some m.cls := hown
  have hl : lv_has ls 2 [(0, .ref jj), (1, .ref hh)] := hl
  have C0 : Cx p s m args c cX5_copyFrom 2 RX5 G t := ⟨hx, hb, hml, hown, hts, hK, hO⟩
  refine lv_aload_n hx hb dX5_copyFrom_0 rfl (lv_at hl 0 rfl) ?_
  refine lv_aload_n hx hb dX5_copyFrom_1 rfl (lv_at hl 1 rfl) ?_
  refine gf hx hb hts hown hK hP 14 inT5 rfl rfl 0 (by decide) tw1_80 rfl dX5_copyFrom_2 ?_
  refine pf hx hb hts hown hK hP hD hS 0 inT5 tyX5_ok nmX5 rfl rfl 0 (by decide) tw1_80 rfl rfl rfl (Nat.le_of_ble_eq_true rfl) dX5_copyFrom_5 (ws' := [(jj, .inr (5, [.int hli, .int jro, .int jse, .int jla, .int jpl, .int jex, .long jsi, .ref ja1, .ref ja2, .ref ja3, .ref ja4, .ref ja5, .ref ja6, .ref ja7, .ref ja8, .ref jc])), (ja1, .inl (t 1, 9, .inl jf1)), (ja2, .inl (t 1, 9, .inl jf2)), (ja3, .inl (t 1, 9, .inl jf3)), (ja4, .inl (t 1, 9, .inl jf4)), (ja5, .inl (t 1, 7, .inl jf5)), (ja6, .inl (t 1, 7, .inl jf6)), (ja7, .inl (t 1, 7, .inl jf7)), (ja8, .inl (t 1, 7, .inl jf8)), (jc, .inr (1, [.int jcs, .ref jb1, .ref jb2, .ref jb3, .ref jb4])), (jb1, .inl (t 1, 40, .inl jg1)), (jb2, .inl (t 1, 40, .inl jg2)), (jb3, .inl (t 1, 40, .inl jg3)), (jb4, .inl (t 1, 40, .inl jg4)), (hh, .inr (5, [.int hli, .int hro, .int hse, .int hla, .int hpl, .int hex, .long hsi, .ref ha1, .ref ha2, .ref ha3, .ref ha4, .ref ha5, .ref ha6, .ref ha7, .ref ha8, .ref hc])), (ha1, .inl (t 1, 9, .inl hf1)), (ha2, .inl (t 1, 9, .inl hf2)), (ha3, .inl (t 1, 9, .inl hf3)), (ha4, .inl (t 1, 9, .inl hf4)), (ha5, .inl (t 1, 7, .inl hf5)), (ha6, .inl (t 1, 7, .inl hf6)), (ha7, .inl (t 1, 7, .inl hf7)), (ha8, .inl (t 1, 7, .inl hf8)), (hc, .inr (1, [.int hcs, .ref hb1, .ref hb2, .ref hb3, .ref hb4])), (hb1, .inl (t 1, 40, .inl hg1)), (hb2, .inl (t 1, 40, .inl hg2)), (hb3, .inl (t 1, 40, .inl hg3)), (hb4, .inl (t 1, 40, .inl hg4))]) rfl (fun H locs hP hD hS => ?_)
  refine lv_aload_n hx hb dX5_copyFrom_8 rfl (lv_at hl 0 rfl) ?_
  refine lv_aload_n hx hb dX5_copyFrom_9 rfl (lv_at hl 1 rfl) ?_
  refine gf hx hb hts hown hK hP 14 inT5 rfl rfl 1 (by decide) tw1_83 rfl dX5_copyFrom_10 ?_
  refine pf hx hb hts hown hK hP hD hS 0 inT5 tyX5_ok nmX5 rfl rfl 1 (by decide) tw1_83 rfl rfl rfl (Nat.le_of_ble_eq_true rfl) dX5_copyFrom_13 (ws' := [(jj, .inr (5, [.int hli, .int hro, .int jse, .int jla, .int jpl, .int jex, .long jsi, .ref ja1, .ref ja2, .ref ja3, .ref ja4, .ref ja5, .ref ja6, .ref ja7, .ref ja8, .ref jc])), (ja1, .inl (t 1, 9, .inl jf1)), (ja2, .inl (t 1, 9, .inl jf2)), (ja3, .inl (t 1, 9, .inl jf3)), (ja4, .inl (t 1, 9, .inl jf4)), (ja5, .inl (t 1, 7, .inl jf5)), (ja6, .inl (t 1, 7, .inl jf6)), (ja7, .inl (t 1, 7, .inl jf7)), (ja8, .inl (t 1, 7, .inl jf8)), (jc, .inr (1, [.int jcs, .ref jb1, .ref jb2, .ref jb3, .ref jb4])), (jb1, .inl (t 1, 40, .inl jg1)), (jb2, .inl (t 1, 40, .inl jg2)), (jb3, .inl (t 1, 40, .inl jg3)), (jb4, .inl (t 1, 40, .inl jg4)), (hh, .inr (5, [.int hli, .int hro, .int hse, .int hla, .int hpl, .int hex, .long hsi, .ref ha1, .ref ha2, .ref ha3, .ref ha4, .ref ha5, .ref ha6, .ref ha7, .ref ha8, .ref hc])), (ha1, .inl (t 1, 9, .inl hf1)), (ha2, .inl (t 1, 9, .inl hf2)), (ha3, .inl (t 1, 9, .inl hf3)), (ha4, .inl (t 1, 9, .inl hf4)), (ha5, .inl (t 1, 7, .inl hf5)), (ha6, .inl (t 1, 7, .inl hf6)), (ha7, .inl (t 1, 7, .inl hf7)), (ha8, .inl (t 1, 7, .inl hf8)), (hc, .inr (1, [.int hcs, .ref hb1, .ref hb2, .ref hb3, .ref hb4])), (hb1, .inl (t 1, 40, .inl hg1)), (hb2, .inl (t 1, 40, .inl hg2)), (hb3, .inl (t 1, 40, .inl hg3)), (hb4, .inl (t 1, 40, .inl hg4))]) rfl (fun H locs hP hD hS => ?_)
  refine lv_aload_n hx hb dX5_copyFrom_16 rfl (lv_at hl 0 rfl) ?_
  refine lv_aload_n hx hb dX5_copyFrom_17 rfl (lv_at hl 1 rfl) ?_
  refine gf hx hb hts hown hK hP 14 inT5 rfl rfl 2 (by decide) tw1_88 rfl dX5_copyFrom_18 ?_
  refine pf hx hb hts hown hK hP hD hS 0 inT5 tyX5_ok nmX5 rfl rfl 2 (by decide) tw1_88 rfl rfl rfl (Nat.le_of_ble_eq_true rfl) dX5_copyFrom_21 (ws' := [(jj, .inr (5, [.int hli, .int hro, .int hse, .int jla, .int jpl, .int jex, .long jsi, .ref ja1, .ref ja2, .ref ja3, .ref ja4, .ref ja5, .ref ja6, .ref ja7, .ref ja8, .ref jc])), (ja1, .inl (t 1, 9, .inl jf1)), (ja2, .inl (t 1, 9, .inl jf2)), (ja3, .inl (t 1, 9, .inl jf3)), (ja4, .inl (t 1, 9, .inl jf4)), (ja5, .inl (t 1, 7, .inl jf5)), (ja6, .inl (t 1, 7, .inl jf6)), (ja7, .inl (t 1, 7, .inl jf7)), (ja8, .inl (t 1, 7, .inl jf8)), (jc, .inr (1, [.int jcs, .ref jb1, .ref jb2, .ref jb3, .ref jb4])), (jb1, .inl (t 1, 40, .inl jg1)), (jb2, .inl (t 1, 40, .inl jg2)), (jb3, .inl (t 1, 40, .inl jg3)), (jb4, .inl (t 1, 40, .inl jg4)), (hh, .inr (5, [.int hli, .int hro, .int hse, .int hla, .int hpl, .int hex, .long hsi, .ref ha1, .ref ha2, .ref ha3, .ref ha4, .ref ha5, .ref ha6, .ref ha7, .ref ha8, .ref hc])), (ha1, .inl (t 1, 9, .inl hf1)), (ha2, .inl (t 1, 9, .inl hf2)), (ha3, .inl (t 1, 9, .inl hf3)), (ha4, .inl (t 1, 9, .inl hf4)), (ha5, .inl (t 1, 7, .inl hf5)), (ha6, .inl (t 1, 7, .inl hf6)), (ha7, .inl (t 1, 7, .inl hf7)), (ha8, .inl (t 1, 7, .inl hf8)), (hc, .inr (1, [.int hcs, .ref hb1, .ref hb2, .ref hb3, .ref hb4])), (hb1, .inl (t 1, 40, .inl hg1)), (hb2, .inl (t 1, 40, .inl hg2)), (hb3, .inl (t 1, 40, .inl hg3)), (hb4, .inl (t 1, 40, .inl hg4))]) rfl (fun H locs hP hD hS => ?_)
  refine lv_aload_n hx hb dX5_copyFrom_24 rfl (lv_at hl 0 rfl) ?_
  refine lv_aload_n hx hb dX5_copyFrom_25 rfl (lv_at hl 1 rfl) ?_
  refine gf hx hb hts hown hK hP 14 inT5 rfl rfl 3 (by decide) tw1_93 rfl dX5_copyFrom_26 ?_
  refine pf hx hb hts hown hK hP hD hS 0 inT5 tyX5_ok nmX5 rfl rfl 3 (by decide) tw1_93 rfl rfl rfl (Nat.le_of_ble_eq_true rfl) dX5_copyFrom_29 (ws' := [(jj, .inr (5, [.int hli, .int hro, .int hse, .int hla, .int jpl, .int jex, .long jsi, .ref ja1, .ref ja2, .ref ja3, .ref ja4, .ref ja5, .ref ja6, .ref ja7, .ref ja8, .ref jc])), (ja1, .inl (t 1, 9, .inl jf1)), (ja2, .inl (t 1, 9, .inl jf2)), (ja3, .inl (t 1, 9, .inl jf3)), (ja4, .inl (t 1, 9, .inl jf4)), (ja5, .inl (t 1, 7, .inl jf5)), (ja6, .inl (t 1, 7, .inl jf6)), (ja7, .inl (t 1, 7, .inl jf7)), (ja8, .inl (t 1, 7, .inl jf8)), (jc, .inr (1, [.int jcs, .ref jb1, .ref jb2, .ref jb3, .ref jb4])), (jb1, .inl (t 1, 40, .inl jg1)), (jb2, .inl (t 1, 40, .inl jg2)), (jb3, .inl (t 1, 40, .inl jg3)), (jb4, .inl (t 1, 40, .inl jg4)), (hh, .inr (5, [.int hli, .int hro, .int hse, .int hla, .int hpl, .int hex, .long hsi, .ref ha1, .ref ha2, .ref ha3, .ref ha4, .ref ha5, .ref ha6, .ref ha7, .ref ha8, .ref hc])), (ha1, .inl (t 1, 9, .inl hf1)), (ha2, .inl (t 1, 9, .inl hf2)), (ha3, .inl (t 1, 9, .inl hf3)), (ha4, .inl (t 1, 9, .inl hf4)), (ha5, .inl (t 1, 7, .inl hf5)), (ha6, .inl (t 1, 7, .inl hf6)), (ha7, .inl (t 1, 7, .inl hf7)), (ha8, .inl (t 1, 7, .inl hf8)), (hc, .inr (1, [.int hcs, .ref hb1, .ref hb2, .ref hb3, .ref hb4])), (hb1, .inl (t 1, 40, .inl hg1)), (hb2, .inl (t 1, 40, .inl hg2)), (hb3, .inl (t 1, 40, .inl hg3)), (hb4, .inl (t 1, 40, .inl hg4))]) rfl (fun H locs hP hD hS => ?_)
  refine lv_aload_n hx hb dX5_copyFrom_32 rfl (lv_at hl 0 rfl) ?_
  refine lv_aload_n hx hb dX5_copyFrom_33 rfl (lv_at hl 1 rfl) ?_
  refine gf hx hb hts hown hK hP 14 inT5 rfl rfl 4 (by decide) tw1_97 rfl dX5_copyFrom_34 ?_
  refine pf hx hb hts hown hK hP hD hS 0 inT5 tyX5_ok nmX5 rfl rfl 4 (by decide) tw1_97 rfl rfl rfl (Nat.le_of_ble_eq_true rfl) dX5_copyFrom_37 (ws' := [(jj, .inr (5, [.int hli, .int hro, .int hse, .int hla, .int hpl, .int jex, .long jsi, .ref ja1, .ref ja2, .ref ja3, .ref ja4, .ref ja5, .ref ja6, .ref ja7, .ref ja8, .ref jc])), (ja1, .inl (t 1, 9, .inl jf1)), (ja2, .inl (t 1, 9, .inl jf2)), (ja3, .inl (t 1, 9, .inl jf3)), (ja4, .inl (t 1, 9, .inl jf4)), (ja5, .inl (t 1, 7, .inl jf5)), (ja6, .inl (t 1, 7, .inl jf6)), (ja7, .inl (t 1, 7, .inl jf7)), (ja8, .inl (t 1, 7, .inl jf8)), (jc, .inr (1, [.int jcs, .ref jb1, .ref jb2, .ref jb3, .ref jb4])), (jb1, .inl (t 1, 40, .inl jg1)), (jb2, .inl (t 1, 40, .inl jg2)), (jb3, .inl (t 1, 40, .inl jg3)), (jb4, .inl (t 1, 40, .inl jg4)), (hh, .inr (5, [.int hli, .int hro, .int hse, .int hla, .int hpl, .int hex, .long hsi, .ref ha1, .ref ha2, .ref ha3, .ref ha4, .ref ha5, .ref ha6, .ref ha7, .ref ha8, .ref hc])), (ha1, .inl (t 1, 9, .inl hf1)), (ha2, .inl (t 1, 9, .inl hf2)), (ha3, .inl (t 1, 9, .inl hf3)), (ha4, .inl (t 1, 9, .inl hf4)), (ha5, .inl (t 1, 7, .inl hf5)), (ha6, .inl (t 1, 7, .inl hf6)), (ha7, .inl (t 1, 7, .inl hf7)), (ha8, .inl (t 1, 7, .inl hf8)), (hc, .inr (1, [.int hcs, .ref hb1, .ref hb2, .ref hb3, .ref hb4])), (hb1, .inl (t 1, 40, .inl hg1)), (hb2, .inl (t 1, 40, .inl hg2)), (hb3, .inl (t 1, 40, .inl hg3)), (hb4, .inl (t 1, 40, .inl hg4))]) rfl (fun H locs hP hD hS => ?_)
  refine lv_aload_n hx hb dX5_copyFrom_40 rfl (lv_at hl 0 rfl) ?_
  refine lv_aload_n hx hb dX5_copyFrom_41 rfl (lv_at hl 1 rfl) ?_
  refine gf hx hb hts hown hK hP 14 inT5 rfl rfl 5 (by decide) tw1_103 rfl dX5_copyFrom_42 ?_
  refine pf hx hb hts hown hK hP hD hS 0 inT5 tyX5_ok nmX5 rfl rfl 5 (by decide) tw1_103 rfl rfl rfl (Nat.le_of_ble_eq_true rfl) dX5_copyFrom_45 (ws' := [(jj, .inr (5, [.int hli, .int hro, .int hse, .int hla, .int hpl, .int hex, .long jsi, .ref ja1, .ref ja2, .ref ja3, .ref ja4, .ref ja5, .ref ja6, .ref ja7, .ref ja8, .ref jc])), (ja1, .inl (t 1, 9, .inl jf1)), (ja2, .inl (t 1, 9, .inl jf2)), (ja3, .inl (t 1, 9, .inl jf3)), (ja4, .inl (t 1, 9, .inl jf4)), (ja5, .inl (t 1, 7, .inl jf5)), (ja6, .inl (t 1, 7, .inl jf6)), (ja7, .inl (t 1, 7, .inl jf7)), (ja8, .inl (t 1, 7, .inl jf8)), (jc, .inr (1, [.int jcs, .ref jb1, .ref jb2, .ref jb3, .ref jb4])), (jb1, .inl (t 1, 40, .inl jg1)), (jb2, .inl (t 1, 40, .inl jg2)), (jb3, .inl (t 1, 40, .inl jg3)), (jb4, .inl (t 1, 40, .inl jg4)), (hh, .inr (5, [.int hli, .int hro, .int hse, .int hla, .int hpl, .int hex, .long hsi, .ref ha1, .ref ha2, .ref ha3, .ref ha4, .ref ha5, .ref ha6, .ref ha7, .ref ha8, .ref hc])), (ha1, .inl (t 1, 9, .inl hf1)), (ha2, .inl (t 1, 9, .inl hf2)), (ha3, .inl (t 1, 9, .inl hf3)), (ha4, .inl (t 1, 9, .inl hf4)), (ha5, .inl (t 1, 7, .inl hf5)), (ha6, .inl (t 1, 7, .inl hf6)), (ha7, .inl (t 1, 7, .inl hf7)), (ha8, .inl (t 1, 7, .inl hf8)), (hc, .inr (1, [.int hcs, .ref hb1, .ref hb2, .ref hb3, .ref hb4])), (hb1, .inl (t 1, 40, .inl hg1)), (hb2, .inl (t 1, 40, .inl hg2)), (hb3, .inl (t 1, 40, .inl hg3)), (hb4, .inl (t 1, 40, .inl hg4))]) rfl (fun H locs hP hD hS => ?_)
  refine lv_aload_n hx hb dX5_copyFrom_48 rfl (lv_at hl 0 rfl) ?_
  refine lv_aload_n hx hb dX5_copyFrom_49 rfl (lv_at hl 1 rfl) ?_
  refine gf hx hb hts hown hK hP 14 inT5 rfl rfl 6 (by decide) tw1_109 rfl dX5_copyFrom_50 ?_
  refine pf hx hb hts hown hK hP hD hS 0 inT5 tyX5_ok nmX5 rfl rfl 6 (by decide) tw1_109 rfl rfl rfl (Nat.le_of_ble_eq_true rfl) dX5_copyFrom_53 (ws' := [(jj, .inr (5, [.int hli, .int hro, .int hse, .int hla, .int hpl, .int hex, .long hsi, .ref ja1, .ref ja2, .ref ja3, .ref ja4, .ref ja5, .ref ja6, .ref ja7, .ref ja8, .ref jc])), (ja1, .inl (t 1, 9, .inl jf1)), (ja2, .inl (t 1, 9, .inl jf2)), (ja3, .inl (t 1, 9, .inl jf3)), (ja4, .inl (t 1, 9, .inl jf4)), (ja5, .inl (t 1, 7, .inl jf5)), (ja6, .inl (t 1, 7, .inl jf6)), (ja7, .inl (t 1, 7, .inl jf7)), (ja8, .inl (t 1, 7, .inl jf8)), (jc, .inr (1, [.int jcs, .ref jb1, .ref jb2, .ref jb3, .ref jb4])), (jb1, .inl (t 1, 40, .inl jg1)), (jb2, .inl (t 1, 40, .inl jg2)), (jb3, .inl (t 1, 40, .inl jg3)), (jb4, .inl (t 1, 40, .inl jg4)), (hh, .inr (5, [.int hli, .int hro, .int hse, .int hla, .int hpl, .int hex, .long hsi, .ref ha1, .ref ha2, .ref ha3, .ref ha4, .ref ha5, .ref ha6, .ref ha7, .ref ha8, .ref hc])), (ha1, .inl (t 1, 9, .inl hf1)), (ha2, .inl (t 1, 9, .inl hf2)), (ha3, .inl (t 1, 9, .inl hf3)), (ha4, .inl (t 1, 9, .inl hf4)), (ha5, .inl (t 1, 7, .inl hf5)), (ha6, .inl (t 1, 7, .inl hf6)), (ha7, .inl (t 1, 7, .inl hf7)), (ha8, .inl (t 1, 7, .inl hf8)), (hc, .inr (1, [.int hcs, .ref hb1, .ref hb2, .ref hb3, .ref hb4])), (hb1, .inl (t 1, 40, .inl hg1)), (hb2, .inl (t 1, 40, .inl hg2)), (hb3, .inl (t 1, 40, .inl hg3)), (hb4, .inl (t 1, 40, .inl hg4))]) rfl (fun H locs hP hD hS => ?_)
  refine lv_aload_n hx hb dX5_copyFrom_56 rfl (lv_at hl 1 rfl) ?_
  refine gf hx hb hts hown hK hP 14 inT5 rfl rfl 7 (by decide) tw1_112 rfl dX5_copyFrom_57 ?_
  refine lv_iconst (v := 0) hx hb dX5_copyFrom_60 (by decide) ?_
  refine lv_aload_n hx hb dX5_copyFrom_61 rfl (lv_at hl 0 rfl) ?_
  refine gf hx hb hts hown hK hP 0 inT5 rfl rfl 7 (by decide) tw1_112 rfl dX5_copyFrom_62 ?_
  refine lv_iconst (v := 0) hx hb dX5_copyFrom_65 (by decide) ?_
  refine lv_bipush (v := 9) hx hb dX5_copyFrom_66 (by decide) ?_
  obtain ⟨f_1, ef_1⟩ : ∃ z : Nat → Int32, z = va_cpy hf1 jf1 0 0 9 := ⟨_, rfl⟩
  have hf_1 : Rp (fun _ v => 0 ≤ v ∧ v ≤ 5) 9 f_1 := by rw [ef_1]; exact Rp_cpy h_hf1
  refine cpI hx hb hml hl.1 hown hts tw5_178 tw5_180 tw5_179 tw1_17 hK hP hD hS 15 1 rfl rfl (by decide) (by decide) (by decide) (by decide) (by decide) (by decide) (Nat.le_of_ble_eq_true rfl) dX5_copyFrom_68 (g' := f_1) (ef_1.symm) (ws' := [(jj, .inr (5, [.int hli, .int hro, .int hse, .int hla, .int hpl, .int hex, .long hsi, .ref ja1, .ref ja2, .ref ja3, .ref ja4, .ref ja5, .ref ja6, .ref ja7, .ref ja8, .ref jc])), (ja1, .inl (t 1, 9, .inl f_1)), (ja2, .inl (t 1, 9, .inl jf2)), (ja3, .inl (t 1, 9, .inl jf3)), (ja4, .inl (t 1, 9, .inl jf4)), (ja5, .inl (t 1, 7, .inl jf5)), (ja6, .inl (t 1, 7, .inl jf6)), (ja7, .inl (t 1, 7, .inl jf7)), (ja8, .inl (t 1, 7, .inl jf8)), (jc, .inr (1, [.int jcs, .ref jb1, .ref jb2, .ref jb3, .ref jb4])), (jb1, .inl (t 1, 40, .inl jg1)), (jb2, .inl (t 1, 40, .inl jg2)), (jb3, .inl (t 1, 40, .inl jg3)), (jb4, .inl (t 1, 40, .inl jg4)), (hh, .inr (5, [.int hli, .int hro, .int hse, .int hla, .int hpl, .int hex, .long hsi, .ref ha1, .ref ha2, .ref ha3, .ref ha4, .ref ha5, .ref ha6, .ref ha7, .ref ha8, .ref hc])), (ha1, .inl (t 1, 9, .inl hf1)), (ha2, .inl (t 1, 9, .inl hf2)), (ha3, .inl (t 1, 9, .inl hf3)), (ha4, .inl (t 1, 9, .inl hf4)), (ha5, .inl (t 1, 7, .inl hf5)), (ha6, .inl (t 1, 7, .inl hf6)), (ha7, .inl (t 1, 7, .inl hf7)), (ha8, .inl (t 1, 7, .inl hf8)), (hc, .inr (1, [.int hcs, .ref hb1, .ref hb2, .ref hb3, .ref hb4])), (hb1, .inl (t 1, 40, .inl hg1)), (hb2, .inl (t 1, 40, .inl hg2)), (hb3, .inl (t 1, 40, .inl hg3)), (hb4, .inl (t 1, 40, .inl hg4))]) rfl (fun H locs hP hD hS => ?_)
  refine lv_aload_n hx hb dX5_copyFrom_71 rfl (lv_at hl 1 rfl) ?_
  refine gf hx hb hts hown hK hP 14 inT5 rfl rfl 8 (by decide) tw1_116 rfl dX5_copyFrom_72 ?_
  refine lv_iconst (v := 0) hx hb dX5_copyFrom_75 (by decide) ?_
  refine lv_aload_n hx hb dX5_copyFrom_76 rfl (lv_at hl 0 rfl) ?_
  refine gf hx hb hts hown hK hP 0 inT5 rfl rfl 8 (by decide) tw1_116 rfl dX5_copyFrom_77 ?_
  refine lv_iconst (v := 0) hx hb dX5_copyFrom_80 (by decide) ?_
  refine lv_bipush (v := 9) hx hb dX5_copyFrom_81 (by decide) ?_
  obtain ⟨f_2, ef_2⟩ : ∃ z : Nat → Int32, z = va_cpy hf2 jf2 0 0 9 := ⟨_, rfl⟩
  have hf_2 : Rp (fun _ v => 0 ≤ v ∧ v ≤ 5) 9 f_2 := by rw [ef_2]; exact Rp_cpy h_hf2
  refine cpI hx hb hml hl.1 hown hts tw5_178 tw5_180 tw5_179 tw1_17 hK hP hD hS 16 2 rfl rfl (by decide) (by decide) (by decide) (by decide) (by decide) (by decide) (Nat.le_of_ble_eq_true rfl) dX5_copyFrom_83 (g' := f_2) (ef_2.symm) (ws' := [(jj, .inr (5, [.int hli, .int hro, .int hse, .int hla, .int hpl, .int hex, .long hsi, .ref ja1, .ref ja2, .ref ja3, .ref ja4, .ref ja5, .ref ja6, .ref ja7, .ref ja8, .ref jc])), (ja1, .inl (t 1, 9, .inl f_1)), (ja2, .inl (t 1, 9, .inl f_2)), (ja3, .inl (t 1, 9, .inl jf3)), (ja4, .inl (t 1, 9, .inl jf4)), (ja5, .inl (t 1, 7, .inl jf5)), (ja6, .inl (t 1, 7, .inl jf6)), (ja7, .inl (t 1, 7, .inl jf7)), (ja8, .inl (t 1, 7, .inl jf8)), (jc, .inr (1, [.int jcs, .ref jb1, .ref jb2, .ref jb3, .ref jb4])), (jb1, .inl (t 1, 40, .inl jg1)), (jb2, .inl (t 1, 40, .inl jg2)), (jb3, .inl (t 1, 40, .inl jg3)), (jb4, .inl (t 1, 40, .inl jg4)), (hh, .inr (5, [.int hli, .int hro, .int hse, .int hla, .int hpl, .int hex, .long hsi, .ref ha1, .ref ha2, .ref ha3, .ref ha4, .ref ha5, .ref ha6, .ref ha7, .ref ha8, .ref hc])), (ha1, .inl (t 1, 9, .inl hf1)), (ha2, .inl (t 1, 9, .inl hf2)), (ha3, .inl (t 1, 9, .inl hf3)), (ha4, .inl (t 1, 9, .inl hf4)), (ha5, .inl (t 1, 7, .inl hf5)), (ha6, .inl (t 1, 7, .inl hf6)), (ha7, .inl (t 1, 7, .inl hf7)), (ha8, .inl (t 1, 7, .inl hf8)), (hc, .inr (1, [.int hcs, .ref hb1, .ref hb2, .ref hb3, .ref hb4])), (hb1, .inl (t 1, 40, .inl hg1)), (hb2, .inl (t 1, 40, .inl hg2)), (hb3, .inl (t 1, 40, .inl hg3)), (hb4, .inl (t 1, 40, .inl hg4))]) rfl (fun H locs hP hD hS => ?_)
  refine lv_aload_n hx hb dX5_copyFrom_86 rfl (lv_at hl 1 rfl) ?_
  refine gf hx hb hts hown hK hP 14 inT5 rfl rfl 9 (by decide) tw1_120 rfl dX5_copyFrom_87 ?_
  refine lv_iconst (v := 0) hx hb dX5_copyFrom_90 (by decide) ?_
  refine lv_aload_n hx hb dX5_copyFrom_91 rfl (lv_at hl 0 rfl) ?_
  refine gf hx hb hts hown hK hP 0 inT5 rfl rfl 9 (by decide) tw1_120 rfl dX5_copyFrom_92 ?_
  refine lv_iconst (v := 0) hx hb dX5_copyFrom_95 (by decide) ?_
  refine lv_bipush (v := 9) hx hb dX5_copyFrom_96 (by decide) ?_
  obtain ⟨f_3, ef_3⟩ : ∃ z : Nat → Int32, z = va_cpy hf3 jf3 0 0 9 := ⟨_, rfl⟩
  refine cpI hx hb hml hl.1 hown hts tw5_178 tw5_180 tw5_179 tw1_17 hK hP hD hS 17 3 rfl rfl (by decide) (by decide) (by decide) (by decide) (by decide) (by decide) (Nat.le_of_ble_eq_true rfl) dX5_copyFrom_98 (g' := f_3) (ef_3.symm) (ws' := [(jj, .inr (5, [.int hli, .int hro, .int hse, .int hla, .int hpl, .int hex, .long hsi, .ref ja1, .ref ja2, .ref ja3, .ref ja4, .ref ja5, .ref ja6, .ref ja7, .ref ja8, .ref jc])), (ja1, .inl (t 1, 9, .inl f_1)), (ja2, .inl (t 1, 9, .inl f_2)), (ja3, .inl (t 1, 9, .inl f_3)), (ja4, .inl (t 1, 9, .inl jf4)), (ja5, .inl (t 1, 7, .inl jf5)), (ja6, .inl (t 1, 7, .inl jf6)), (ja7, .inl (t 1, 7, .inl jf7)), (ja8, .inl (t 1, 7, .inl jf8)), (jc, .inr (1, [.int jcs, .ref jb1, .ref jb2, .ref jb3, .ref jb4])), (jb1, .inl (t 1, 40, .inl jg1)), (jb2, .inl (t 1, 40, .inl jg2)), (jb3, .inl (t 1, 40, .inl jg3)), (jb4, .inl (t 1, 40, .inl jg4)), (hh, .inr (5, [.int hli, .int hro, .int hse, .int hla, .int hpl, .int hex, .long hsi, .ref ha1, .ref ha2, .ref ha3, .ref ha4, .ref ha5, .ref ha6, .ref ha7, .ref ha8, .ref hc])), (ha1, .inl (t 1, 9, .inl hf1)), (ha2, .inl (t 1, 9, .inl hf2)), (ha3, .inl (t 1, 9, .inl hf3)), (ha4, .inl (t 1, 9, .inl hf4)), (ha5, .inl (t 1, 7, .inl hf5)), (ha6, .inl (t 1, 7, .inl hf6)), (ha7, .inl (t 1, 7, .inl hf7)), (ha8, .inl (t 1, 7, .inl hf8)), (hc, .inr (1, [.int hcs, .ref hb1, .ref hb2, .ref hb3, .ref hb4])), (hb1, .inl (t 1, 40, .inl hg1)), (hb2, .inl (t 1, 40, .inl hg2)), (hb3, .inl (t 1, 40, .inl hg3)), (hb4, .inl (t 1, 40, .inl hg4))]) rfl (fun H locs hP hD hS => ?_)
  refine lv_aload_n hx hb dX5_copyFrom_101 rfl (lv_at hl 1 rfl) ?_
  refine gf hx hb hts hown hK hP 14 inT5 rfl rfl 10 (by decide) tw1_124 rfl dX5_copyFrom_102 ?_
  refine lv_iconst (v := 0) hx hb dX5_copyFrom_105 (by decide) ?_
  refine lv_aload_n hx hb dX5_copyFrom_106 rfl (lv_at hl 0 rfl) ?_
  refine gf hx hb hts hown hK hP 0 inT5 rfl rfl 10 (by decide) tw1_124 rfl dX5_copyFrom_107 ?_
  refine lv_iconst (v := 0) hx hb dX5_copyFrom_110 (by decide) ?_
  refine lv_bipush (v := 9) hx hb dX5_copyFrom_111 (by decide) ?_
  obtain ⟨f_4, ef_4⟩ : ∃ z : Nat → Int32, z = va_cpy hf4 jf4 0 0 9 := ⟨_, rfl⟩
  refine cpI hx hb hml hl.1 hown hts tw5_178 tw5_180 tw5_179 tw1_17 hK hP hD hS 18 4 rfl rfl (by decide) (by decide) (by decide) (by decide) (by decide) (by decide) (Nat.le_of_ble_eq_true rfl) dX5_copyFrom_113 (g' := f_4) (ef_4.symm) (ws' := [(jj, .inr (5, [.int hli, .int hro, .int hse, .int hla, .int hpl, .int hex, .long hsi, .ref ja1, .ref ja2, .ref ja3, .ref ja4, .ref ja5, .ref ja6, .ref ja7, .ref ja8, .ref jc])), (ja1, .inl (t 1, 9, .inl f_1)), (ja2, .inl (t 1, 9, .inl f_2)), (ja3, .inl (t 1, 9, .inl f_3)), (ja4, .inl (t 1, 9, .inl f_4)), (ja5, .inl (t 1, 7, .inl jf5)), (ja6, .inl (t 1, 7, .inl jf6)), (ja7, .inl (t 1, 7, .inl jf7)), (ja8, .inl (t 1, 7, .inl jf8)), (jc, .inr (1, [.int jcs, .ref jb1, .ref jb2, .ref jb3, .ref jb4])), (jb1, .inl (t 1, 40, .inl jg1)), (jb2, .inl (t 1, 40, .inl jg2)), (jb3, .inl (t 1, 40, .inl jg3)), (jb4, .inl (t 1, 40, .inl jg4)), (hh, .inr (5, [.int hli, .int hro, .int hse, .int hla, .int hpl, .int hex, .long hsi, .ref ha1, .ref ha2, .ref ha3, .ref ha4, .ref ha5, .ref ha6, .ref ha7, .ref ha8, .ref hc])), (ha1, .inl (t 1, 9, .inl hf1)), (ha2, .inl (t 1, 9, .inl hf2)), (ha3, .inl (t 1, 9, .inl hf3)), (ha4, .inl (t 1, 9, .inl hf4)), (ha5, .inl (t 1, 7, .inl hf5)), (ha6, .inl (t 1, 7, .inl hf6)), (ha7, .inl (t 1, 7, .inl hf7)), (ha8, .inl (t 1, 7, .inl hf8)), (hc, .inr (1, [.int hcs, .ref hb1, .ref hb2, .ref hb3, .ref hb4])), (hb1, .inl (t 1, 40, .inl hg1)), (hb2, .inl (t 1, 40, .inl hg2)), (hb3, .inl (t 1, 40, .inl hg3)), (hb4, .inl (t 1, 40, .inl hg4))]) rfl (fun H locs hP hD hS => ?_)
  refine lv_aload_n hx hb dX5_copyFrom_116 rfl (lv_at hl 1 rfl) ?_
  refine gf hx hb hts hown hK hP 14 inT5 rfl rfl 11 (by decide) tw1_127 rfl dX5_copyFrom_117 ?_
  refine lv_iconst (v := 0) hx hb dX5_copyFrom_120 (by decide) ?_
  refine lv_aload_n hx hb dX5_copyFrom_121 rfl (lv_at hl 0 rfl) ?_
  refine gf hx hb hts hown hK hP 0 inT5 rfl rfl 11 (by decide) tw1_127 rfl dX5_copyFrom_122 ?_
  refine lv_iconst (v := 0) hx hb dX5_copyFrom_125 (by decide) ?_
  refine lv_bipush (v := 7) hx hb dX5_copyFrom_126 (by decide) ?_
  obtain ⟨f_5, ef_5⟩ : ∃ z : Nat → Int32, z = va_cpy hf5 jf5 0 0 7 := ⟨_, rfl⟩
  refine cpI hx hb hml hl.1 hown hts tw5_178 tw5_180 tw5_179 tw1_17 hK hP hD hS 19 5 rfl rfl (by decide) (by decide) (by decide) (by decide) (by decide) (by decide) (Nat.le_of_ble_eq_true rfl) dX5_copyFrom_128 (g' := f_5) (ef_5.symm) (ws' := [(jj, .inr (5, [.int hli, .int hro, .int hse, .int hla, .int hpl, .int hex, .long hsi, .ref ja1, .ref ja2, .ref ja3, .ref ja4, .ref ja5, .ref ja6, .ref ja7, .ref ja8, .ref jc])), (ja1, .inl (t 1, 9, .inl f_1)), (ja2, .inl (t 1, 9, .inl f_2)), (ja3, .inl (t 1, 9, .inl f_3)), (ja4, .inl (t 1, 9, .inl f_4)), (ja5, .inl (t 1, 7, .inl f_5)), (ja6, .inl (t 1, 7, .inl jf6)), (ja7, .inl (t 1, 7, .inl jf7)), (ja8, .inl (t 1, 7, .inl jf8)), (jc, .inr (1, [.int jcs, .ref jb1, .ref jb2, .ref jb3, .ref jb4])), (jb1, .inl (t 1, 40, .inl jg1)), (jb2, .inl (t 1, 40, .inl jg2)), (jb3, .inl (t 1, 40, .inl jg3)), (jb4, .inl (t 1, 40, .inl jg4)), (hh, .inr (5, [.int hli, .int hro, .int hse, .int hla, .int hpl, .int hex, .long hsi, .ref ha1, .ref ha2, .ref ha3, .ref ha4, .ref ha5, .ref ha6, .ref ha7, .ref ha8, .ref hc])), (ha1, .inl (t 1, 9, .inl hf1)), (ha2, .inl (t 1, 9, .inl hf2)), (ha3, .inl (t 1, 9, .inl hf3)), (ha4, .inl (t 1, 9, .inl hf4)), (ha5, .inl (t 1, 7, .inl hf5)), (ha6, .inl (t 1, 7, .inl hf6)), (ha7, .inl (t 1, 7, .inl hf7)), (ha8, .inl (t 1, 7, .inl hf8)), (hc, .inr (1, [.int hcs, .ref hb1, .ref hb2, .ref hb3, .ref hb4])), (hb1, .inl (t 1, 40, .inl hg1)), (hb2, .inl (t 1, 40, .inl hg2)), (hb3, .inl (t 1, 40, .inl hg3)), (hb4, .inl (t 1, 40, .inl hg4))]) rfl (fun H locs hP hD hS => ?_)
  refine lv_aload_n hx hb dX5_copyFrom_131 rfl (lv_at hl 1 rfl) ?_
  refine gf hx hb hts hown hK hP 14 inT5 rfl rfl 12 (by decide) tw1_131 rfl dX5_copyFrom_132 ?_
  refine lv_iconst (v := 0) hx hb dX5_copyFrom_135 (by decide) ?_
  refine lv_aload_n hx hb dX5_copyFrom_136 rfl (lv_at hl 0 rfl) ?_
  refine gf hx hb hts hown hK hP 0 inT5 rfl rfl 12 (by decide) tw1_131 rfl dX5_copyFrom_137 ?_
  refine lv_iconst (v := 0) hx hb dX5_copyFrom_140 (by decide) ?_
  refine lv_bipush (v := 7) hx hb dX5_copyFrom_141 (by decide) ?_
  obtain ⟨f_6, ef_6⟩ : ∃ z : Nat → Int32, z = va_cpy hf6 jf6 0 0 7 := ⟨_, rfl⟩
  refine cpI hx hb hml hl.1 hown hts tw5_178 tw5_180 tw5_179 tw1_17 hK hP hD hS 20 6 rfl rfl (by decide) (by decide) (by decide) (by decide) (by decide) (by decide) (Nat.le_of_ble_eq_true rfl) dX5_copyFrom_143 (g' := f_6) (ef_6.symm) (ws' := [(jj, .inr (5, [.int hli, .int hro, .int hse, .int hla, .int hpl, .int hex, .long hsi, .ref ja1, .ref ja2, .ref ja3, .ref ja4, .ref ja5, .ref ja6, .ref ja7, .ref ja8, .ref jc])), (ja1, .inl (t 1, 9, .inl f_1)), (ja2, .inl (t 1, 9, .inl f_2)), (ja3, .inl (t 1, 9, .inl f_3)), (ja4, .inl (t 1, 9, .inl f_4)), (ja5, .inl (t 1, 7, .inl f_5)), (ja6, .inl (t 1, 7, .inl f_6)), (ja7, .inl (t 1, 7, .inl jf7)), (ja8, .inl (t 1, 7, .inl jf8)), (jc, .inr (1, [.int jcs, .ref jb1, .ref jb2, .ref jb3, .ref jb4])), (jb1, .inl (t 1, 40, .inl jg1)), (jb2, .inl (t 1, 40, .inl jg2)), (jb3, .inl (t 1, 40, .inl jg3)), (jb4, .inl (t 1, 40, .inl jg4)), (hh, .inr (5, [.int hli, .int hro, .int hse, .int hla, .int hpl, .int hex, .long hsi, .ref ha1, .ref ha2, .ref ha3, .ref ha4, .ref ha5, .ref ha6, .ref ha7, .ref ha8, .ref hc])), (ha1, .inl (t 1, 9, .inl hf1)), (ha2, .inl (t 1, 9, .inl hf2)), (ha3, .inl (t 1, 9, .inl hf3)), (ha4, .inl (t 1, 9, .inl hf4)), (ha5, .inl (t 1, 7, .inl hf5)), (ha6, .inl (t 1, 7, .inl hf6)), (ha7, .inl (t 1, 7, .inl hf7)), (ha8, .inl (t 1, 7, .inl hf8)), (hc, .inr (1, [.int hcs, .ref hb1, .ref hb2, .ref hb3, .ref hb4])), (hb1, .inl (t 1, 40, .inl hg1)), (hb2, .inl (t 1, 40, .inl hg2)), (hb3, .inl (t 1, 40, .inl hg3)), (hb4, .inl (t 1, 40, .inl hg4))]) rfl (fun H locs hP hD hS => ?_)
  refine lv_aload_n hx hb dX5_copyFrom_146 rfl (lv_at hl 1 rfl) ?_
  refine gf hx hb hts hown hK hP 14 inT5 rfl rfl 13 (by decide) tw1_135 rfl dX5_copyFrom_147 ?_
  refine lv_iconst (v := 0) hx hb dX5_copyFrom_150 (by decide) ?_
  refine lv_aload_n hx hb dX5_copyFrom_151 rfl (lv_at hl 0 rfl) ?_
  refine gf hx hb hts hown hK hP 0 inT5 rfl rfl 13 (by decide) tw1_135 rfl dX5_copyFrom_152 ?_
  refine lv_iconst (v := 0) hx hb dX5_copyFrom_155 (by decide) ?_
  refine lv_bipush (v := 7) hx hb dX5_copyFrom_156 (by decide) ?_
  obtain ⟨f_7, ef_7⟩ : ∃ z : Nat → Int32, z = va_cpy hf7 jf7 0 0 7 := ⟨_, rfl⟩
  refine cpI hx hb hml hl.1 hown hts tw5_178 tw5_180 tw5_179 tw1_17 hK hP hD hS 21 7 rfl rfl (by decide) (by decide) (by decide) (by decide) (by decide) (by decide) (Nat.le_of_ble_eq_true rfl) dX5_copyFrom_158 (g' := f_7) (ef_7.symm) (ws' := [(jj, .inr (5, [.int hli, .int hro, .int hse, .int hla, .int hpl, .int hex, .long hsi, .ref ja1, .ref ja2, .ref ja3, .ref ja4, .ref ja5, .ref ja6, .ref ja7, .ref ja8, .ref jc])), (ja1, .inl (t 1, 9, .inl f_1)), (ja2, .inl (t 1, 9, .inl f_2)), (ja3, .inl (t 1, 9, .inl f_3)), (ja4, .inl (t 1, 9, .inl f_4)), (ja5, .inl (t 1, 7, .inl f_5)), (ja6, .inl (t 1, 7, .inl f_6)), (ja7, .inl (t 1, 7, .inl f_7)), (ja8, .inl (t 1, 7, .inl jf8)), (jc, .inr (1, [.int jcs, .ref jb1, .ref jb2, .ref jb3, .ref jb4])), (jb1, .inl (t 1, 40, .inl jg1)), (jb2, .inl (t 1, 40, .inl jg2)), (jb3, .inl (t 1, 40, .inl jg3)), (jb4, .inl (t 1, 40, .inl jg4)), (hh, .inr (5, [.int hli, .int hro, .int hse, .int hla, .int hpl, .int hex, .long hsi, .ref ha1, .ref ha2, .ref ha3, .ref ha4, .ref ha5, .ref ha6, .ref ha7, .ref ha8, .ref hc])), (ha1, .inl (t 1, 9, .inl hf1)), (ha2, .inl (t 1, 9, .inl hf2)), (ha3, .inl (t 1, 9, .inl hf3)), (ha4, .inl (t 1, 9, .inl hf4)), (ha5, .inl (t 1, 7, .inl hf5)), (ha6, .inl (t 1, 7, .inl hf6)), (ha7, .inl (t 1, 7, .inl hf7)), (ha8, .inl (t 1, 7, .inl hf8)), (hc, .inr (1, [.int hcs, .ref hb1, .ref hb2, .ref hb3, .ref hb4])), (hb1, .inl (t 1, 40, .inl hg1)), (hb2, .inl (t 1, 40, .inl hg2)), (hb3, .inl (t 1, 40, .inl hg3)), (hb4, .inl (t 1, 40, .inl hg4))]) rfl (fun H locs hP hD hS => ?_)
  refine lv_aload_n hx hb dX5_copyFrom_161 rfl (lv_at hl 1 rfl) ?_
  refine gf hx hb hts hown hK hP 14 inT5 rfl rfl 14 (by decide) tw1_138 rfl dX5_copyFrom_162 ?_
  refine lv_iconst (v := 0) hx hb dX5_copyFrom_165 (by decide) ?_
  refine lv_aload_n hx hb dX5_copyFrom_166 rfl (lv_at hl 0 rfl) ?_
  refine gf hx hb hts hown hK hP 0 inT5 rfl rfl 14 (by decide) tw1_138 rfl dX5_copyFrom_167 ?_
  refine lv_iconst (v := 0) hx hb dX5_copyFrom_170 (by decide) ?_
  refine lv_bipush (v := 7) hx hb dX5_copyFrom_171 (by decide) ?_
  obtain ⟨f_8, ef_8⟩ : ∃ z : Nat → Int32, z = va_cpy hf8 jf8 0 0 7 := ⟨_, rfl⟩
  refine cpI hx hb hml hl.1 hown hts tw5_178 tw5_180 tw5_179 tw1_17 hK hP hD hS 22 8 rfl rfl (by decide) (by decide) (by decide) (by decide) (by decide) (by decide) (Nat.le_of_ble_eq_true rfl) dX5_copyFrom_173 (g' := f_8) (ef_8.symm) (ws' := [(jj, .inr (5, [.int hli, .int hro, .int hse, .int hla, .int hpl, .int hex, .long hsi, .ref ja1, .ref ja2, .ref ja3, .ref ja4, .ref ja5, .ref ja6, .ref ja7, .ref ja8, .ref jc])), (ja1, .inl (t 1, 9, .inl f_1)), (ja2, .inl (t 1, 9, .inl f_2)), (ja3, .inl (t 1, 9, .inl f_3)), (ja4, .inl (t 1, 9, .inl f_4)), (ja5, .inl (t 1, 7, .inl f_5)), (ja6, .inl (t 1, 7, .inl f_6)), (ja7, .inl (t 1, 7, .inl f_7)), (ja8, .inl (t 1, 7, .inl f_8)), (jc, .inr (1, [.int jcs, .ref jb1, .ref jb2, .ref jb3, .ref jb4])), (jb1, .inl (t 1, 40, .inl jg1)), (jb2, .inl (t 1, 40, .inl jg2)), (jb3, .inl (t 1, 40, .inl jg3)), (jb4, .inl (t 1, 40, .inl jg4)), (hh, .inr (5, [.int hli, .int hro, .int hse, .int hla, .int hpl, .int hex, .long hsi, .ref ha1, .ref ha2, .ref ha3, .ref ha4, .ref ha5, .ref ha6, .ref ha7, .ref ha8, .ref hc])), (ha1, .inl (t 1, 9, .inl hf1)), (ha2, .inl (t 1, 9, .inl hf2)), (ha3, .inl (t 1, 9, .inl hf3)), (ha4, .inl (t 1, 9, .inl hf4)), (ha5, .inl (t 1, 7, .inl hf5)), (ha6, .inl (t 1, 7, .inl hf6)), (ha7, .inl (t 1, 7, .inl hf7)), (ha8, .inl (t 1, 7, .inl hf8)), (hc, .inr (1, [.int hcs, .ref hb1, .ref hb2, .ref hb3, .ref hb4])), (hb1, .inl (t 1, 40, .inl hg1)), (hb2, .inl (t 1, 40, .inl hg2)), (hb3, .inl (t 1, 40, .inl hg3)), (hb4, .inl (t 1, 40, .inl hg4))]) rfl (fun H locs hP hD hS => ?_)
  refine lv_aload_n hx hb dX5_copyFrom_176 rfl (lv_at hl 0 rfl) ?_
  refine gf hx hb hts hown hK hP 0 inT5 rfl rfl 15 (by decide) tw1_141 rfl dX5_copyFrom_177 ?_
  refine lv_aload_n hx hb dX5_copyFrom_180 rfl (lv_at hl 1 rfl) ?_
  refine gf hx hb hts hown hK hP 14 inT5 rfl rfl 15 (by decide) tw1_141 rfl dX5_copyFrom_181 ?_
  refine goV (rnV C0 (x_keep l G t jc hc jcs jb1 jb2 jb3 jb4 jg1 jg2 jg3 jg4 hcs hb1 hb2 hb3 hb4 hg1 hg2 hg3 hg4 (by omega) (by omega)) lkX5_75 ⟨by decide, by decide⟩ (hP.sub (ws' := [(jc, .inr (1, [.int jcs, .ref jb1, .ref jb2, .ref jb3, .ref jb4])), (jb1, .inl (t 1, 40, .inl jg1)), (jb2, .inl (t 1, 40, .inl jg2)), (jb3, .inl (t 1, 40, .inl jg3)), (jb4, .inl (t 1, 40, .inl jg4)), (hc, .inr (1, [.int hcs, .ref hb1, .ref hb2, .ref hb3, .ref hb4])), (hb1, .inl (t 1, 40, .inl hg1)), (hb2, .inl (t 1, 40, .inl hg2)), (hb3, .inl (t 1, 40, .inl hg3)), (hb4, .inl (t 1, 40, .inl hg4))]) [9, 10, 11, 12, 13, 23, 24, 25, 26, 27] rfl) (hD.sub (ws' := [(jc, .inr (1, [.int jcs, .ref jb1, .ref jb2, .ref jb3, .ref jb4])), (jb1, .inl (t 1, 40, .inl jg1)), (jb2, .inl (t 1, 40, .inl jg2)), (jb3, .inl (t 1, 40, .inl jg3)), (jb4, .inl (t 1, 40, .inl jg4)), (hc, .inr (1, [.int hcs, .ref hb1, .ref hb2, .ref hb3, .ref hb4])), (hb1, .inl (t 1, 40, .inl hg1)), (hb2, .inl (t 1, 40, .inl hg2)), (hb3, .inl (t 1, 40, .inl hg3)), (hb4, .inl (t 1, 40, .inl hg4))]) [9, 10, 11, 12, 13, 23, 24, 25, 26, 27] (by decide) rfl) 0 1 rfl rfl rfl rfl hl.1 (rest := []) rfl (Nat.le_of_ble_eq_true rfl) dX5_copyFrom_184 ⟨by decide, by decide⟩) hP hD hS hA [9, 10, 11, 12, 13, 23, 24, 25, 26, 27] [0, 1, 2, 3, 4, 5, 6, 7, 8, 14, 15, 16, 17, 18, 19, 20, 21, 22] (wr := [(jj, .inr (5, [.int hli, .int hro, .int hse, .int hla, .int hpl, .int hex, .long hsi, .ref ja1, .ref ja2, .ref ja3, .ref ja4, .ref ja5, .ref ja6, .ref ja7, .ref ja8, .ref jc])), (ja1, .inl (t 1, 9, .inl f_1)), (ja2, .inl (t 1, 9, .inl f_2)), (ja3, .inl (t 1, 9, .inl f_3)), (ja4, .inl (t 1, 9, .inl f_4)), (ja5, .inl (t 1, 7, .inl f_5)), (ja6, .inl (t 1, 7, .inl f_6)), (ja7, .inl (t 1, 7, .inl f_7)), (ja8, .inl (t 1, 7, .inl f_8)), (hh, .inr (5, [.int hli, .int hro, .int hse, .int hla, .int hpl, .int hex, .long hsi, .ref ha1, .ref ha2, .ref ha3, .ref ha4, .ref ha5, .ref ha6, .ref ha7, .ref ha8, .ref hc])), (ha1, .inl (t 1, 9, .inl hf1)), (ha2, .inl (t 1, 9, .inl hf2)), (ha3, .inl (t 1, 9, .inl hf3)), (ha4, .inl (t 1, 9, .inl hf4)), (ha5, .inl (t 1, 7, .inl hf5)), (ha6, .inl (t 1, 7, .inl hf6)), (ha7, .inl (t 1, 7, .inl hf7)), (ha8, .inl (t 1, 7, .inl hf8))]) rfl rfl (by decide) (by decide) (fun u H locs h_15 hP hD hS => ?_)
  obtain ⟨u_9, u_10, u_11, u_12, u_13⟩ := u
  have h_15 : (0 ≤ u_9.toInt ∧ u_9.toInt ≤ 40) := h_15
  have b_16 := h_15
  have hP : va_P G vwCl [(jj, .inr (5, [.int hli, .int hro, .int hse, .int hla, .int hpl, .int hex, .long hsi, .ref ja1, .ref ja2, .ref ja3, .ref ja4, .ref ja5, .ref ja6, .ref ja7, .ref ja8, .ref jc])), (ja1, .inl (t 1, 9, .inl f_1)), (ja2, .inl (t 1, 9, .inl f_2)), (ja3, .inl (t 1, 9, .inl f_3)), (ja4, .inl (t 1, 9, .inl f_4)), (ja5, .inl (t 1, 7, .inl f_5)), (ja6, .inl (t 1, 7, .inl f_6)), (ja7, .inl (t 1, 7, .inl f_7)), (ja8, .inl (t 1, 7, .inl f_8)), (hh, .inr (5, [.int hli, .int hro, .int hse, .int hla, .int hpl, .int hex, .long hsi, .ref ha1, .ref ha2, .ref ha3, .ref ha4, .ref ha5, .ref ha6, .ref ha7, .ref ha8, .ref hc])), (ha1, .inl (t 1, 9, .inl hf1)), (ha2, .inl (t 1, 9, .inl hf2)), (ha3, .inl (t 1, 9, .inl hf3)), (ha4, .inl (t 1, 9, .inl hf4)), (ha5, .inl (t 1, 7, .inl hf5)), (ha6, .inl (t 1, 7, .inl hf6)), (ha7, .inl (t 1, 7, .inl hf7)), (ha8, .inl (t 1, 7, .inl hf8)), (jc, .inr (1, [.int u_9, .ref jb1, .ref jb2, .ref jb3, .ref jb4])), (jb1, .inl (t 1, 40, .inl u_10)), (jb2, .inl (t 1, 40, .inl u_11)), (jb3, .inl (t 1, 40, .inl u_12)), (jb4, .inl (t 1, 40, .inl u_13)), (hc, .inr (1, [.int hcs, .ref hb1, .ref hb2, .ref hb3, .ref hb4])), (hb1, .inl (t 1, 40, .inl hg1)), (hb2, .inl (t 1, 40, .inl hg2)), (hb3, .inl (t 1, 40, .inl hg3)), (hb4, .inl (t 1, 40, .inl hg4))] H := hP
  have hD : va_D A [(jj, .inr (5, [.int hli, .int hro, .int hse, .int hla, .int hpl, .int hex, .long hsi, .ref ja1, .ref ja2, .ref ja3, .ref ja4, .ref ja5, .ref ja6, .ref ja7, .ref ja8, .ref jc])), (ja1, .inl (t 1, 9, .inl f_1)), (ja2, .inl (t 1, 9, .inl f_2)), (ja3, .inl (t 1, 9, .inl f_3)), (ja4, .inl (t 1, 9, .inl f_4)), (ja5, .inl (t 1, 7, .inl f_5)), (ja6, .inl (t 1, 7, .inl f_6)), (ja7, .inl (t 1, 7, .inl f_7)), (ja8, .inl (t 1, 7, .inl f_8)), (hh, .inr (5, [.int hli, .int hro, .int hse, .int hla, .int hpl, .int hex, .long hsi, .ref ha1, .ref ha2, .ref ha3, .ref ha4, .ref ha5, .ref ha6, .ref ha7, .ref ha8, .ref hc])), (ha1, .inl (t 1, 9, .inl hf1)), (ha2, .inl (t 1, 9, .inl hf2)), (ha3, .inl (t 1, 9, .inl hf3)), (ha4, .inl (t 1, 9, .inl hf4)), (ha5, .inl (t 1, 7, .inl hf5)), (ha6, .inl (t 1, 7, .inl hf6)), (ha7, .inl (t 1, 7, .inl hf7)), (ha8, .inl (t 1, 7, .inl hf8)), (jc, .inr (1, [.int u_9, .ref jb1, .ref jb2, .ref jb3, .ref jb4])), (jb1, .inl (t 1, 40, .inl u_10)), (jb2, .inl (t 1, 40, .inl u_11)), (jb3, .inl (t 1, 40, .inl u_12)), (jb4, .inl (t 1, 40, .inl u_13)), (hc, .inr (1, [.int hcs, .ref hb1, .ref hb2, .ref hb3, .ref hb4])), (hb1, .inl (t 1, 40, .inl hg1)), (hb2, .inl (t 1, 40, .inl hg2)), (hb3, .inl (t 1, 40, .inl hg3)), (hb4, .inl (t 1, 40, .inl hg4))] := hD
  refine W.widen (k := 0) (n := 0) (Nat.le_of_ble_eq_true rfl) (Nat.le_of_ble_eq_true rfl) ?_
  exact rtV hx hb hr hlocks hS (hli, hro, hse, hla, hpl, hex, hsi, f_1, f_2, f_3, f_4, f_5, f_6, f_7, f_8, u_9, u_10, u_11, u_12, u_13) (⟨(show 0 ≤ hro.toInt ∧ hro.toInt ≤ 6 from (by omega)), (show 0 ≤ hse.toInt ∧ hse.toInt ≤ 6 from (by omega)), (show 0 ≤ hpl.toInt ∧ hpl.toInt ≤ 9 from (by omega)), (show 0 ≤ hex.toInt ∧ hex.toInt ≤ 7 from (by omega)), hf_1, hf_2, (show 0 ≤ u_9.toInt ∧ u_9.toInt ≤ 40 from (by omega))⟩) (hP.sub [0, 1, 2, 3, 4, 5, 6, 7, 8, 18, 19, 20, 21, 22, 9, 10, 11, 12, 13, 14, 15, 16, 17, 23, 24, 25, 26, 27] rfl) (hD.sub [0, 1, 2, 3, 4, 5, 6, 7, 8, 18, 19, 20, 21, 22, 9, 10, 11, 12, 13, 14, 15, 16, 17, 23, 24, 25, 26, 27] (by decide) rfl) dX5_copyFrom_187

set_option maxHeartbeats 4000000 in
set_option maxRecDepth 100000 in
theorem x_hasPlaceLike (l : Launch) (G : va_G) (t : Nat → ClassId) (hh : Nat) (a0 : Int32) (hli : Int32) (hro : Int32) (hse : Int32) (hla : Int32) (hpl : Int32) (hex : Int32) (hsi : Int64) (ha1 : Nat) (ha2 : Nat) (ha3 : Nat) (ha4 : Nat) (ha5 : Nat) (ha6 : Nat) (ha7 : Nat) (ha8 : Nat) (hc : Nat) (hf1 : Nat → Int32) (hf2 : Nat → Int32) (h_hro : 0 ≤ hro.toInt ∧ hro.toInt ≤ 6) (h_hse : 0 ≤ hse.toInt ∧ hse.toInt ≤ 6) (h_hpl : 0 ≤ hpl.toInt ∧ hpl.toInt ≤ 9) (h_hex : 0 ≤ hex.toInt ∧ hex.toInt ≤ 7) (h_hf1 : Rp (fun _ v => 0 ≤ v ∧ v ≤ 5) 9 hf1) (h_hf2 : Rp (fun _ v => 0 ≤ v ∧ v ≤ 5) 9 hf2) : Ct l G t yX5_hasPlaceLike cX5_hasPlaceLike 3 (some .boolean) ({ frames := 0, cells := 0, slots := 0, locals := 0 }) [.ref hh, .int a0] [(hh, .inr (5, [.int hli, .int hro, .int hse, .int hla, .int hpl, .int hex, .long hsi, .ref ha1, .ref ha2, .ref ha3, .ref ha4, .ref ha5, .ref ha6, .ref ha7, .ref ha8, .ref hc])), (ha1, .inl (t 1, 9, .inl hf1)), (ha2, .inl (t 1, 9, .inl hf2))] (QI G (fun r (u : Unit) => True) (fun (u : Unit) => [(hh, .inr (5, [.int hli, .int hro, .int hse, .int hla, .int hpl, .int hex, .long hsi, .ref ha1, .ref ha2, .ref ha3, .ref ha4, .ref ha5, .ref ha6, .ref ha7, .ref ha8, .ref hc])), (ha1, .inl (t 1, 9, .inl hf1)), (ha2, .inl (t 1, 9, .inl hf2))])) := by
  refine ent (by decide) (Nat.le_of_ble_eq_true rfl) ?_
  intro p e s m args below meth c hx hb hr hml hts hown hlocks hin A hA hK hO hP hD hS ls hl
  have hown : s.vm.findClass RX5 = some m.cls := hown
  have hl : lv_has ls 3 [(0, .ref hh), (1, .int a0)] := hl
  have C0 : Cx p s m args c cX5_hasPlaceLike 3 RX5 G t := ⟨hx, hb, hml, hown, hts, hK, hO⟩
  have := zrng a0
  refine lv_iconst (v := 0) hx hb dX5_hasPlaceLike_0 (by decide) ?_
  refine lv_istore_n (lv' := [(2, .int 0), (0, .ref hh), (1, .int a0)]) hx hb dX5_hasPlaceLike_1 rfl hl (by decide) rfl (fun ls hl => ?_)
  have LP_5 : ∀ (n : Nat) (g_3 : Int32) (b_4 : 0 ≤ g_3.toInt) (H : Heap) (locs : List Loc) (ls : Array Slot), lv_has ls 3 [(2, .int g_3), (0, .ref hh), (1, .int a0)] → va_P G vwCl [(hh, .inr (5, [.int hli, .int hro, .int hse, .int hla, .int hpl, .int hex, .long hsi, .ref ha1, .ref ha2, .ref ha3, .ref ha4, .ref ha5, .ref ha6, .ref ha7, .ref ha8, .ref hc])), (ha1, .inl (t 1, 9, .inl hf1)), (ha2, .inl (t 1, 9, .inl hf2))] H → va_D A [(hh, .inr (5, [.int hli, .int hro, .int hse, .int hla, .int hpl, .int hex, .long hsi, .ref ha1, .ref ha2, .ref ha3, .ref ha4, .ref ha5, .ref ha6, .ref ha7, .ref ha8, .ref hc])), (ha1, .inl (t 1, 9, .inl hf1)), (ha2, .inl (t 1, 9, .inl hf2))] → va_S A s.heap H locs → Int.toNat (a0.toInt - g_3.toInt) = n → W p l e ({ frames := 0, cells := 0, slots := 0, locals := 0 }) s m args below meth c H locs 0 0 (MQ below ((QI G (fun r (u : Unit) => True) (fun (u : Unit) => [(hh, .inr (5, [.int hli, .int hro, .int hse, .int hla, .int hpl, .int hex, .long hsi, .ref ha1, .ref ha2, .ref ha3, .ref ha4, .ref ha5, .ref ha6, .ref ha7, .ref ha8, .ref hc])), (ha1, .inl (t 1, 9, .inl hf1)), (ha2, .inl (t 1, 9, .inl hf2))])) A) args s 0 0 A) (F0 m 2 ls []) := by
    intro n
    induction n using Nat.strongRecOn with
    | ind n ih_2 =>
      intro g_3 b_4 H locs ls hl hP hD hS hmu
      have := zrng g_3
      refine lv_iload_n hx hb dX5_hasPlaceLike_2 rfl (lv_at hl 0 rfl) ?_
      refine lv_iload_n hx hb dX5_hasPlaceLike_3 rfl (lv_at hl 2 rfl) ?_
      refine bI_ge (tgt := 57) hx hb dX5_hasPlaceLike_4 (by decide) g_3.toInt a0.toInt rfl rfl (fun c_6 => ?_) (fun c_6 => ?_)
      · refine lv_iconst (v := 0) hx hb dX5_hasPlaceLike_57 (by decide) ?_
        exact rtZ hx hb hr hlocks hS rfl () (trivial) (hP.sub [0, 1, 2] rfl) (hD.sub [0, 1, 2] (by decide) rfl) dX5_hasPlaceLike_58
      · refine lv_iload_n hx hb dX5_hasPlaceLike_7 rfl (lv_at hl 0 rfl) ?_
        refine lv_bipush (v := 9) hx hb dX5_hasPlaceLike_8 (by decide) ?_
        refine bI_ge (tgt := 57) hx hb dX5_hasPlaceLike_10 (by decide) g_3.toInt 9 rfl rfl (fun c_7 => ?_) (fun c_7 => ?_)
        · refine lv_iconst (v := 0) hx hb dX5_hasPlaceLike_57 (by decide) ?_
          exact rtZ hx hb hr hlocks hS rfl () (trivial) (hP.sub [0, 1, 2] rfl) (hD.sub [0, 1, 2] (by decide) rfl) dX5_hasPlaceLike_58
        · refine lv_iload_n hx hb dX5_hasPlaceLike_13 rfl (lv_at hl 2 rfl) ?_
          refine lv_bipush (v := 9) hx hb dX5_hasPlaceLike_14 (by decide) ?_
          refine bI_ge (tgt := 57) hx hb dX5_hasPlaceLike_16 (by decide) a0.toInt 9 rfl rfl (fun c_8 => ?_) (fun c_8 => ?_)
          · refine lv_iconst (v := 0) hx hb dX5_hasPlaceLike_57 (by decide) ?_
            exact rtZ hx hb hr hlocks hS rfl () (trivial) (hP.sub [0, 1, 2] rfl) (hD.sub [0, 1, 2] (by decide) rfl) dX5_hasPlaceLike_58
          · refine lv_aload_n hx hb dX5_hasPlaceLike_19 rfl (lv_at hl 1 rfl) ?_
            refine gf hx hb hts hown hK hP 0 inT5 rfl rfl 7 (by decide) tw1_112 rfl dX5_hasPlaceLike_20 ?_
            refine lv_iload_n hx hb dX5_hasPlaceLike_23 rfl (lv_at hl 0 rfl) ?_
            refine lpI hx hb hK hP 1 h_hf1 rfl g_3.toInt rfl (by omega) dX5_hasPlaceLike_24 (fun v_9 ev_9 zv_9 => ?_)
            try dsimp only at zv_9
            refine lv_aload_n hx hb dX5_hasPlaceLike_25 rfl (lv_at hl 1 rfl) ?_
            refine gf hx hb hts hown hK hP 0 inT5 rfl rfl 7 (by decide) tw1_112 rfl dX5_hasPlaceLike_26 ?_
            refine lv_iload_n hx hb dX5_hasPlaceLike_29 rfl (lv_at hl 2 rfl) ?_
            refine lpI hx hb hK hP 1 h_hf1 rfl a0.toInt rfl (by omega) dX5_hasPlaceLike_30 (fun v_10 ev_10 zv_10 => ?_)
            try dsimp only at zv_10
            refine bI_ne (tgt := 51) hx hb dX5_hasPlaceLike_31 (by decide) v_9.toInt v_10.toInt rfl rfl (fun c_11 => ?_) (fun c_11 => ?_)
            · first | refine incZ hx hb dX5_hasPlaceLike_51 hl (k := 0) rfl g_3.toInt rfl (by have := zrng g_3; omega) (by decide) (fun v_12 zv_12 ls hl => ?_) | refine incU hx hb dX5_hasPlaceLike_51 hl (k := 0) rfl (by decide) (fun v_12 ls hl => ?_)
              have hl : lv_has ls 3 [(2, .int v_12), (0, .ref hh), (1, .int a0)] := hl
              refine lv_goto (tgt := 2) hx hb dX5_hasPlaceLike_54 (by decide) ?_
              exact ih_2 (Int.toNat (a0.toInt - v_12.toInt)) (by omega) v_12 (by omega) _ _ _ (lv_sub hl [0, 1, 2] rfl) (hP.sub [0, 1, 2] rfl) (hD.sub [0, 1, 2] (by decide) rfl) hS rfl
            · refine lv_aload_n hx hb dX5_hasPlaceLike_34 rfl (lv_at hl 1 rfl) ?_
              refine gf hx hb hts hown hK hP 0 inT5 rfl rfl 8 (by decide) tw1_116 rfl dX5_hasPlaceLike_35 ?_
              refine lv_iload_n hx hb dX5_hasPlaceLike_38 rfl (lv_at hl 0 rfl) ?_
              refine lpI hx hb hK hP 2 h_hf2 rfl g_3.toInt rfl (by omega) dX5_hasPlaceLike_39 (fun v_13 ev_13 zv_13 => ?_)
              try dsimp only at zv_13
              refine lv_aload_n hx hb dX5_hasPlaceLike_40 rfl (lv_at hl 1 rfl) ?_
              refine gf hx hb hts hown hK hP 0 inT5 rfl rfl 8 (by decide) tw1_116 rfl dX5_hasPlaceLike_41 ?_
              refine lv_iload_n hx hb dX5_hasPlaceLike_44 rfl (lv_at hl 2 rfl) ?_
              refine lpI hx hb hK hP 2 h_hf2 rfl a0.toInt rfl (by omega) dX5_hasPlaceLike_45 (fun v_14 ev_14 zv_14 => ?_)
              try dsimp only at zv_14
              refine bI_ne (tgt := 51) hx hb dX5_hasPlaceLike_46 (by decide) v_13.toInt v_14.toInt rfl rfl (fun c_15 => ?_) (fun c_15 => ?_)
              · first | refine incZ hx hb dX5_hasPlaceLike_51 hl (k := 0) rfl g_3.toInt rfl (by have := zrng g_3; omega) (by decide) (fun v_16 zv_16 ls hl => ?_) | refine incU hx hb dX5_hasPlaceLike_51 hl (k := 0) rfl (by decide) (fun v_16 ls hl => ?_)
                have hl : lv_has ls 3 [(2, .int v_16), (0, .ref hh), (1, .int a0)] := hl
                refine lv_goto (tgt := 2) hx hb dX5_hasPlaceLike_54 (by decide) ?_
                exact ih_2 (Int.toNat (a0.toInt - v_16.toInt)) (by omega) v_16 (by omega) _ _ _ (lv_sub hl [0, 1, 2] rfl) (hP.sub [0, 1, 2] rfl) (hD.sub [0, 1, 2] (by decide) rfl) hS rfl
              · refine lv_iconst (v := 1) hx hb dX5_hasPlaceLike_49 (by decide) ?_
                exact rtZ hx hb hr hlocks hS rfl () (trivial) (hP.sub [0, 1, 2] rfl) (hD.sub [0, 1, 2] (by decide) rfl) dX5_hasPlaceLike_50
  exact LP_5 (Int.toNat (a0.toInt - 0)) 0 (by have : (0 : Int32).toInt = 0 := rfl; omega) _ _ _ (lv_sub hl [0, 1, 2] rfl) (hP.sub [0, 1, 2] rfl) (hD.sub [0, 1, 2] (by decide) rfl) hS rfl

set_option maxHeartbeats 4000000 in
set_option maxRecDepth 100000 in
theorem x_hasExitAt (l : Launch) (G : va_G) (t : Nat → ClassId) (hh : Nat) (a0 : Int32) (hli : Int32) (hro : Int32) (hse : Int32) (hla : Int32) (hpl : Int32) (hex : Int32) (hsi : Int64) (ha1 : Nat) (ha2 : Nat) (ha3 : Nat) (ha4 : Nat) (ha5 : Nat) (ha6 : Nat) (ha7 : Nat) (ha8 : Nat) (hc : Nat) (hf5 : Nat → Int32) (h_hro : 0 ≤ hro.toInt ∧ hro.toInt ≤ 6) (h_hse : 0 ≤ hse.toInt ∧ hse.toInt ≤ 6) (h_hpl : 0 ≤ hpl.toInt ∧ hpl.toInt ≤ 9) (h_hex : 0 ≤ hex.toInt ∧ hex.toInt ≤ 7) : Ct l G t yX5_hasExitAt cX5_hasExitAt 3 (some .boolean) ({ frames := 0, cells := 0, slots := 0, locals := 0 }) [.ref hh, .int a0] [(hh, .inr (5, [.int hli, .int hro, .int hse, .int hla, .int hpl, .int hex, .long hsi, .ref ha1, .ref ha2, .ref ha3, .ref ha4, .ref ha5, .ref ha6, .ref ha7, .ref ha8, .ref hc])), (ha5, .inl (t 1, 7, .inl hf5))] (QI G (fun r (u : Unit) => True) (fun (u : Unit) => [(hh, .inr (5, [.int hli, .int hro, .int hse, .int hla, .int hpl, .int hex, .long hsi, .ref ha1, .ref ha2, .ref ha3, .ref ha4, .ref ha5, .ref ha6, .ref ha7, .ref ha8, .ref hc])), (ha5, .inl (t 1, 7, .inl hf5))])) := by
  refine ent (by decide) (Nat.le_of_ble_eq_true rfl) ?_
  intro p e s m args below meth c hx hb hr hml hts hown hlocks hin A hA hK hO hP hD hS ls hl
  have hown : s.vm.findClass RX5 = some m.cls := hown
  have hl : lv_has ls 3 [(0, .ref hh), (1, .int a0)] := hl
  have C0 : Cx p s m args c cX5_hasExitAt 3 RX5 G t := ⟨hx, hb, hml, hown, hts, hK, hO⟩
  have := zrng a0
  refine lv_iconst (v := 0) hx hb dX5_hasExitAt_0 (by decide) ?_
  refine lv_istore_n (lv' := [(2, .int 0), (0, .ref hh), (1, .int a0)]) hx hb dX5_hasExitAt_1 rfl hl (by decide) rfl (fun ls hl => ?_)
  have LP_5 : ∀ (n : Nat) (g_3 : Int32) (b_4 : 0 ≤ g_3.toInt) (H : Heap) (locs : List Loc) (ls : Array Slot), lv_has ls 3 [(2, .int g_3), (0, .ref hh), (1, .int a0)] → va_P G vwCl [(hh, .inr (5, [.int hli, .int hro, .int hse, .int hla, .int hpl, .int hex, .long hsi, .ref ha1, .ref ha2, .ref ha3, .ref ha4, .ref ha5, .ref ha6, .ref ha7, .ref ha8, .ref hc])), (ha5, .inl (t 1, 7, .inl hf5))] H → va_D A [(hh, .inr (5, [.int hli, .int hro, .int hse, .int hla, .int hpl, .int hex, .long hsi, .ref ha1, .ref ha2, .ref ha3, .ref ha4, .ref ha5, .ref ha6, .ref ha7, .ref ha8, .ref hc])), (ha5, .inl (t 1, 7, .inl hf5))] → va_S A s.heap H locs → Int.toNat (hex.toInt - g_3.toInt) = n → W p l e ({ frames := 0, cells := 0, slots := 0, locals := 0 }) s m args below meth c H locs 0 0 (MQ below ((QI G (fun r (u : Unit) => True) (fun (u : Unit) => [(hh, .inr (5, [.int hli, .int hro, .int hse, .int hla, .int hpl, .int hex, .long hsi, .ref ha1, .ref ha2, .ref ha3, .ref ha4, .ref ha5, .ref ha6, .ref ha7, .ref ha8, .ref hc])), (ha5, .inl (t 1, 7, .inl hf5))])) A) args s 0 0 A) (F0 m 2 ls []) := by
    intro n
    induction n using Nat.strongRecOn with
    | ind n ih_2 =>
      intro g_3 b_4 H locs ls hl hP hD hS hmu
      have := zrng g_3
      refine lv_iload_n hx hb dX5_hasExitAt_2 rfl (lv_at hl 0 rfl) ?_
      refine lv_aload_n hx hb dX5_hasExitAt_3 rfl (lv_at hl 1 rfl) ?_
      refine gf hx hb hts hown hK hP 0 inT5 rfl rfl 5 (by decide) tw1_103 rfl dX5_hasExitAt_4 ?_
      refine bI_ge (tgt := 34) hx hb dX5_hasExitAt_7 (by decide) g_3.toInt hex.toInt rfl rfl (fun c_6 => ?_) (fun c_6 => ?_)
      · refine lv_iconst (v := 0) hx hb dX5_hasExitAt_34 (by decide) ?_
        exact rtZ hx hb hr hlocks hS rfl () (trivial) (hP.sub [0, 1] rfl) (hD.sub [0, 1] (by decide) rfl) dX5_hasExitAt_35
      · refine lv_iload_n hx hb dX5_hasExitAt_10 rfl (lv_at hl 0 rfl) ?_
        refine lv_bipush (v := 7) hx hb dX5_hasExitAt_11 (by decide) ?_
        refine bI_ge (tgt := 34) hx hb dX5_hasExitAt_13 (by decide) g_3.toInt 7 rfl rfl (fun c_7 => ?_) (fun c_7 => ?_)
        · refine lv_iconst (v := 0) hx hb dX5_hasExitAt_34 (by decide) ?_
          exact rtZ hx hb hr hlocks hS rfl () (trivial) (hP.sub [0, 1] rfl) (hD.sub [0, 1] (by decide) rfl) dX5_hasExitAt_35
        · refine lv_aload_n hx hb dX5_hasExitAt_16 rfl (lv_at hl 1 rfl) ?_
          refine gf hx hb hts hown hK hP 0 inT5 rfl rfl 11 (by decide) tw1_127 rfl dX5_hasExitAt_17 ?_
          refine lv_iload_n hx hb dX5_hasExitAt_20 rfl (lv_at hl 0 rfl) ?_
          refine laI hx hb hK hP 1 rfl g_3.toInt rfl (by omega) dX5_hasExitAt_21 (fun v_8 ev_8 => ?_)
          refine lv_iload_n hx hb dX5_hasExitAt_22 rfl (lv_at hl 2 rfl) ?_
          refine bI_ne (tgt := 28) hx hb dX5_hasExitAt_23 (by decide) v_8.toInt a0.toInt rfl rfl (fun c_9 => ?_) (fun c_9 => ?_)
          · first | refine incZ hx hb dX5_hasExitAt_28 hl (k := 0) rfl g_3.toInt rfl (by have := zrng g_3; omega) (by decide) (fun v_10 zv_10 ls hl => ?_) | refine incU hx hb dX5_hasExitAt_28 hl (k := 0) rfl (by decide) (fun v_10 ls hl => ?_)
            have hl : lv_has ls 3 [(2, .int v_10), (0, .ref hh), (1, .int a0)] := hl
            refine lv_goto (tgt := 2) hx hb dX5_hasExitAt_31 (by decide) ?_
            exact ih_2 (Int.toNat (hex.toInt - v_10.toInt)) (by omega) v_10 (by omega) _ _ _ (lv_sub hl [0, 1, 2] rfl) (hP.sub [0, 1] rfl) (hD.sub [0, 1] (by decide) rfl) hS rfl
          · refine lv_iconst (v := 1) hx hb dX5_hasExitAt_26 (by decide) ?_
            exact rtZ hx hb hr hlocks hS rfl () (trivial) (hP.sub [0, 1] rfl) (hD.sub [0, 1] (by decide) rfl) dX5_hasExitAt_27
  exact LP_5 (Int.toNat (hex.toInt - 0)) 0 (by have : (0 : Int32).toInt = 0 := rfl; omega) _ _ _ (lv_sub hl [0, 1, 2] rfl) (hP.sub [0, 1] rfl) (hD.sub [0, 1] (by decide) rfl) hS rfl

set_option maxHeartbeats 4000000 in
set_option maxRecDepth 100000 in
theorem x_isTaken (l : Launch) (G : va_G) (t : Nat → ClassId) (hh : Nat) (a0 : Int32) (hli : Int32) (hro : Int32) (hse : Int32) (hla : Int32) (hpl : Int32) (hex : Int32) (hsi : Int64) (ha1 : Nat) (ha2 : Nat) (ha3 : Nat) (ha4 : Nat) (ha5 : Nat) (ha6 : Nat) (ha7 : Nat) (ha8 : Nat) (hc : Nat) (h_hro : 0 ≤ hro.toInt ∧ hro.toInt ≤ 6) (h_hse : 0 ≤ hse.toInt ∧ hse.toInt ≤ 6) (h_hpl : 0 ≤ hpl.toInt ∧ hpl.toInt ≤ 9) (h_hex : 0 ≤ hex.toInt ∧ hex.toInt ≤ 7) : Ct l G t yX5_isTaken cX5_isTaken 2 (some .boolean) ({ frames := 1, cells := 0, slots := 0, locals := 20 }) [.ref hh, .int a0] [(hh, .inr (5, [.int hli, .int hro, .int hse, .int hla, .int hpl, .int hex, .long hsi, .ref ha1, .ref ha2, .ref ha3, .ref ha4, .ref ha5, .ref ha6, .ref ha7, .ref ha8, .ref hc]))] (QI G (fun r (u : Unit) => True) (fun (u : Unit) => [(hh, .inr (5, [.int hli, .int hro, .int hse, .int hla, .int hpl, .int hex, .long hsi, .ref ha1, .ref ha2, .ref ha3, .ref ha4, .ref ha5, .ref ha6, .ref ha7, .ref ha8, .ref hc]))])) := by
  refine ent (by decide) (Nat.le_of_ble_eq_true rfl) ?_
  intro p e s m args below meth c hx hb hr hml hts hown hlocks hin A hA hK hO hP hD hS ls hl
  have hown : s.vm.findClass RX5 = some m.cls := hown
  have hl : lv_has ls 2 [(0, .ref hh), (1, .int a0)] := hl
  have C0 : Cx p s m args c cX5_isTaken 2 RX5 G t := ⟨hx, hb, hml, hown, hts, hK, hO⟩
  have := zrng a0
  refine lv_aload_n hx hb dX5_isTaken_0 rfl (lv_at hl 0 rfl) ?_
  refine gf hx hb hts hown hK hP 0 inT5 rfl rfl 6 (by decide) tw1_109 rfl dX5_isTaken_1 ?_
  refine lv_iload_n hx hb dX5_isTaken_4 rfl (lv_at hl 1 rfl) ?_
  refine goL (rnSN C0 (x_spotBit l G t a0) lkX5_79 ⟨by decide, by decide⟩ (hP.sub (ws' := []) [] rfl) (hD.sub (ws' := []) [] (by decide) rfl) rfl hl.1 (rest := [.long hsi]) rfl (Nat.le_of_ble_eq_true rfl) dX5_isTaken_5 ⟨by decide, by decide⟩) hP hD hS hA [] [0] (wr := [(hh, .inr (5, [.int hli, .int hro, .int hse, .int hla, .int hpl, .int hex, .long hsi, .ref ha1, .ref ha2, .ref ha3, .ref ha4, .ref ha5, .ref ha6, .ref ha7, .ref ha8, .ref hc]))]) rfl rfl (by decide) (by decide) (fun r_1 u H locs h_2 hP hD hS => ?_)
  have hP : va_P G vwCl [(hh, .inr (5, [.int hli, .int hro, .int hse, .int hla, .int hpl, .int hex, .long hsi, .ref ha1, .ref ha2, .ref ha3, .ref ha4, .ref ha5, .ref ha6, .ref ha7, .ref ha8, .ref hc]))] H := hP
  have hD : va_D A [(hh, .inr (5, [.int hli, .int hro, .int hse, .int hla, .int hpl, .int hex, .long hsi, .ref ha1, .ref ha2, .ref ha3, .ref ha4, .ref ha5, .ref ha6, .ref ha7, .ref ha8, .ref hc]))] := hD
  refine W.widen (k := 0) (n := 0) (Nat.le_of_ble_eq_true rfl) (Nat.le_of_ble_eq_true rfl) ?_
  refine lv_land hx hb dX5_isTaken_8 (gnL (fun v_3 => ?_))
  refine lv_lconst (v := 0) hx hb dX5_isTaken_9 (by decide) ?_
  refine bL_eq (tgt := 18) hx hb dX5_isTaken_10 dX5_isTaken_11 (by decide) v_3.toInt 0 rfl rfl (fun c_4 => ?_) (fun c_4 => ?_)
  · refine lv_iconst (v := 0) hx hb dX5_isTaken_18 (by decide) ?_
    exact rtZ hx hb hr hlocks hS rfl () (trivial) (hP.sub [0] rfl) (hD.sub [0] (by decide) rfl) dX5_isTaken_19
  · refine lv_iconst (v := 1) hx hb dX5_isTaken_14 (by decide) ?_
    refine lv_goto (tgt := 19) hx hb dX5_isTaken_15 (by decide) ?_
    exact rtZ hx hb hr hlocks hS rfl () (trivial) (hP.sub [0] rfl) (hD.sub [0] (by decide) rfl) dX5_isTaken_19

set_option maxHeartbeats 4000000 in
set_option maxRecDepth 100000 in
theorem x_setTaken (l : Launch) (G : va_G) (t : Nat → ClassId) (hh : Nat) (a0 : Int32) (b0 : Int32) (hli : Int32) (hro : Int32) (hse : Int32) (hla : Int32) (hpl : Int32) (hex : Int32) (hsi : Int64) (ha1 : Nat) (ha2 : Nat) (ha3 : Nat) (ha4 : Nat) (ha5 : Nat) (ha6 : Nat) (ha7 : Nat) (ha8 : Nat) (hc : Nat) (h_hro : 0 ≤ hro.toInt ∧ hro.toInt ≤ 6) (h_hse : 0 ≤ hse.toInt ∧ hse.toInt ≤ 6) (h_hpl : 0 ≤ hpl.toInt ∧ hpl.toInt ≤ 9) (h_hex : 0 ≤ hex.toInt ∧ hex.toInt ≤ 7) : Ct l G t yX5_setTaken cX5_setTaken 3 none ({ frames := 1, cells := 0, slots := 0, locals := 20 }) [.ref hh, .int a0, .int b0] [(hh, .inr (5, [.int hli, .int hro, .int hse, .int hla, .int hpl, .int hex, .long hsi, .ref ha1, .ref ha2, .ref ha3, .ref ha4, .ref ha5, .ref ha6, .ref ha7, .ref ha8, .ref hc]))] (QV G (fun (u : (Int64)) => True) (fun (u : (Int64)) => [(hh, .inr (5, [.int hli, .int hro, .int hse, .int hla, .int hpl, .int hex, .long u, .ref ha1, .ref ha2, .ref ha3, .ref ha4, .ref ha5, .ref ha6, .ref ha7, .ref ha8, .ref hc]))])) := by
  refine ent (by decide) (Nat.le_of_ble_eq_true rfl) ?_
  intro p e s m args below meth c hx hb hr hml hts hown hlocks hin A hA hK hO hP hD hS ls hl
  have hown : s.vm.findClass RX5 = some m.cls := hown
  have hl : lv_has ls 3 [(0, .ref hh), (1, .int a0), (2, .int b0)] := hl
  have C0 : Cx p s m args c cX5_setTaken 3 RX5 G t := ⟨hx, hb, hml, hown, hts, hK, hO⟩
  have := zrng a0
  have := zrng b0
  refine lv_aload_n hx hb dX5_setTaken_0 rfl (lv_at hl 0 rfl) ?_
  refine lv_iload_n hx hb dX5_setTaken_1 rfl (lv_at hl 2 rfl) ?_
  refine bF_eq (tgt := 17) hx hb dX5_setTaken_2 (by decide) b0.toInt rfl (fun c_1 => ?_) (fun c_1 => ?_)
  · refine lv_aload_n hx hb dX5_setTaken_17 rfl (lv_at hl 0 rfl) ?_
    refine gf hx hb hts hown hK hP 0 inT5 rfl rfl 6 (by decide) tw1_109 rfl dX5_setTaken_18 ?_
    refine lv_iload_n hx hb dX5_setTaken_21 rfl (lv_at hl 1 rfl) ?_
    refine goL (rnSN C0 (x_spotBit l G t a0) lkX5_79 ⟨by decide, by decide⟩ (hP.sub (ws' := []) [] rfl) (hD.sub (ws' := []) [] (by decide) rfl) rfl hl.1 (rest := [.long hsi, .ref hh]) rfl (Nat.le_of_ble_eq_true rfl) dX5_setTaken_22 ⟨by decide, by decide⟩) hP hD hS hA [] [0] (wr := [(hh, .inr (5, [.int hli, .int hro, .int hse, .int hla, .int hpl, .int hex, .long hsi, .ref ha1, .ref ha2, .ref ha3, .ref ha4, .ref ha5, .ref ha6, .ref ha7, .ref ha8, .ref hc]))]) rfl rfl (by decide) (by decide) (fun r_2 u H locs h_3 hP hD hS => ?_)
    have hP : va_P G vwCl [(hh, .inr (5, [.int hli, .int hro, .int hse, .int hla, .int hpl, .int hex, .long hsi, .ref ha1, .ref ha2, .ref ha3, .ref ha4, .ref ha5, .ref ha6, .ref ha7, .ref ha8, .ref hc]))] H := hP
    have hD : va_D A [(hh, .inr (5, [.int hli, .int hro, .int hse, .int hla, .int hpl, .int hex, .long hsi, .ref ha1, .ref ha2, .ref ha3, .ref ha4, .ref ha5, .ref ha6, .ref ha7, .ref ha8, .ref hc]))] := hD
    refine W.widen (k := 0) (n := 0) (Nat.le_of_ble_eq_true rfl) (Nat.le_of_ble_eq_true rfl) ?_
    refine lv_ldc2 hx hb hown (hts _ tw3_38) dX5_setTaken_25 ?_
    refine lv_lxor hx hb dX5_setTaken_28 (gnL (fun v_4 => ?_))
    refine lv_land hx hb dX5_setTaken_29 (gnL (fun v_5 => ?_))
    refine pf hx hb hts hown hK hP hD hS 0 inT5 tyX5_ok nmX5 rfl rfl 6 (by decide) tw1_109 rfl rfl rfl (Nat.le_of_ble_eq_true rfl) dX5_setTaken_30 (ws' := [(hh, .inr (5, [.int hli, .int hro, .int hse, .int hla, .int hpl, .int hex, .long v_5, .ref ha1, .ref ha2, .ref ha3, .ref ha4, .ref ha5, .ref ha6, .ref ha7, .ref ha8, .ref hc]))]) rfl (fun H locs hP hD hS => ?_)
    exact rtV hx hb hr hlocks hS v_5 (trivial) (hP.sub [0] rfl) (hD.sub [0] (by decide) rfl) dX5_setTaken_33
  · refine lv_aload_n hx hb dX5_setTaken_5 rfl (lv_at hl 0 rfl) ?_
    refine gf hx hb hts hown hK hP 0 inT5 rfl rfl 6 (by decide) tw1_109 rfl dX5_setTaken_6 ?_
    refine lv_iload_n hx hb dX5_setTaken_9 rfl (lv_at hl 1 rfl) ?_
    refine goL (rnSN C0 (x_spotBit l G t a0) lkX5_79 ⟨by decide, by decide⟩ (hP.sub (ws' := []) [] rfl) (hD.sub (ws' := []) [] (by decide) rfl) rfl hl.1 (rest := [.long hsi, .ref hh]) rfl (Nat.le_of_ble_eq_true rfl) dX5_setTaken_10 ⟨by decide, by decide⟩) hP hD hS hA [] [0] (wr := [(hh, .inr (5, [.int hli, .int hro, .int hse, .int hla, .int hpl, .int hex, .long hsi, .ref ha1, .ref ha2, .ref ha3, .ref ha4, .ref ha5, .ref ha6, .ref ha7, .ref ha8, .ref hc]))]) rfl rfl (by decide) (by decide) (fun r_6 u H locs h_7 hP hD hS => ?_)
    have hP : va_P G vwCl [(hh, .inr (5, [.int hli, .int hro, .int hse, .int hla, .int hpl, .int hex, .long hsi, .ref ha1, .ref ha2, .ref ha3, .ref ha4, .ref ha5, .ref ha6, .ref ha7, .ref ha8, .ref hc]))] H := hP
    have hD : va_D A [(hh, .inr (5, [.int hli, .int hro, .int hse, .int hla, .int hpl, .int hex, .long hsi, .ref ha1, .ref ha2, .ref ha3, .ref ha4, .ref ha5, .ref ha6, .ref ha7, .ref ha8, .ref hc]))] := hD
    refine W.widen (k := 0) (n := 0) (Nat.le_of_ble_eq_true rfl) (Nat.le_of_ble_eq_true rfl) ?_
    refine lv_lor hx hb dX5_setTaken_13 (gnL (fun v_8 => ?_))
    refine lv_goto (tgt := 30) hx hb dX5_setTaken_14 (by decide) ?_
    refine pf hx hb hts hown hK hP hD hS 0 inT5 tyX5_ok nmX5 rfl rfl 6 (by decide) tw1_109 rfl rfl rfl (Nat.le_of_ble_eq_true rfl) dX5_setTaken_30 (ws' := [(hh, .inr (5, [.int hli, .int hro, .int hse, .int hla, .int hpl, .int hex, .long v_8, .ref ha1, .ref ha2, .ref ha3, .ref ha4, .ref ha5, .ref ha6, .ref ha7, .ref ha8, .ref hc]))]) rfl (fun H locs hP hD hS => ?_)
    exact rtV hx hb hr hlocks hS v_8 (trivial) (hP.sub [0] rfl) (hD.sub [0] (by decide) rfl) dX5_setTaken_33

set_option maxHeartbeats 4000000 in
set_option maxRecDepth 100000 in
theorem x_isGood (l : Launch) (G : va_G) (t : Nat → ClassId) (hh : Nat) (a0 : Int32) (hli : Int32) (hro : Int32) (hse : Int32) (hla : Int32) (hpl : Int32) (hex : Int32) (hsi : Int64) (ha1 : Nat) (ha2 : Nat) (ha3 : Nat) (ha4 : Nat) (ha5 : Nat) (ha6 : Nat) (ha7 : Nat) (ha8 : Nat) (hc : Nat) (hf3 : Nat → Int32) (h_hro : 0 ≤ hro.toInt ∧ hro.toInt ≤ 6) (h_hse : 0 ≤ hse.toInt ∧ hse.toInt ≤ 6) (h_hpl : 0 ≤ hpl.toInt ∧ hpl.toInt ≤ 9) (h_hex : 0 ≤ hex.toInt ∧ hex.toInt ≤ 7) : Ct l G t yX5_isGood cX5_isGood 2 (some .boolean) ({ frames := 1, cells := 0, slots := 0, locals := 21 }) [.ref hh, .int a0] [(hh, .inr (5, [.int hli, .int hro, .int hse, .int hla, .int hpl, .int hex, .long hsi, .ref ha1, .ref ha2, .ref ha3, .ref ha4, .ref ha5, .ref ha6, .ref ha7, .ref ha8, .ref hc])), (ha3, .inl (t 1, 9, .inl hf3))] (QI G (fun r (u : Unit) => (r.toInt = 0 ∨ (r.toInt = 1 ∧ 0 ≤ a0.toInt ∧ a0.toInt ≤ 8))) (fun (u : Unit) => [(hh, .inr (5, [.int hli, .int hro, .int hse, .int hla, .int hpl, .int hex, .long hsi, .ref ha1, .ref ha2, .ref ha3, .ref ha4, .ref ha5, .ref ha6, .ref ha7, .ref ha8, .ref hc])), (ha3, .inl (t 1, 9, .inl hf3))])) := by
  refine ent (by decide) (Nat.le_of_ble_eq_true rfl) ?_
  intro p e s m args below meth c hx hb hr hml hts hown hlocks hin A hA hK hO hP hD hS ls hl
  have hown : s.vm.findClass RX5 = some m.cls := hown
  have hl : lv_has ls 2 [(0, .ref hh), (1, .int a0)] := hl
  have C0 : Cx p s m args c cX5_isGood 2 RX5 G t := ⟨hx, hb, hml, hown, hts, hK, hO⟩
  have := zrng a0
  refine lv_aload_n hx hb dX5_isGood_0 rfl (lv_at hl 0 rfl) ?_
  refine lv_iload_n hx hb dX5_isGood_1 rfl (lv_at hl 1 rfl) ?_
  refine goI (rnV C0 (x_hasPlace l G t hh a0 hli hro hse hla hpl hex hsi ha1 ha2 ha3 ha4 ha5 ha6 ha7 ha8 hc (by omega) (by omega) (by omega) (by omega)) lkX5_85 ⟨by decide, by decide⟩ (hP.sub (ws' := [(hh, .inr (5, [.int hli, .int hro, .int hse, .int hla, .int hpl, .int hex, .long hsi, .ref ha1, .ref ha2, .ref ha3, .ref ha4, .ref ha5, .ref ha6, .ref ha7, .ref ha8, .ref hc]))]) [0] rfl) (hD.sub (ws' := [(hh, .inr (5, [.int hli, .int hro, .int hse, .int hla, .int hpl, .int hex, .long hsi, .ref ha1, .ref ha2, .ref ha3, .ref ha4, .ref ha5, .ref ha6, .ref ha7, .ref ha8, .ref hc]))]) [0] (by decide) rfl) 0 5 rfl rfl rfl rfl hl.1 (rest := []) rfl (Nat.le_of_ble_eq_true rfl) dX5_isGood_2 ⟨by decide, by decide⟩) hP hD hS hA [0] [1] (wr := [(ha3, .inl (t 1, 9, .inl hf3))]) rfl rfl (by decide) (by decide) (fun r_1 u H locs h_2 hP hD hS => ?_)
  have h_2 : (r_1.toInt = 0 ∨ (r_1.toInt = 1 ∧ 0 ≤ a0.toInt ∧ a0.toInt < hpl.toInt ∧ a0.toInt ≤ 8)) := h_2
  have b_3 := h_2
  have hP : va_P G vwCl [(ha3, .inl (t 1, 9, .inl hf3)), (hh, .inr (5, [.int hli, .int hro, .int hse, .int hla, .int hpl, .int hex, .long hsi, .ref ha1, .ref ha2, .ref ha3, .ref ha4, .ref ha5, .ref ha6, .ref ha7, .ref ha8, .ref hc]))] H := hP
  have hD : va_D A [(ha3, .inl (t 1, 9, .inl hf3)), (hh, .inr (5, [.int hli, .int hro, .int hse, .int hla, .int hpl, .int hex, .long hsi, .ref ha1, .ref ha2, .ref ha3, .ref ha4, .ref ha5, .ref ha6, .ref ha7, .ref ha8, .ref hc]))] := hD
  refine W.widen (k := 0) (n := 0) (Nat.le_of_ble_eq_true rfl) (Nat.le_of_ble_eq_true rfl) ?_
  refine bF_eq (tgt := 31) hx hb dX5_isGood_5 (by decide) r_1.toInt rfl (fun c_4 => ?_) (fun c_4 => ?_)
  · refine lv_iconst (v := 0) hx hb dX5_isGood_31 (by decide) ?_
    exact rtZ hx hb hr hlocks hS rfl () ((show (0 : Int32).toInt = 0 ∨ ((0 : Int32).toInt = 1 ∧ 0 ≤ a0.toInt ∧ a0.toInt ≤ 8) from (by have : (0 : Int32).toInt = 0 := rfl; omega))) (hP.sub [1, 0] rfl) (hD.sub [1, 0] (by decide) rfl) dX5_isGood_32
  · refine lv_aload_n hx hb dX5_isGood_8 rfl (lv_at hl 0 rfl) ?_
    refine gf hx hb hts hown hK hP 1 inT5 rfl rfl 9 (by decide) tw1_120 rfl dX5_isGood_9 ?_
    refine lv_iload_n hx hb dX5_isGood_12 rfl (lv_at hl 1 rfl) ?_
    refine laI hx hb hK hP 0 rfl a0.toInt rfl (by omega) dX5_isGood_13 (fun v_5 ev_5 => ?_)
    refine bF_eq (tgt := 27) hx hb dX5_isGood_14 (by decide) v_5.toInt rfl (fun c_6 => ?_) (fun c_6 => ?_)
    · refine lv_iconst (v := 1) hx hb dX5_isGood_27 (by decide) ?_
      refine lv_goto (tgt := 32) hx hb dX5_isGood_28 (by decide) ?_
      exact rtZ hx hb hr hlocks hS rfl () ((show (1 : Int32).toInt = 0 ∨ ((1 : Int32).toInt = 1 ∧ 0 ≤ a0.toInt ∧ a0.toInt ≤ 8) from (by have : (1 : Int32).toInt = 1 := rfl; omega))) (hP.sub [1, 0] rfl) (hD.sub [1, 0] (by decide) rfl) dX5_isGood_32
    · refine lv_aload_n hx hb dX5_isGood_17 rfl (lv_at hl 0 rfl) ?_
      refine gf hx hb hts hown hK hP 1 inT5 rfl rfl 9 (by decide) tw1_120 rfl dX5_isGood_18 ?_
      refine lv_iload_n hx hb dX5_isGood_21 rfl (lv_at hl 1 rfl) ?_
      refine laI hx hb hK hP 0 rfl a0.toInt rfl (by omega) dX5_isGood_22 (fun v_7 ev_7 => ?_)
      have yv_7 : v_7.toInt = v_5.toInt := by rw [ev_7, ev_5]
      refine lv_iconst (v := 4) hx hb dX5_isGood_23 (by decide) ?_
      refine bI_ne (tgt := 31) hx hb dX5_isGood_24 (by decide) v_7.toInt 4 rfl rfl (fun c_8 => ?_) (fun c_8 => ?_)
      · refine lv_iconst (v := 0) hx hb dX5_isGood_31 (by decide) ?_
        exact rtZ hx hb hr hlocks hS rfl () ((show (0 : Int32).toInt = 0 ∨ ((0 : Int32).toInt = 1 ∧ 0 ≤ a0.toInt ∧ a0.toInt ≤ 8) from (by have : (0 : Int32).toInt = 0 := rfl; omega))) (hP.sub [1, 0] rfl) (hD.sub [1, 0] (by decide) rfl) dX5_isGood_32
      · refine lv_iconst (v := 1) hx hb dX5_isGood_27 (by decide) ?_
        refine lv_goto (tgt := 32) hx hb dX5_isGood_28 (by decide) ?_
        exact rtZ hx hb hr hlocks hS rfl () ((show (1 : Int32).toInt = 0 ∨ ((1 : Int32).toInt = 1 ∧ 0 ≤ a0.toInt ∧ a0.toInt ≤ 8) from (by have : (1 : Int32).toInt = 1 := rfl; omega))) (hP.sub [1, 0] rfl) (hD.sub [1, 0] (by decide) rfl) dX5_isGood_32

set_option maxHeartbeats 4000000 in
set_option maxRecDepth 100000 in
theorem x_spotBy (l : Launch) (G : va_G) (t : Nat → ClassId) (hh : Nat) (a0 : Int32) (hli : Int32) (hro : Int32) (hse : Int32) (hla : Int32) (hpl : Int32) (hex : Int32) (hsi : Int64) (ha1 : Nat) (ha2 : Nat) (ha3 : Nat) (ha4 : Nat) (ha5 : Nat) (ha6 : Nat) (ha7 : Nat) (ha8 : Nat) (hc : Nat) (hf1 : Nat → Int32) (hf2 : Nat → Int32) (h_hro : 0 ≤ hro.toInt ∧ hro.toInt ≤ 6) (h_hse : 0 ≤ hse.toInt ∧ hse.toInt ≤ 6) (h_hpl : 0 ≤ hpl.toInt ∧ hpl.toInt ≤ 9) (h_hex : 0 ≤ hex.toInt ∧ hex.toInt ≤ 7) (h_hf1 : Rp (fun _ v => 0 ≤ v ∧ v ≤ 5) 9 hf1) (h_hf2 : Rp (fun _ v => 0 ≤ v ∧ v ≤ 5) 9 hf2) : Ct l G t yX5_spotBy cX5_spotBy 2 (some .int) ({ frames := 1, cells := 0, slots := 0, locals := 21 }) [.ref hh, .int a0] [(hh, .inr (5, [.int hli, .int hro, .int hse, .int hla, .int hpl, .int hex, .long hsi, .ref ha1, .ref ha2, .ref ha3, .ref ha4, .ref ha5, .ref ha6, .ref ha7, .ref ha8, .ref hc])), (ha1, .inl (t 1, 9, .inl hf1)), (ha2, .inl (t 1, 9, .inl hf2))] (QI G (fun r (u : Unit) => (0 ≤ r.toInt ∧ r.toInt ≤ 35)) (fun (u : Unit) => [(hh, .inr (5, [.int hli, .int hro, .int hse, .int hla, .int hpl, .int hex, .long hsi, .ref ha1, .ref ha2, .ref ha3, .ref ha4, .ref ha5, .ref ha6, .ref ha7, .ref ha8, .ref hc])), (ha1, .inl (t 1, 9, .inl hf1)), (ha2, .inl (t 1, 9, .inl hf2))])) := by
  refine ent (by decide) (Nat.le_of_ble_eq_true rfl) ?_
  intro p e s m args below meth c hx hb hr hml hts hown hlocks hin A hA hK hO hP hD hS ls hl
  have hown : s.vm.findClass RX5 = some m.cls := hown
  have hl : lv_has ls 2 [(0, .ref hh), (1, .int a0)] := hl
  have C0 : Cx p s m args c cX5_spotBy 2 RX5 G t := ⟨hx, hb, hml, hown, hts, hK, hO⟩
  have := zrng a0
  refine lv_aload_n hx hb dX5_spotBy_0 rfl (lv_at hl 0 rfl) ?_
  refine lv_iload_n hx hb dX5_spotBy_1 rfl (lv_at hl 1 rfl) ?_
  refine goI (rnV C0 (x_hasPlace l G t hh a0 hli hro hse hla hpl hex hsi ha1 ha2 ha3 ha4 ha5 ha6 ha7 ha8 hc (by omega) (by omega) (by omega) (by omega)) lkX5_85 ⟨by decide, by decide⟩ (hP.sub (ws' := [(hh, .inr (5, [.int hli, .int hro, .int hse, .int hla, .int hpl, .int hex, .long hsi, .ref ha1, .ref ha2, .ref ha3, .ref ha4, .ref ha5, .ref ha6, .ref ha7, .ref ha8, .ref hc]))]) [0] rfl) (hD.sub (ws' := [(hh, .inr (5, [.int hli, .int hro, .int hse, .int hla, .int hpl, .int hex, .long hsi, .ref ha1, .ref ha2, .ref ha3, .ref ha4, .ref ha5, .ref ha6, .ref ha7, .ref ha8, .ref hc]))]) [0] (by decide) rfl) 0 5 rfl rfl rfl rfl hl.1 (rest := []) rfl (Nat.le_of_ble_eq_true rfl) dX5_spotBy_2 ⟨by decide, by decide⟩) hP hD hS hA [0] [1, 2] (wr := [(ha1, .inl (t 1, 9, .inl hf1)), (ha2, .inl (t 1, 9, .inl hf2))]) rfl rfl (by decide) (by decide) (fun r_1 u H locs h_2 hP hD hS => ?_)
  have h_2 : (r_1.toInt = 0 ∨ (r_1.toInt = 1 ∧ 0 ≤ a0.toInt ∧ a0.toInt < hpl.toInt ∧ a0.toInt ≤ 8)) := h_2
  have b_3 := h_2
  have hP : va_P G vwCl [(ha1, .inl (t 1, 9, .inl hf1)), (ha2, .inl (t 1, 9, .inl hf2)), (hh, .inr (5, [.int hli, .int hro, .int hse, .int hla, .int hpl, .int hex, .long hsi, .ref ha1, .ref ha2, .ref ha3, .ref ha4, .ref ha5, .ref ha6, .ref ha7, .ref ha8, .ref hc]))] H := hP
  have hD : va_D A [(ha1, .inl (t 1, 9, .inl hf1)), (ha2, .inl (t 1, 9, .inl hf2)), (hh, .inr (5, [.int hli, .int hro, .int hse, .int hla, .int hpl, .int hex, .long hsi, .ref ha1, .ref ha2, .ref ha3, .ref ha4, .ref ha5, .ref ha6, .ref ha7, .ref ha8, .ref hc]))] := hD
  refine W.widen (k := 0) (n := 0) (Nat.le_of_ble_eq_true rfl) (Nat.le_of_ble_eq_true rfl) ?_
  refine bF_eq (tgt := 26) hx hb dX5_spotBy_5 (by decide) r_1.toInt rfl (fun c_4 => ?_) (fun c_4 => ?_)
  · refine lv_iconst (v := 0) hx hb dX5_spotBy_26 (by decide) ?_
    exact rtI hx hb hr hlocks hS () ((show 0 ≤ (0 : Int32).toInt ∧ (0 : Int32).toInt ≤ 35 from (by have : (0 : Int32).toInt = 0 := rfl; omega))) (hP.sub [2, 0, 1] rfl) (hD.sub [2, 0, 1] (by decide) rfl) dX5_spotBy_27
  · refine lv_aload_n hx hb dX5_spotBy_8 rfl (lv_at hl 0 rfl) ?_
    refine gf hx hb hts hown hK hP 2 inT5 rfl rfl 7 (by decide) tw1_112 rfl dX5_spotBy_9 ?_
    refine lv_iload_n hx hb dX5_spotBy_12 rfl (lv_at hl 1 rfl) ?_
    refine lpI hx hb hK hP 0 h_hf1 rfl a0.toInt rfl (by omega) dX5_spotBy_13 (fun v_5 ev_5 zv_5 => ?_)
    try dsimp only at zv_5
    refine lv_aload_n hx hb dX5_spotBy_14 rfl (lv_at hl 0 rfl) ?_
    refine gf hx hb hts hown hK hP 2 inT5 rfl rfl 8 (by decide) tw1_116 rfl dX5_spotBy_15 ?_
    refine lv_iload_n hx hb dX5_spotBy_18 rfl (lv_at hl 1 rfl) ?_
    refine lpI hx hb hK hP 1 h_hf2 rfl a0.toInt rfl (by omega) dX5_spotBy_19 (fun v_6 ev_6 zv_6 => ?_)
    try dsimp only at zv_6
    refine goI (rnSN C0 (x_spotOfP l G t v_5 v_6 (by omega) (by omega)) lkX5_89 ⟨by decide, by decide⟩ (hP.sub (ws' := []) [] rfl) (hD.sub (ws' := []) [] (by decide) rfl) rfl hl.1 (rest := []) rfl (Nat.le_of_ble_eq_true rfl) dX5_spotBy_20 ⟨by decide, by decide⟩) hP hD hS hA [] [0, 1, 2] (wr := [(ha1, .inl (t 1, 9, .inl hf1)), (ha2, .inl (t 1, 9, .inl hf2)), (hh, .inr (5, [.int hli, .int hro, .int hse, .int hla, .int hpl, .int hex, .long hsi, .ref ha1, .ref ha2, .ref ha3, .ref ha4, .ref ha5, .ref ha6, .ref ha7, .ref ha8, .ref hc]))]) rfl rfl (by decide) (by decide) (fun r_7 u H locs h_8 hP hD hS => ?_)
    have h_8 : (r_7.toInt = v_5.toInt * 6 + v_6.toInt) := h_8
    have b_9 := h_8
    have hP : va_P G vwCl [(ha1, .inl (t 1, 9, .inl hf1)), (ha2, .inl (t 1, 9, .inl hf2)), (hh, .inr (5, [.int hli, .int hro, .int hse, .int hla, .int hpl, .int hex, .long hsi, .ref ha1, .ref ha2, .ref ha3, .ref ha4, .ref ha5, .ref ha6, .ref ha7, .ref ha8, .ref hc]))] H := hP
    have hD : va_D A [(ha1, .inl (t 1, 9, .inl hf1)), (ha2, .inl (t 1, 9, .inl hf2)), (hh, .inr (5, [.int hli, .int hro, .int hse, .int hla, .int hpl, .int hex, .long hsi, .ref ha1, .ref ha2, .ref ha3, .ref ha4, .ref ha5, .ref ha6, .ref ha7, .ref ha8, .ref hc]))] := hD
    refine W.widen (k := 0) (n := 0) (Nat.le_of_ble_eq_true rfl) (Nat.le_of_ble_eq_true rfl) ?_
    refine lv_goto (tgt := 27) hx hb dX5_spotBy_23 (by decide) ?_
    exact rtI hx hb hr hlocks hS () ((show 0 ≤ r_7.toInt ∧ r_7.toInt ≤ 35 from (by omega))) (hP.sub [2, 0, 1] rfl) (hD.sub [2, 0, 1] (by decide) rfl) dX5_spotBy_27

set_option maxHeartbeats 4000000 in
set_option maxRecDepth 100000 in
theorem x_stepsBy (l : Launch) (G : va_G) (t : Nat → ClassId) (hh : Nat) (a0 : Int32) (b0 : Int32) (hli : Int32) (hro : Int32) (hse : Int32) (hla : Int32) (hpl : Int32) (hex : Int32) (hsi : Int64) (ha1 : Nat) (ha2 : Nat) (ha3 : Nat) (ha4 : Nat) (ha5 : Nat) (ha6 : Nat) (ha7 : Nat) (ha8 : Nat) (hc : Nat) (hf1 : Nat → Int32) (hf2 : Nat → Int32) (h_hro : 0 ≤ hro.toInt ∧ hro.toInt ≤ 6) (h_hse : 0 ≤ hse.toInt ∧ hse.toInt ≤ 6) (h_hpl : 0 ≤ hpl.toInt ∧ hpl.toInt ≤ 9) (h_hex : 0 ≤ hex.toInt ∧ hex.toInt ≤ 7) (h_hf1 : Rp (fun _ v => 0 ≤ v ∧ v ≤ 5) 9 hf1) (h_hf2 : Rp (fun _ v => 0 ≤ v ∧ v ≤ 5) 9 hf2) : Ct l G t yX5_stepsBy cX5_stepsBy 3 (some .int) ({ frames := 1, cells := 0, slots := 0, locals := 14 }) [.ref hh, .int a0, .int b0] [(hh, .inr (5, [.int hli, .int hro, .int hse, .int hla, .int hpl, .int hex, .long hsi, .ref ha1, .ref ha2, .ref ha3, .ref ha4, .ref ha5, .ref ha6, .ref ha7, .ref ha8, .ref hc])), (ha1, .inl (t 1, 9, .inl hf1)), (ha2, .inl (t 1, 9, .inl hf2))] (QI G (fun r (u : Unit) => True) (fun (u : Unit) => [(hh, .inr (5, [.int hli, .int hro, .int hse, .int hla, .int hpl, .int hex, .long hsi, .ref ha1, .ref ha2, .ref ha3, .ref ha4, .ref ha5, .ref ha6, .ref ha7, .ref ha8, .ref hc])), (ha1, .inl (t 1, 9, .inl hf1)), (ha2, .inl (t 1, 9, .inl hf2))])) := by
  refine ent (by decide) (Nat.le_of_ble_eq_true rfl) ?_
  intro p e s m args below meth c hx hb hr hml hts hown hlocks hin A hA hK hO hP hD hS ls hl
  have hown : s.vm.findClass RX5 = some m.cls := hown
  have hl : lv_has ls 3 [(0, .ref hh), (1, .int a0), (2, .int b0)] := hl
  have C0 : Cx p s m args c cX5_stepsBy 3 RX5 G t := ⟨hx, hb, hml, hown, hts, hK, hO⟩
  have := zrng a0
  have := zrng b0
  refine lv_iload_n hx hb dX5_stepsBy_0 rfl (lv_at hl 2 rfl) ?_
  refine bF_lt (tgt := 18) hx hb dX5_stepsBy_1 (by decide) b0.toInt rfl (fun c_1 => ?_) (fun c_1 => ?_)
  · refine lv_bipush (v := 50) hx hb dX5_stepsBy_18 (by decide) ?_
    exact rtI hx hb hr hlocks hS () (trivial) (hP.sub [0, 1, 2] rfl) (hD.sub [0, 1, 2] (by decide) rfl) dX5_stepsBy_20
  · refine lv_iload_n hx hb dX5_stepsBy_4 rfl (lv_at hl 2 rfl) ?_
    refine lv_aload_n hx hb dX5_stepsBy_5 rfl (lv_at hl 0 rfl) ?_
    refine gf hx hb hts hown hK hP 0 inT5 rfl rfl 4 (by decide) tw1_97 rfl dX5_stepsBy_6 ?_
    refine bI_ge (tgt := 18) hx hb dX5_stepsBy_9 (by decide) b0.toInt hpl.toInt rfl rfl (fun c_2 => ?_) (fun c_2 => ?_)
    · refine lv_bipush (v := 50) hx hb dX5_stepsBy_18 (by decide) ?_
      exact rtI hx hb hr hlocks hS () (trivial) (hP.sub [0, 1, 2] rfl) (hD.sub [0, 1, 2] (by decide) rfl) dX5_stepsBy_20
    · refine lv_iload_n hx hb dX5_stepsBy_12 rfl (lv_at hl 2 rfl) ?_
      refine lv_bipush (v := 9) hx hb dX5_stepsBy_13 (by decide) ?_
      refine bI_lt (tgt := 21) hx hb dX5_stepsBy_15 (by decide) b0.toInt 9 rfl rfl (fun c_3 => ?_) (fun c_3 => ?_)
      · refine lv_iload_n hx hb dX5_stepsBy_21 rfl (lv_at hl 1 rfl) ?_
        refine lv_bipush (v := 6) hx hb dX5_stepsBy_22 (by decide) ?_
        first | refine dvZ hx hb dX5_stepsBy_24 a0.toInt 6 rfl rfl (by omega) (by decide) (fun v_4 zv_4 => ?_) | refine dvU hx hb dX5_stepsBy_24 6 rfl (by decide) (fun v_4 => ?_)
        refine lv_aload_n hx hb dX5_stepsBy_25 rfl (lv_at hl 0 rfl) ?_
        refine gf hx hb hts hown hK hP 0 inT5 rfl rfl 7 (by decide) tw1_112 rfl dX5_stepsBy_26 ?_
        refine lv_iload_n hx hb dX5_stepsBy_29 rfl (lv_at hl 2 rfl) ?_
        refine lpI hx hb hK hP 1 h_hf1 rfl b0.toInt rfl (by omega) dX5_stepsBy_30 (fun v_5 ev_5 zv_5 => ?_)
        try dsimp only at zv_5
        first | refine sbZ hx hb dX5_stepsBy_31 v_4.toInt v_5.toInt rfl rfl (by have := zrng v_4; have := zrng v_5; omega) (fun v_6 zv_6 => ?_) | refine lv_isub hx hb dX5_stepsBy_31 (gnI (fun v_6 => ?_))
        refine mabsU hx hb hml hl.1 hown hts tw3_199 tw3_200 tw1_14 tw3_201 (by decide) (Nat.le_of_ble_eq_true rfl) (by decide) (by decide) dX5_stepsBy_32 (fun v_7 => ?_)
        refine lv_iload_n hx hb dX5_stepsBy_35 rfl (lv_at hl 1 rfl) ?_
        refine lv_bipush (v := 6) hx hb dX5_stepsBy_36 (by decide) ?_
        first | refine rmZ hx hb dX5_stepsBy_38 a0.toInt 6 rfl rfl (by omega) (by decide) (fun v_8 zv_8 => ?_) | refine rmU hx hb dX5_stepsBy_38 6 rfl (by decide) (fun v_8 => ?_)
        refine lv_aload_n hx hb dX5_stepsBy_39 rfl (lv_at hl 0 rfl) ?_
        refine gf hx hb hts hown hK hP 0 inT5 rfl rfl 8 (by decide) tw1_116 rfl dX5_stepsBy_40 ?_
        refine lv_iload_n hx hb dX5_stepsBy_43 rfl (lv_at hl 2 rfl) ?_
        refine lpI hx hb hK hP 2 h_hf2 rfl b0.toInt rfl (by omega) dX5_stepsBy_44 (fun v_9 ev_9 zv_9 => ?_)
        try dsimp only at zv_9
        first | refine sbZ hx hb dX5_stepsBy_45 v_8.toInt v_9.toInt rfl rfl (by have := zrng v_8; have := zrng v_9; omega) (fun v_10 zv_10 => ?_) | refine lv_isub hx hb dX5_stepsBy_45 (gnI (fun v_10 => ?_))
        refine mabsU hx hb hml hl.1 hown hts tw3_199 tw3_200 tw1_14 tw3_201 (by decide) (Nat.le_of_ble_eq_true rfl) (by decide) (by decide) dX5_stepsBy_46 (fun v_11 => ?_)
        first | refine adZ hx hb dX5_stepsBy_49 v_7.toInt v_11.toInt rfl rfl (by have := zrng v_7; have := zrng v_11; omega) (fun v_12 zv_12 => ?_) | refine lv_iadd hx hb dX5_stepsBy_49 (gnI (fun v_12 => ?_))
        refine lv_iconst (v := 1) hx hb dX5_stepsBy_50 (by decide) ?_
        first | refine adZ hx hb dX5_stepsBy_51 v_12.toInt 1 rfl rfl (by have := zrng v_12; omega) (fun v_13 zv_13 => ?_) | refine lv_iadd hx hb dX5_stepsBy_51 (gnI (fun v_13 => ?_))
        exact rtI hx hb hr hlocks hS () (trivial) (hP.sub [0, 1, 2] rfl) (hD.sub [0, 1, 2] (by decide) rfl) dX5_stepsBy_52
      · refine lv_bipush (v := 50) hx hb dX5_stepsBy_18 (by decide) ?_
        exact rtI hx hb hr hlocks hS () (trivial) (hP.sub [0, 1, 2] rfl) (hD.sub [0, 1, 2] (by decide) rfl) dX5_stepsBy_20

set_option maxHeartbeats 4000000 in
set_option maxRecDepth 100000 in
theorem x_isKings (l : Launch) (G : va_G) (t : Nat → ClassId) (hh : Nat) (a0 : Int32) (b0 : Int32) (hli : Int32) (hro : Int32) (hse : Int32) (hla : Int32) (hpl : Int32) (hex : Int32) (hsi : Int64) (ha1 : Nat) (ha2 : Nat) (ha3 : Nat) (ha4 : Nat) (ha5 : Nat) (ha6 : Nat) (ha7 : Nat) (ha8 : Nat) (hc : Nat) (hf7 : Nat → Int32) (hf8 : Nat → Int32) (h_hro : 0 ≤ hro.toInt ∧ hro.toInt ≤ 6) (h_hse : 0 ≤ hse.toInt ∧ hse.toInt ≤ 6) (h_hpl : 0 ≤ hpl.toInt ∧ hpl.toInt ≤ 9) (h_hex : 0 ≤ hex.toInt ∧ hex.toInt ≤ 7) : Ct l G t yX5_isKings cX5_isKings 3 (some .boolean) ({ frames := 1, cells := 0, slots := 0, locals := 21 }) [.ref hh, .int a0, .int b0] [(hh, .inr (5, [.int hli, .int hro, .int hse, .int hla, .int hpl, .int hex, .long hsi, .ref ha1, .ref ha2, .ref ha3, .ref ha4, .ref ha5, .ref ha6, .ref ha7, .ref ha8, .ref hc])), (ha7, .inl (t 1, 7, .inl hf7)), (ha8, .inl (t 1, 7, .inl hf8))] (QI G (fun r (u : Unit) => True) (fun (u : Unit) => [(hh, .inr (5, [.int hli, .int hro, .int hse, .int hla, .int hpl, .int hex, .long hsi, .ref ha1, .ref ha2, .ref ha3, .ref ha4, .ref ha5, .ref ha6, .ref ha7, .ref ha8, .ref hc])), (ha7, .inl (t 1, 7, .inl hf7)), (ha8, .inl (t 1, 7, .inl hf8))])) := by
  refine ent (by decide) (Nat.le_of_ble_eq_true rfl) ?_
  intro p e s m args below meth c hx hb hr hml hts hown hlocks hin A hA hK hO hP hD hS ls hl
  have hown : s.vm.findClass RX5 = some m.cls := hown
  have hl : lv_has ls 3 [(0, .ref hh), (1, .int a0), (2, .int b0)] := hl
  have C0 : Cx p s m args c cX5_isKings 3 RX5 G t := ⟨hx, hb, hml, hown, hts, hK, hO⟩
  have := zrng a0
  have := zrng b0
  refine lv_aload_n hx hb dX5_isKings_0 rfl (lv_at hl 0 rfl) ?_
  refine lv_iload_n hx hb dX5_isKings_1 rfl (lv_at hl 1 rfl) ?_
  refine goI (rnV C0 (x_hasExit l G t hh a0 hli hro hse hla hpl hex hsi ha1 ha2 ha3 ha4 ha5 ha6 ha7 ha8 hc (by omega) (by omega) (by omega) (by omega)) lkX5_99 ⟨by decide, by decide⟩ (hP.sub (ws' := [(hh, .inr (5, [.int hli, .int hro, .int hse, .int hla, .int hpl, .int hex, .long hsi, .ref ha1, .ref ha2, .ref ha3, .ref ha4, .ref ha5, .ref ha6, .ref ha7, .ref ha8, .ref hc]))]) [0] rfl) (hD.sub (ws' := [(hh, .inr (5, [.int hli, .int hro, .int hse, .int hla, .int hpl, .int hex, .long hsi, .ref ha1, .ref ha2, .ref ha3, .ref ha4, .ref ha5, .ref ha6, .ref ha7, .ref ha8, .ref hc]))]) [0] (by decide) rfl) 0 5 rfl rfl rfl rfl hl.1 (rest := []) rfl (Nat.le_of_ble_eq_true rfl) dX5_isKings_2 ⟨by decide, by decide⟩) hP hD hS hA [0] [1, 2] (wr := [(ha7, .inl (t 1, 7, .inl hf7)), (ha8, .inl (t 1, 7, .inl hf8))]) rfl rfl (by decide) (by decide) (fun r_1 u H locs h_2 hP hD hS => ?_)
  have h_2 : (r_1.toInt = 0 ∨ (r_1.toInt = 1 ∧ 0 ≤ a0.toInt ∧ a0.toInt < hex.toInt ∧ a0.toInt ≤ 6)) := h_2
  have b_3 := h_2
  have hP : va_P G vwCl [(ha7, .inl (t 1, 7, .inl hf7)), (ha8, .inl (t 1, 7, .inl hf8)), (hh, .inr (5, [.int hli, .int hro, .int hse, .int hla, .int hpl, .int hex, .long hsi, .ref ha1, .ref ha2, .ref ha3, .ref ha4, .ref ha5, .ref ha6, .ref ha7, .ref ha8, .ref hc]))] H := hP
  have hD : va_D A [(ha7, .inl (t 1, 7, .inl hf7)), (ha8, .inl (t 1, 7, .inl hf8)), (hh, .inr (5, [.int hli, .int hro, .int hse, .int hla, .int hpl, .int hex, .long hsi, .ref ha1, .ref ha2, .ref ha3, .ref ha4, .ref ha5, .ref ha6, .ref ha7, .ref ha8, .ref hc]))] := hD
  refine W.widen (k := 0) (n := 0) (Nat.le_of_ble_eq_true rfl) (Nat.le_of_ble_eq_true rfl) ?_
  refine bF_eq (tgt := 42) hx hb dX5_isKings_5 (by decide) r_1.toInt rfl (fun c_4 => ?_) (fun c_4 => ?_)
  · refine lv_iconst (v := 0) hx hb dX5_isKings_42 (by decide) ?_
    exact rtZ hx hb hr hlocks hS rfl () (trivial) (hP.sub [2, 0, 1] rfl) (hD.sub [2, 0, 1] (by decide) rfl) dX5_isKings_43
  · refine lv_aload_n hx hb dX5_isKings_8 rfl (lv_at hl 0 rfl) ?_
    refine gf hx hb hts hown hK hP 2 inT5 rfl rfl 13 (by decide) tw1_135 rfl dX5_isKings_9 ?_
    refine lv_iload_n hx hb dX5_isKings_12 rfl (lv_at hl 1 rfl) ?_
    refine laI hx hb hK hP 0 rfl a0.toInt rfl (by omega) dX5_isKings_13 (fun v_5 ev_5 => ?_)
    refine lv_iconst (v := (-1)) hx hb dX5_isKings_14 (by decide) ?_
    refine bI_eq (tgt := 42) hx hb dX5_isKings_15 (by decide) v_5.toInt (-1) rfl rfl (fun c_6 => ?_) (fun c_6 => ?_)
    · refine lv_iconst (v := 0) hx hb dX5_isKings_42 (by decide) ?_
      exact rtZ hx hb hr hlocks hS rfl () (trivial) (hP.sub [2, 0, 1] rfl) (hD.sub [2, 0, 1] (by decide) rfl) dX5_isKings_43
    · refine lv_aload_n hx hb dX5_isKings_18 rfl (lv_at hl 0 rfl) ?_
      refine gf hx hb hts hown hK hP 2 inT5 rfl rfl 13 (by decide) tw1_135 rfl dX5_isKings_19 ?_
      refine lv_iload_n hx hb dX5_isKings_22 rfl (lv_at hl 1 rfl) ?_
      refine laI hx hb hK hP 0 rfl a0.toInt rfl (by omega) dX5_isKings_23 (fun v_7 ev_7 => ?_)
      have yv_7 : v_7.toInt = v_5.toInt := by rw [ev_7, ev_5]
      refine lv_iload_n hx hb dX5_isKings_24 rfl (lv_at hl 2 rfl) ?_
      refine bI_gt (tgt := 42) hx hb dX5_isKings_25 (by decide) v_7.toInt b0.toInt rfl rfl (fun c_8 => ?_) (fun c_8 => ?_)
      · refine lv_iconst (v := 0) hx hb dX5_isKings_42 (by decide) ?_
        exact rtZ hx hb hr hlocks hS rfl () (trivial) (hP.sub [2, 0, 1] rfl) (hD.sub [2, 0, 1] (by decide) rfl) dX5_isKings_43
      · refine lv_iload_n hx hb dX5_isKings_28 rfl (lv_at hl 2 rfl) ?_
        refine lv_aload_n hx hb dX5_isKings_29 rfl (lv_at hl 0 rfl) ?_
        refine gf hx hb hts hown hK hP 2 inT5 rfl rfl 14 (by decide) tw1_138 rfl dX5_isKings_30 ?_
        refine lv_iload_n hx hb dX5_isKings_33 rfl (lv_at hl 1 rfl) ?_
        refine laI hx hb hK hP 1 rfl a0.toInt rfl (by omega) dX5_isKings_34 (fun v_9 ev_9 => ?_)
        refine bI_gt (tgt := 42) hx hb dX5_isKings_35 (by decide) b0.toInt v_9.toInt rfl rfl (fun c_10 => ?_) (fun c_10 => ?_)
        · refine lv_iconst (v := 0) hx hb dX5_isKings_42 (by decide) ?_
          exact rtZ hx hb hr hlocks hS rfl () (trivial) (hP.sub [2, 0, 1] rfl) (hD.sub [2, 0, 1] (by decide) rfl) dX5_isKings_43
        · refine lv_iconst (v := 1) hx hb dX5_isKings_38 (by decide) ?_
          refine lv_goto (tgt := 43) hx hb dX5_isKings_39 (by decide) ?_
          exact rtZ hx hb hr hlocks hS rfl () (trivial) (hP.sub [2, 0, 1] rfl) (hD.sub [2, 0, 1] (by decide) rfl) dX5_isKings_43

set_option maxHeartbeats 4000000 in
set_option maxRecDepth 100000 in
theorem x_placeAfter (l : Launch) (G : va_G) (t : Nat → ClassId) (hh : Nat) (a0 : Int32) (b0 : Int32) (hli : Int32) (hro : Int32) (hse : Int32) (hla : Int32) (hpl : Int32) (hex : Int32) (hsi : Int64) (ha1 : Nat) (ha2 : Nat) (ha3 : Nat) (ha4 : Nat) (ha5 : Nat) (ha6 : Nat) (ha7 : Nat) (ha8 : Nat) (hc : Nat) (hf4 : Nat → Int32) (h_hro : 0 ≤ hro.toInt ∧ hro.toInt ≤ 6) (h_hse : 0 ≤ hse.toInt ∧ hse.toInt ≤ 6) (h_hpl : 0 ≤ hpl.toInt ∧ hpl.toInt ≤ 9) (h_hex : 0 ≤ hex.toInt ∧ hex.toInt ≤ 7) : Ct l G t yX5_placeAfter cX5_placeAfter 5 (some .int) ({ frames := 1, cells := 0, slots := 0, locals := 21 }) [.ref hh, .int a0, .int b0] [(hh, .inr (5, [.int hli, .int hro, .int hse, .int hla, .int hpl, .int hex, .long hsi, .ref ha1, .ref ha2, .ref ha3, .ref ha4, .ref ha5, .ref ha6, .ref ha7, .ref ha8, .ref hc])), (ha4, .inl (t 1, 9, .inl hf4))] (QI G (fun r (u : Unit) => True) (fun (u : Unit) => [(hh, .inr (5, [.int hli, .int hro, .int hse, .int hla, .int hpl, .int hex, .long hsi, .ref ha1, .ref ha2, .ref ha3, .ref ha4, .ref ha5, .ref ha6, .ref ha7, .ref ha8, .ref hc])), (ha4, .inl (t 1, 9, .inl hf4))])) := by
  refine ent (by decide) (Nat.le_of_ble_eq_true rfl) ?_
  intro p e s m args below meth c hx hb hr hml hts hown hlocks hin A hA hK hO hP hD hS ls hl
  have hown : s.vm.findClass RX5 = some m.cls := hown
  have hl : lv_has ls 5 [(0, .ref hh), (1, .int a0), (2, .int b0)] := hl
  have C0 : Cx p s m args c cX5_placeAfter 5 RX5 G t := ⟨hx, hb, hml, hown, hts, hK, hO⟩
  have := zrng a0
  have := zrng b0
  refine lv_iload_n hx hb dX5_placeAfter_0 rfl (lv_at hl 1 rfl) ?_
  refine lv_istore_n (lv' := [(3, .int a0), (0, .ref hh), (1, .int a0), (2, .int b0)]) hx hb dX5_placeAfter_1 rfl hl (by decide) rfl (fun ls hl => ?_)
  refine lv_iconst (v := 0) hx hb dX5_placeAfter_2 (by decide) ?_
  refine lv_istore (lv' := [(4, .int 0), (3, .int a0), (0, .ref hh), (1, .int a0), (2, .int b0)]) hx hb dX5_placeAfter_3 hl (by decide) rfl (fun ls hl => ?_)
  have LP_7 : ∀ (n : Nat) (g_4 : Int32) (g_6 : Int32) (b_5 : 0 ≤ g_4.toInt) (H : Heap) (locs : List Loc) (ls : Array Slot), lv_has ls 5 [(4, .int g_4), (3, .int g_6), (0, .ref hh), (1, .int a0), (2, .int b0)] → va_P G vwCl [(hh, .inr (5, [.int hli, .int hro, .int hse, .int hla, .int hpl, .int hex, .long hsi, .ref ha1, .ref ha2, .ref ha3, .ref ha4, .ref ha5, .ref ha6, .ref ha7, .ref ha8, .ref hc])), (ha4, .inl (t 1, 9, .inl hf4))] H → va_D A [(hh, .inr (5, [.int hli, .int hro, .int hse, .int hla, .int hpl, .int hex, .long hsi, .ref ha1, .ref ha2, .ref ha3, .ref ha4, .ref ha5, .ref ha6, .ref ha7, .ref ha8, .ref hc])), (ha4, .inl (t 1, 9, .inl hf4))] → va_S A s.heap H locs → Int.toNat (9 - g_4.toInt) = n → W p l e ({ frames := 1, cells := 0, slots := 0, locals := 21 }) s m args below meth c H locs 0 0 (MQ below ((QI G (fun r (u : Unit) => True) (fun (u : Unit) => [(hh, .inr (5, [.int hli, .int hro, .int hse, .int hla, .int hpl, .int hex, .long hsi, .ref ha1, .ref ha2, .ref ha3, .ref ha4, .ref ha5, .ref ha6, .ref ha7, .ref ha8, .ref hc])), (ha4, .inl (t 1, 9, .inl hf4))])) A) args s 0 0 A) (F0 m 5 ls []) := by
    intro n
    induction n using Nat.strongRecOn with
    | ind n ih_5 =>
      intro g_4 g_6 b_5 H locs ls hl hP hD hS hmu
      have := zrng g_4
      have := zrng g_6
      refine lv_iload hx hb dX5_placeAfter_5 (lv_at hl 0 rfl) ?_
      refine lv_bipush (v := 9) hx hb dX5_placeAfter_7 (by decide) ?_
      refine bI_ge (tgt := 52) hx hb dX5_placeAfter_9 (by decide) g_4.toInt 9 rfl rfl (fun c_8 => ?_) (fun c_8 => ?_)
      · refine lv_iload_n hx hb dX5_placeAfter_52 rfl (lv_at hl 3 rfl) ?_
        exact rtI hx hb hr hlocks hS () (trivial) (hP.sub [0, 1] rfl) (hD.sub [0, 1] (by decide) rfl) dX5_placeAfter_53
      · refine lv_aload_n hx hb dX5_placeAfter_12 rfl (lv_at hl 2 rfl) ?_
        refine lv_iload_n hx hb dX5_placeAfter_13 rfl (lv_at hl 1 rfl) ?_
        refine goI (rnV C0 (x_hasPlace l G t hh g_6 hli hro hse hla hpl hex hsi ha1 ha2 ha3 ha4 ha5 ha6 ha7 ha8 hc (by omega) (by omega) (by omega) (by omega)) lkX5_85 ⟨by decide, by decide⟩ (hP.sub (ws' := [(hh, .inr (5, [.int hli, .int hro, .int hse, .int hla, .int hpl, .int hex, .long hsi, .ref ha1, .ref ha2, .ref ha3, .ref ha4, .ref ha5, .ref ha6, .ref ha7, .ref ha8, .ref hc]))]) [0] rfl) (hD.sub (ws' := [(hh, .inr (5, [.int hli, .int hro, .int hse, .int hla, .int hpl, .int hex, .long hsi, .ref ha1, .ref ha2, .ref ha3, .ref ha4, .ref ha5, .ref ha6, .ref ha7, .ref ha8, .ref hc]))]) [0] (by decide) rfl) 0 5 rfl rfl rfl rfl hl.1 (rest := []) rfl (Nat.le_of_ble_eq_true rfl) dX5_placeAfter_14 ⟨by decide, by decide⟩) hP hD hS hA [0] [1] (wr := [(ha4, .inl (t 1, 9, .inl hf4))]) rfl rfl (by decide) (by decide) (fun r_9 u H locs h_10 hP hD hS => ?_)
        have h_10 : (r_9.toInt = 0 ∨ (r_9.toInt = 1 ∧ 0 ≤ g_6.toInt ∧ g_6.toInt < hpl.toInt ∧ g_6.toInt ≤ 8)) := h_10
        have b_11 := h_10
        have hP : va_P G vwCl [(ha4, .inl (t 1, 9, .inl hf4)), (hh, .inr (5, [.int hli, .int hro, .int hse, .int hla, .int hpl, .int hex, .long hsi, .ref ha1, .ref ha2, .ref ha3, .ref ha4, .ref ha5, .ref ha6, .ref ha7, .ref ha8, .ref hc]))] H := hP
        have hD : va_D A [(ha4, .inl (t 1, 9, .inl hf4)), (hh, .inr (5, [.int hli, .int hro, .int hse, .int hla, .int hpl, .int hex, .long hsi, .ref ha1, .ref ha2, .ref ha3, .ref ha4, .ref ha5, .ref ha6, .ref ha7, .ref ha8, .ref hc]))] := hD
        refine W.widen (k := 0) (n := 0) (Nat.le_of_ble_eq_true rfl) (Nat.le_of_ble_eq_true rfl) ?_
        refine bF_eq (tgt := 52) hx hb dX5_placeAfter_17 (by decide) r_9.toInt rfl (fun c_12 => ?_) (fun c_12 => ?_)
        · refine lv_iload_n hx hb dX5_placeAfter_52 rfl (lv_at hl 3 rfl) ?_
          exact rtI hx hb hr hlocks hS () (trivial) (hP.sub [1, 0] rfl) (hD.sub [1, 0] (by decide) rfl) dX5_placeAfter_53
        · refine lv_aload_n hx hb dX5_placeAfter_20 rfl (lv_at hl 2 rfl) ?_
          refine gf hx hb hts hown hK hP 1 inT5 rfl rfl 10 (by decide) tw1_124 rfl dX5_placeAfter_21 ?_
          refine lv_iload_n hx hb dX5_placeAfter_24 rfl (lv_at hl 1 rfl) ?_
          refine laI hx hb hK hP 0 rfl g_6.toInt rfl (by omega) dX5_placeAfter_25 (fun v_13 ev_13 => ?_)
          refine lv_istore_n (lv' := [(3, .int v_13), (4, .int g_4), (0, .ref hh), (1, .int a0), (2, .int b0)]) hx hb dX5_placeAfter_26 rfl hl (by decide) rfl (fun ls hl => ?_)
          refine lv_aload_n hx hb dX5_placeAfter_27 rfl (lv_at hl 2 rfl) ?_
          refine lv_iload_n hx hb dX5_placeAfter_28 rfl (lv_at hl 0 rfl) ?_
          refine goI (rnV C0 (x_hasPlace l G t hh v_13 hli hro hse hla hpl hex hsi ha1 ha2 ha3 ha4 ha5 ha6 ha7 ha8 hc (by omega) (by omega) (by omega) (by omega)) lkX5_85 ⟨by decide, by decide⟩ (hP.sub (ws' := [(hh, .inr (5, [.int hli, .int hro, .int hse, .int hla, .int hpl, .int hex, .long hsi, .ref ha1, .ref ha2, .ref ha3, .ref ha4, .ref ha5, .ref ha6, .ref ha7, .ref ha8, .ref hc]))]) [1] rfl) (hD.sub (ws' := [(hh, .inr (5, [.int hli, .int hro, .int hse, .int hla, .int hpl, .int hex, .long hsi, .ref ha1, .ref ha2, .ref ha3, .ref ha4, .ref ha5, .ref ha6, .ref ha7, .ref ha8, .ref hc]))]) [1] (by decide) rfl) 0 5 rfl rfl rfl rfl hl.1 (rest := []) rfl (Nat.le_of_ble_eq_true rfl) dX5_placeAfter_29 ⟨by decide, by decide⟩) hP hD hS hA [1] [0] (wr := [(ha4, .inl (t 1, 9, .inl hf4))]) rfl rfl (by decide) (by decide) (fun r_14 u H locs h_15 hP hD hS => ?_)
          have h_15 : (r_14.toInt = 0 ∨ (r_14.toInt = 1 ∧ 0 ≤ v_13.toInt ∧ v_13.toInt < hpl.toInt ∧ v_13.toInt ≤ 8)) := h_15
          have b_16 := h_15
          have hP : va_P G vwCl [(ha4, .inl (t 1, 9, .inl hf4)), (hh, .inr (5, [.int hli, .int hro, .int hse, .int hla, .int hpl, .int hex, .long hsi, .ref ha1, .ref ha2, .ref ha3, .ref ha4, .ref ha5, .ref ha6, .ref ha7, .ref ha8, .ref hc]))] H := hP
          have hD : va_D A [(ha4, .inl (t 1, 9, .inl hf4)), (hh, .inr (5, [.int hli, .int hro, .int hse, .int hla, .int hpl, .int hex, .long hsi, .ref ha1, .ref ha2, .ref ha3, .ref ha4, .ref ha5, .ref ha6, .ref ha7, .ref ha8, .ref hc]))] := hD
          refine W.widen (k := 0) (n := 0) (Nat.le_of_ble_eq_true rfl) (Nat.le_of_ble_eq_true rfl) ?_
          refine bF_eq (tgt := 46) hx hb dX5_placeAfter_32 (by decide) r_14.toInt rfl (fun c_17 => ?_) (fun c_17 => ?_)
          · first | refine incZ hx hb dX5_placeAfter_46 hl (k := 1) rfl g_4.toInt rfl (by have := zrng g_4; omega) (by decide) (fun v_18 zv_18 ls hl => ?_) | refine incU hx hb dX5_placeAfter_46 hl (k := 1) rfl (by decide) (fun v_18 ls hl => ?_)
            have hl : lv_has ls 5 [(4, .int v_18), (3, .int v_13), (0, .ref hh), (1, .int a0), (2, .int b0)] := hl
            refine lv_goto (tgt := 5) hx hb dX5_placeAfter_49 (by decide) ?_
            exact ih_5 (Int.toNat (9 - v_18.toInt)) (by omega) v_18 v_13 (by omega) _ _ _ (lv_sub hl [0, 1, 2, 3, 4] rfl) (hP.sub [1, 0] rfl) (hD.sub [1, 0] (by decide) rfl) hS rfl
          · refine lv_iload_n hx hb dX5_placeAfter_35 rfl (lv_at hl 4 rfl) ?_
            refine lv_iload_n hx hb dX5_placeAfter_36 rfl (lv_at hl 0 rfl) ?_
            refine goI (rnSN C0 (x_bit l G t v_13) lkX5_102 ⟨by decide, by decide⟩ (hP.sub (ws' := []) [] rfl) (hD.sub (ws' := []) [] (by decide) rfl) rfl hl.1 (rest := [.int b0]) rfl (Nat.le_of_ble_eq_true rfl) dX5_placeAfter_37 ⟨by decide, by decide⟩) hP hD hS hA [] [0, 1] (wr := [(ha4, .inl (t 1, 9, .inl hf4)), (hh, .inr (5, [.int hli, .int hro, .int hse, .int hla, .int hpl, .int hex, .long hsi, .ref ha1, .ref ha2, .ref ha3, .ref ha4, .ref ha5, .ref ha6, .ref ha7, .ref ha8, .ref hc]))]) rfl rfl (by decide) (by decide) (fun r_19 u H locs h_20 hP hD hS => ?_)
            have hP : va_P G vwCl [(ha4, .inl (t 1, 9, .inl hf4)), (hh, .inr (5, [.int hli, .int hro, .int hse, .int hla, .int hpl, .int hex, .long hsi, .ref ha1, .ref ha2, .ref ha3, .ref ha4, .ref ha5, .ref ha6, .ref ha7, .ref ha8, .ref hc]))] H := hP
            have hD : va_D A [(ha4, .inl (t 1, 9, .inl hf4)), (hh, .inr (5, [.int hli, .int hro, .int hse, .int hla, .int hpl, .int hex, .long hsi, .ref ha1, .ref ha2, .ref ha3, .ref ha4, .ref ha5, .ref ha6, .ref ha7, .ref ha8, .ref hc]))] := hD
            refine W.widen (k := 0) (n := 0) (Nat.le_of_ble_eq_true rfl) (Nat.le_of_ble_eq_true rfl) ?_
            refine lv_iand hx hb dX5_placeAfter_40 (gnI (fun v_21 => ?_))
            refine bF_ne (tgt := 46) hx hb dX5_placeAfter_41 (by decide) v_21.toInt rfl (fun c_22 => ?_) (fun c_22 => ?_)
            · first | refine incZ hx hb dX5_placeAfter_46 hl (k := 1) rfl g_4.toInt rfl (by have := zrng g_4; omega) (by decide) (fun v_23 zv_23 ls hl => ?_) | refine incU hx hb dX5_placeAfter_46 hl (k := 1) rfl (by decide) (fun v_23 ls hl => ?_)
              have hl : lv_has ls 5 [(4, .int v_23), (3, .int v_13), (0, .ref hh), (1, .int a0), (2, .int b0)] := hl
              refine lv_goto (tgt := 5) hx hb dX5_placeAfter_49 (by decide) ?_
              exact ih_5 (Int.toNat (9 - v_23.toInt)) (by omega) v_23 v_13 (by omega) _ _ _ (lv_sub hl [0, 1, 2, 3, 4] rfl) (hP.sub [1, 0] rfl) (hD.sub [1, 0] (by decide) rfl) hS rfl
            · refine lv_iload_n hx hb dX5_placeAfter_44 rfl (lv_at hl 0 rfl) ?_
              exact rtI hx hb hr hlocks hS () (trivial) (hP.sub [1, 0] rfl) (hD.sub [1, 0] (by decide) rfl) dX5_placeAfter_45
  exact LP_7 (Int.toNat (9 - 0)) 0 a0 (by have : (0 : Int32).toInt = 0 := rfl; omega) _ _ _ (lv_sub hl [0, 1, 2, 3, 4] rfl) (hP.sub [0, 1] rfl) (hD.sub [0, 1] (by decide) rfl) hS rfl

set_option maxHeartbeats 4000000 in
set_option maxRecDepth 100000 in
theorem x_takeBack (l : Launch) (G : va_G) (t : Nat → ClassId) (hh : Nat) (hli : Int32) (hro : Int32) (hse : Int32) (hla : Int32) (hpl : Int32) (hex : Int32) (hsi : Int64) (ha1 : Nat) (ha2 : Nat) (ha3 : Nat) (ha4 : Nat) (ha5 : Nat) (ha6 : Nat) (ha7 : Nat) (ha8 : Nat) (hc : Nat) (hf4 : Nat → Int32) (hf7 : Nat → Int32) (hf8 : Nat → Int32) (hcs : Int32) (hb1 : Nat) (hb2 : Nat) (hb3 : Nat) (hb4 : Nat) (hg1 : Nat → Int32) (hg2 : Nat → Int32) (hg3 : Nat → Int32) (hg4 : Nat → Int32) (h_hro : 0 ≤ hro.toInt ∧ hro.toInt ≤ 6) (h_hse : 0 ≤ hse.toInt ∧ hse.toInt ≤ 6) (h_hpl : 0 ≤ hpl.toInt ∧ hpl.toInt ≤ 9) (h_hex : 0 ≤ hex.toInt ∧ hex.toInt ≤ 7) (h_hcs : 0 ≤ hcs.toInt ∧ hcs.toInt ≤ 40) : Ct l G t yX5_takeBack cX5_takeBack 3 (some .boolean) ({ frames := 2, cells := 0, slots := 0, locals := 42 }) [.ref hh] [(hh, .inr (5, [.int hli, .int hro, .int hse, .int hla, .int hpl, .int hex, .long hsi, .ref ha1, .ref ha2, .ref ha3, .ref ha4, .ref ha5, .ref ha6, .ref ha7, .ref ha8, .ref hc])), (ha4, .inl (t 1, 9, .inl hf4)), (ha7, .inl (t 1, 7, .inl hf7)), (ha8, .inl (t 1, 7, .inl hf8)), (hc, .inr (1, [.int hcs, .ref hb1, .ref hb2, .ref hb3, .ref hb4])), (hb1, .inl (t 1, 40, .inl hg1)), (hb2, .inl (t 1, 40, .inl hg2)), (hb3, .inl (t 1, 40, .inl hg3)), (hb4, .inl (t 1, 40, .inl hg4))] (QI G (fun r (u : (Int64) × (Nat → Int32) × (Nat → Int32) × (Nat → Int32) × (Int32)) => (0 ≤ u.2.2.2.2.toInt ∧ u.2.2.2.2.toInt ≤ 40)) (fun (u : (Int64) × (Nat → Int32) × (Nat → Int32) × (Nat → Int32) × (Int32)) => [(hh, .inr (5, [.int hli, .int hro, .int hse, .int hla, .int hpl, .int hex, .long u.1, .ref ha1, .ref ha2, .ref ha3, .ref ha4, .ref ha5, .ref ha6, .ref ha7, .ref ha8, .ref hc])), (ha4, .inl (t 1, 9, .inl u.2.1)), (ha7, .inl (t 1, 7, .inl u.2.2.1)), (ha8, .inl (t 1, 7, .inl u.2.2.2.1)), (hc, .inr (1, [.int u.2.2.2.2, .ref hb1, .ref hb2, .ref hb3, .ref hb4])), (hb1, .inl (t 1, 40, .inl hg1)), (hb2, .inl (t 1, 40, .inl hg2)), (hb3, .inl (t 1, 40, .inl hg3)), (hb4, .inl (t 1, 40, .inl hg4))])) := by
  refine ent (by decide) (Nat.le_of_ble_eq_true rfl) ?_
  intro p e s m args below meth c hx hb hr hml hts hown hlocks hin A hA hK hO hP hD hS ls hl
  have hown : s.vm.findClass RX5 = some m.cls := hown
  have hl : lv_has ls 3 [(0, .ref hh)] := hl
  have C0 : Cx p s m args c cX5_takeBack 3 RX5 G t := ⟨hx, hb, hml, hown, hts, hK, hO⟩
  refine lv_aload_n hx hb dX5_takeBack_0 rfl (lv_at hl 0 rfl) ?_
  refine gf hx hb hts hown hK hP 0 inT5 rfl rfl 15 (by decide) tw1_141 rfl dX5_takeBack_1 ?_
  refine gf hx hb hts hown hK hP 4 inT1 rfl rfl 0 (by decide) tw1_57 rfl dX5_takeBack_4 ?_
  refine bF_le (tgt := 22) hx hb dX5_takeBack_7 (by decide) hcs.toInt rfl (fun c_1 => ?_) (fun c_1 => ?_)
  · refine lv_iconst (v := 0) hx hb dX5_takeBack_22 (by decide) ?_
    exact rtZ hx hb hr hlocks hS rfl (hsi, hf4, hf7, hf8, hcs) ((show 0 ≤ hcs.toInt ∧ hcs.toInt ≤ 40 from (by omega))) (hP.sub [0, 1, 2, 3, 4, 5, 6, 7, 8] rfl) (hD.sub [0, 1, 2, 3, 4, 5, 6, 7, 8] (by decide) rfl) dX5_takeBack_23
  · refine lv_aload_n hx hb dX5_takeBack_10 rfl (lv_at hl 0 rfl) ?_
    refine gf hx hb hts hown hK hP 0 inT5 rfl rfl 15 (by decide) tw1_141 rfl dX5_takeBack_11 ?_
    refine gf hx hb hts hown hK hP 4 inT1 rfl rfl 0 (by decide) tw1_57 rfl dX5_takeBack_14 ?_
    refine lv_bipush (v := 40) hx hb dX5_takeBack_17 (by decide) ?_
    refine bI_le (tgt := 24) hx hb dX5_takeBack_19 (by decide) hcs.toInt 40 rfl rfl (fun c_2 => ?_) (fun c_2 => ?_)
    · refine lv_aload_n hx hb dX5_takeBack_24 rfl (lv_at hl 0 rfl) ?_
      refine gf hx hb hts hown hK hP 0 inT5 rfl rfl 15 (by decide) tw1_141 rfl dX5_takeBack_25 ?_
      refine lv_dup hx hb dX5_takeBack_28 rfl ?_
      refine gf hx hb hts hown hK hP 4 inT1 rfl rfl 0 (by decide) tw1_57 rfl dX5_takeBack_29 ?_
      refine lv_iconst (v := 1) hx hb dX5_takeBack_32 (by decide) ?_
      first | refine sbZ hx hb dX5_takeBack_33 hcs.toInt 1 rfl rfl (by have := zrng hcs; omega) (fun v_3 zv_3 => ?_) | refine lv_isub hx hb dX5_takeBack_33 (gnI (fun v_3 => ?_))
      refine pf hx hb hts hown hK hP hD hS 4 inT1 tyX1_ok nmX1 rfl rfl 0 (by decide) tw1_57 rfl rfl rfl (Nat.le_of_ble_eq_true rfl) dX5_takeBack_34 (ws' := [(hh, .inr (5, [.int hli, .int hro, .int hse, .int hla, .int hpl, .int hex, .long hsi, .ref ha1, .ref ha2, .ref ha3, .ref ha4, .ref ha5, .ref ha6, .ref ha7, .ref ha8, .ref hc])), (ha4, .inl (t 1, 9, .inl hf4)), (ha7, .inl (t 1, 7, .inl hf7)), (ha8, .inl (t 1, 7, .inl hf8)), (hc, .inr (1, [.int v_3, .ref hb1, .ref hb2, .ref hb3, .ref hb4])), (hb1, .inl (t 1, 40, .inl hg1)), (hb2, .inl (t 1, 40, .inl hg2)), (hb3, .inl (t 1, 40, .inl hg3)), (hb4, .inl (t 1, 40, .inl hg4))]) rfl (fun H locs hP hD hS => ?_)
      refine lv_aload_n hx hb dX5_takeBack_37 rfl (lv_at hl 0 rfl) ?_
      refine gf hx hb hts hown hK hP 0 inT5 rfl rfl 15 (by decide) tw1_141 rfl dX5_takeBack_38 ?_
      refine gf hx hb hts hown hK hP 4 inT1 rfl rfl 0 (by decide) tw1_57 rfl dX5_takeBack_41 ?_
      refine lv_istore_n (lv' := [(1, .int v_3), (0, .ref hh)]) hx hb dX5_takeBack_44 rfl hl (by decide) rfl (fun ls hl => ?_)
      refine lv_aload_n hx hb dX5_takeBack_45 rfl (lv_at hl 1 rfl) ?_
      refine gf hx hb hts hown hK hP 0 inT5 rfl rfl 15 (by decide) tw1_141 rfl dX5_takeBack_46 ?_
      refine gf hx hb hts hown hK hP 4 inT1 rfl rfl 2 (by decide) tw1_62 rfl dX5_takeBack_49 ?_
      refine lv_iload_n hx hb dX5_takeBack_52 rfl (lv_at hl 0 rfl) ?_
      refine laI hx hb hK hP 6 rfl v_3.toInt rfl (by omega) dX5_takeBack_53 (fun v_4 ev_4 => ?_)
      refine lv_istore_n (lv' := [(2, .int v_4), (1, .int v_3), (0, .ref hh)]) hx hb dX5_takeBack_54 rfl hl (by decide) rfl (fun ls hl => ?_)
      refine lv_aload_n hx hb dX5_takeBack_55 rfl (lv_at hl 2 rfl) ?_
      refine gf hx hb hts hown hK hP 0 inT5 rfl rfl 15 (by decide) tw1_141 rfl dX5_takeBack_56 ?_
      refine gf hx hb hts hown hK hP 4 inT1 rfl rfl 1 (by decide) tw1_60 rfl dX5_takeBack_59 ?_
      refine lv_iload_n hx hb dX5_takeBack_62 rfl (lv_at hl 1 rfl) ?_
      refine laI hx hb hK hP 5 rfl v_3.toInt rfl (by omega) dX5_takeBack_63 (fun v_5 ev_5 => ?_)
      by_cases g_6 : v_5 = 0
      · refine lv_lookup (off := 28) (tgt := 92) hx hb dX5_takeBack_64 (by decide) (by rw [g_6]; decide) (by decide) ?_
        refine lv_aload_n hx hb dX5_takeBack_92 rfl (lv_at hl 2 rfl) ?_
        refine lv_iload_n hx hb dX5_takeBack_93 rfl (lv_at hl 0 rfl) ?_
        refine goI (rnV C0 (x_hasPlace l G t hh v_4 hli hro hse hla hpl hex hsi ha1 ha2 ha3 ha4 ha5 ha6 ha7 ha8 hc (by omega) (by omega) (by omega) (by omega)) lkX5_85 ⟨by decide, by decide⟩ (hP.sub (ws' := [(hh, .inr (5, [.int hli, .int hro, .int hse, .int hla, .int hpl, .int hex, .long hsi, .ref ha1, .ref ha2, .ref ha3, .ref ha4, .ref ha5, .ref ha6, .ref ha7, .ref ha8, .ref hc]))]) [0] rfl) (hD.sub (ws' := [(hh, .inr (5, [.int hli, .int hro, .int hse, .int hla, .int hpl, .int hex, .long hsi, .ref ha1, .ref ha2, .ref ha3, .ref ha4, .ref ha5, .ref ha6, .ref ha7, .ref ha8, .ref hc]))]) [0] (by decide) rfl) 0 5 rfl rfl rfl rfl hl.1 (rest := []) rfl (Nat.le_of_ble_eq_true rfl) dX5_takeBack_94 ⟨by decide, by decide⟩) hP hD hS hA [0] [1, 2, 3, 4, 5, 6, 7, 8] (wr := [(ha4, .inl (t 1, 9, .inl hf4)), (ha7, .inl (t 1, 7, .inl hf7)), (ha8, .inl (t 1, 7, .inl hf8)), (hc, .inr (1, [.int v_3, .ref hb1, .ref hb2, .ref hb3, .ref hb4])), (hb1, .inl (t 1, 40, .inl hg1)), (hb2, .inl (t 1, 40, .inl hg2)), (hb3, .inl (t 1, 40, .inl hg3)), (hb4, .inl (t 1, 40, .inl hg4))]) rfl rfl (by decide) (by decide) (fun r_7 u H locs h_8 hP hD hS => ?_)
        have h_8 : (r_7.toInt = 0 ∨ (r_7.toInt = 1 ∧ 0 ≤ v_4.toInt ∧ v_4.toInt < hpl.toInt ∧ v_4.toInt ≤ 8)) := h_8
        have b_9 := h_8
        have hP : va_P G vwCl [(ha4, .inl (t 1, 9, .inl hf4)), (ha7, .inl (t 1, 7, .inl hf7)), (ha8, .inl (t 1, 7, .inl hf8)), (hc, .inr (1, [.int v_3, .ref hb1, .ref hb2, .ref hb3, .ref hb4])), (hb1, .inl (t 1, 40, .inl hg1)), (hb2, .inl (t 1, 40, .inl hg2)), (hb3, .inl (t 1, 40, .inl hg3)), (hb4, .inl (t 1, 40, .inl hg4)), (hh, .inr (5, [.int hli, .int hro, .int hse, .int hla, .int hpl, .int hex, .long hsi, .ref ha1, .ref ha2, .ref ha3, .ref ha4, .ref ha5, .ref ha6, .ref ha7, .ref ha8, .ref hc]))] H := hP
        have hD : va_D A [(ha4, .inl (t 1, 9, .inl hf4)), (ha7, .inl (t 1, 7, .inl hf7)), (ha8, .inl (t 1, 7, .inl hf8)), (hc, .inr (1, [.int v_3, .ref hb1, .ref hb2, .ref hb3, .ref hb4])), (hb1, .inl (t 1, 40, .inl hg1)), (hb2, .inl (t 1, 40, .inl hg2)), (hb3, .inl (t 1, 40, .inl hg3)), (hb4, .inl (t 1, 40, .inl hg4)), (hh, .inr (5, [.int hli, .int hro, .int hse, .int hla, .int hpl, .int hex, .long hsi, .ref ha1, .ref ha2, .ref ha3, .ref ha4, .ref ha5, .ref ha6, .ref ha7, .ref ha8, .ref hc]))] := hD
        refine W.widen (k := 0) (n := 0) (Nat.le_of_ble_eq_true rfl) (Nat.le_of_ble_eq_true rfl) ?_
        refine bF_eq (tgt := 182) hx hb dX5_takeBack_97 (by decide) r_7.toInt rfl (fun c_10 => ?_) (fun c_10 => ?_)
        · refine lv_iconst (v := 1) hx hb dX5_takeBack_182 (by decide) ?_
          exact rtZ hx hb hr hlocks hS rfl (hsi, hf4, hf7, hf8, v_3) ((show 0 ≤ v_3.toInt ∧ v_3.toInt ≤ 40 from (by omega))) (hP.sub [8, 0, 1, 2, 3, 4, 5, 6, 7] rfl) (hD.sub [8, 0, 1, 2, 3, 4, 5, 6, 7] (by decide) rfl) dX5_takeBack_183
        · refine lv_aload_n hx hb dX5_takeBack_100 rfl (lv_at hl 2 rfl) ?_
          refine gf hx hb hts hown hK hP 8 inT5 rfl rfl 10 (by decide) tw1_124 rfl dX5_takeBack_101 ?_
          refine lv_iload_n hx hb dX5_takeBack_104 rfl (lv_at hl 0 rfl) ?_
          refine lv_aload_n hx hb dX5_takeBack_105 rfl (lv_at hl 2 rfl) ?_
          refine gf hx hb hts hown hK hP 8 inT5 rfl rfl 15 (by decide) tw1_141 rfl dX5_takeBack_106 ?_
          refine gf hx hb hts hown hK hP 3 inT1 rfl rfl 3 (by decide) tw1_64 rfl dX5_takeBack_109 ?_
          refine lv_iload_n hx hb dX5_takeBack_112 rfl (lv_at hl 1 rfl) ?_
          refine laI hx hb hK hP 6 rfl v_3.toInt rfl (by omega) dX5_takeBack_113 (fun v_11 ev_11 => ?_)
          refine saI hx hb hK hP hD hS 0 rfl v_4.toInt rfl (by omega) dX5_takeBack_114 (fun f_12 ef_12 H locs hP hD hS => ?_)
          have hP : va_P G vwCl [(ha4, .inl (t 1, 9, .inl f_12)), (ha7, .inl (t 1, 7, .inl hf7)), (ha8, .inl (t 1, 7, .inl hf8)), (hc, .inr (1, [.int v_3, .ref hb1, .ref hb2, .ref hb3, .ref hb4])), (hb1, .inl (t 1, 40, .inl hg1)), (hb2, .inl (t 1, 40, .inl hg2)), (hb3, .inl (t 1, 40, .inl hg3)), (hb4, .inl (t 1, 40, .inl hg4)), (hh, .inr (5, [.int hli, .int hro, .int hse, .int hla, .int hpl, .int hex, .long hsi, .ref ha1, .ref ha2, .ref ha3, .ref ha4, .ref ha5, .ref ha6, .ref ha7, .ref ha8, .ref hc]))] H := hP
          have hD : va_D A [(ha4, .inl (t 1, 9, .inl f_12)), (ha7, .inl (t 1, 7, .inl hf7)), (ha8, .inl (t 1, 7, .inl hf8)), (hc, .inr (1, [.int v_3, .ref hb1, .ref hb2, .ref hb3, .ref hb4])), (hb1, .inl (t 1, 40, .inl hg1)), (hb2, .inl (t 1, 40, .inl hg2)), (hb3, .inl (t 1, 40, .inl hg3)), (hb4, .inl (t 1, 40, .inl hg4)), (hh, .inr (5, [.int hli, .int hro, .int hse, .int hla, .int hpl, .int hex, .long hsi, .ref ha1, .ref ha2, .ref ha3, .ref ha4, .ref ha5, .ref ha6, .ref ha7, .ref ha8, .ref hc]))] := hD
          refine lv_goto (tgt := 182) hx hb dX5_takeBack_115 (by decide) ?_
          refine lv_iconst (v := 1) hx hb dX5_takeBack_182 (by decide) ?_
          exact rtZ hx hb hr hlocks hS rfl (hsi, f_12, hf7, hf8, v_3) ((show 0 ≤ v_3.toInt ∧ v_3.toInt ≤ 40 from (by omega))) (hP.sub [8, 0, 1, 2, 3, 4, 5, 6, 7] rfl) (hD.sub [8, 0, 1, 2, 3, 4, 5, 6, 7] (by decide) rfl) dX5_takeBack_183
      by_cases g_13 : v_5 = 1
      · refine lv_lookup (off := 54) (tgt := 118) hx hb dX5_takeBack_64 (by decide) (by rw [g_13]; decide) (by decide) ?_
        refine lv_aload_n hx hb dX5_takeBack_118 rfl (lv_at hl 2 rfl) ?_
        refine lv_iload_n hx hb dX5_takeBack_119 rfl (lv_at hl 0 rfl) ?_
        refine goI (rnV C0 (x_hasExit l G t hh v_4 hli hro hse hla hpl hex hsi ha1 ha2 ha3 ha4 ha5 ha6 ha7 ha8 hc (by omega) (by omega) (by omega) (by omega)) lkX5_99 ⟨by decide, by decide⟩ (hP.sub (ws' := [(hh, .inr (5, [.int hli, .int hro, .int hse, .int hla, .int hpl, .int hex, .long hsi, .ref ha1, .ref ha2, .ref ha3, .ref ha4, .ref ha5, .ref ha6, .ref ha7, .ref ha8, .ref hc]))]) [0] rfl) (hD.sub (ws' := [(hh, .inr (5, [.int hli, .int hro, .int hse, .int hla, .int hpl, .int hex, .long hsi, .ref ha1, .ref ha2, .ref ha3, .ref ha4, .ref ha5, .ref ha6, .ref ha7, .ref ha8, .ref hc]))]) [0] (by decide) rfl) 0 5 rfl rfl rfl rfl hl.1 (rest := []) rfl (Nat.le_of_ble_eq_true rfl) dX5_takeBack_120 ⟨by decide, by decide⟩) hP hD hS hA [0] [1, 2, 3, 4, 5, 6, 7, 8] (wr := [(ha4, .inl (t 1, 9, .inl hf4)), (ha7, .inl (t 1, 7, .inl hf7)), (ha8, .inl (t 1, 7, .inl hf8)), (hc, .inr (1, [.int v_3, .ref hb1, .ref hb2, .ref hb3, .ref hb4])), (hb1, .inl (t 1, 40, .inl hg1)), (hb2, .inl (t 1, 40, .inl hg2)), (hb3, .inl (t 1, 40, .inl hg3)), (hb4, .inl (t 1, 40, .inl hg4))]) rfl rfl (by decide) (by decide) (fun r_14 u H locs h_15 hP hD hS => ?_)
        have h_15 : (r_14.toInt = 0 ∨ (r_14.toInt = 1 ∧ 0 ≤ v_4.toInt ∧ v_4.toInt < hex.toInt ∧ v_4.toInt ≤ 6)) := h_15
        have b_16 := h_15
        have hP : va_P G vwCl [(ha4, .inl (t 1, 9, .inl hf4)), (ha7, .inl (t 1, 7, .inl hf7)), (ha8, .inl (t 1, 7, .inl hf8)), (hc, .inr (1, [.int v_3, .ref hb1, .ref hb2, .ref hb3, .ref hb4])), (hb1, .inl (t 1, 40, .inl hg1)), (hb2, .inl (t 1, 40, .inl hg2)), (hb3, .inl (t 1, 40, .inl hg3)), (hb4, .inl (t 1, 40, .inl hg4)), (hh, .inr (5, [.int hli, .int hro, .int hse, .int hla, .int hpl, .int hex, .long hsi, .ref ha1, .ref ha2, .ref ha3, .ref ha4, .ref ha5, .ref ha6, .ref ha7, .ref ha8, .ref hc]))] H := hP
        have hD : va_D A [(ha4, .inl (t 1, 9, .inl hf4)), (ha7, .inl (t 1, 7, .inl hf7)), (ha8, .inl (t 1, 7, .inl hf8)), (hc, .inr (1, [.int v_3, .ref hb1, .ref hb2, .ref hb3, .ref hb4])), (hb1, .inl (t 1, 40, .inl hg1)), (hb2, .inl (t 1, 40, .inl hg2)), (hb3, .inl (t 1, 40, .inl hg3)), (hb4, .inl (t 1, 40, .inl hg4)), (hh, .inr (5, [.int hli, .int hro, .int hse, .int hla, .int hpl, .int hex, .long hsi, .ref ha1, .ref ha2, .ref ha3, .ref ha4, .ref ha5, .ref ha6, .ref ha7, .ref ha8, .ref hc]))] := hD
        refine W.widen (k := 0) (n := 0) (Nat.le_of_ble_eq_true rfl) (Nat.le_of_ble_eq_true rfl) ?_
        refine bF_eq (tgt := 182) hx hb dX5_takeBack_123 (by decide) r_14.toInt rfl (fun c_17 => ?_) (fun c_17 => ?_)
        · refine lv_iconst (v := 1) hx hb dX5_takeBack_182 (by decide) ?_
          exact rtZ hx hb hr hlocks hS rfl (hsi, hf4, hf7, hf8, v_3) ((show 0 ≤ v_3.toInt ∧ v_3.toInt ≤ 40 from (by omega))) (hP.sub [8, 0, 1, 2, 3, 4, 5, 6, 7] rfl) (hD.sub [8, 0, 1, 2, 3, 4, 5, 6, 7] (by decide) rfl) dX5_takeBack_183
        · refine lv_aload_n hx hb dX5_takeBack_126 rfl (lv_at hl 2 rfl) ?_
          refine gf hx hb hts hown hK hP 8 inT5 rfl rfl 13 (by decide) tw1_135 rfl dX5_takeBack_127 ?_
          refine lv_iload_n hx hb dX5_takeBack_130 rfl (lv_at hl 0 rfl) ?_
          refine lv_aload_n hx hb dX5_takeBack_131 rfl (lv_at hl 2 rfl) ?_
          refine gf hx hb hts hown hK hP 8 inT5 rfl rfl 15 (by decide) tw1_141 rfl dX5_takeBack_132 ?_
          refine gf hx hb hts hown hK hP 3 inT1 rfl rfl 3 (by decide) tw1_64 rfl dX5_takeBack_135 ?_
          refine lv_iload_n hx hb dX5_takeBack_138 rfl (lv_at hl 1 rfl) ?_
          refine laI hx hb hK hP 6 rfl v_3.toInt rfl (by omega) dX5_takeBack_139 (fun v_18 ev_18 => ?_)
          refine saI hx hb hK hP hD hS 1 rfl v_4.toInt rfl (by omega) dX5_takeBack_140 (fun f_19 ef_19 H locs hP hD hS => ?_)
          have hP : va_P G vwCl [(ha4, .inl (t 1, 9, .inl hf4)), (ha7, .inl (t 1, 7, .inl f_19)), (ha8, .inl (t 1, 7, .inl hf8)), (hc, .inr (1, [.int v_3, .ref hb1, .ref hb2, .ref hb3, .ref hb4])), (hb1, .inl (t 1, 40, .inl hg1)), (hb2, .inl (t 1, 40, .inl hg2)), (hb3, .inl (t 1, 40, .inl hg3)), (hb4, .inl (t 1, 40, .inl hg4)), (hh, .inr (5, [.int hli, .int hro, .int hse, .int hla, .int hpl, .int hex, .long hsi, .ref ha1, .ref ha2, .ref ha3, .ref ha4, .ref ha5, .ref ha6, .ref ha7, .ref ha8, .ref hc]))] H := hP
          have hD : va_D A [(ha4, .inl (t 1, 9, .inl hf4)), (ha7, .inl (t 1, 7, .inl f_19)), (ha8, .inl (t 1, 7, .inl hf8)), (hc, .inr (1, [.int v_3, .ref hb1, .ref hb2, .ref hb3, .ref hb4])), (hb1, .inl (t 1, 40, .inl hg1)), (hb2, .inl (t 1, 40, .inl hg2)), (hb3, .inl (t 1, 40, .inl hg3)), (hb4, .inl (t 1, 40, .inl hg4)), (hh, .inr (5, [.int hli, .int hro, .int hse, .int hla, .int hpl, .int hex, .long hsi, .ref ha1, .ref ha2, .ref ha3, .ref ha4, .ref ha5, .ref ha6, .ref ha7, .ref ha8, .ref hc]))] := hD
          refine lv_aload_n hx hb dX5_takeBack_141 rfl (lv_at hl 2 rfl) ?_
          refine gf hx hb hts hown hK hP 8 inT5 rfl rfl 14 (by decide) tw1_138 rfl dX5_takeBack_142 ?_
          refine lv_iload_n hx hb dX5_takeBack_145 rfl (lv_at hl 0 rfl) ?_
          refine lv_aload_n hx hb dX5_takeBack_146 rfl (lv_at hl 2 rfl) ?_
          refine gf hx hb hts hown hK hP 8 inT5 rfl rfl 15 (by decide) tw1_141 rfl dX5_takeBack_147 ?_
          refine gf hx hb hts hown hK hP 3 inT1 rfl rfl 4 (by decide) tw1_66 rfl dX5_takeBack_150 ?_
          refine lv_iload_n hx hb dX5_takeBack_153 rfl (lv_at hl 1 rfl) ?_
          refine laI hx hb hK hP 7 rfl v_3.toInt rfl (by omega) dX5_takeBack_154 (fun v_20 ev_20 => ?_)
          refine saI hx hb hK hP hD hS 2 rfl v_4.toInt rfl (by omega) dX5_takeBack_155 (fun f_21 ef_21 H locs hP hD hS => ?_)
          have hP : va_P G vwCl [(ha4, .inl (t 1, 9, .inl hf4)), (ha7, .inl (t 1, 7, .inl f_19)), (ha8, .inl (t 1, 7, .inl f_21)), (hc, .inr (1, [.int v_3, .ref hb1, .ref hb2, .ref hb3, .ref hb4])), (hb1, .inl (t 1, 40, .inl hg1)), (hb2, .inl (t 1, 40, .inl hg2)), (hb3, .inl (t 1, 40, .inl hg3)), (hb4, .inl (t 1, 40, .inl hg4)), (hh, .inr (5, [.int hli, .int hro, .int hse, .int hla, .int hpl, .int hex, .long hsi, .ref ha1, .ref ha2, .ref ha3, .ref ha4, .ref ha5, .ref ha6, .ref ha7, .ref ha8, .ref hc]))] H := hP
          have hD : va_D A [(ha4, .inl (t 1, 9, .inl hf4)), (ha7, .inl (t 1, 7, .inl f_19)), (ha8, .inl (t 1, 7, .inl f_21)), (hc, .inr (1, [.int v_3, .ref hb1, .ref hb2, .ref hb3, .ref hb4])), (hb1, .inl (t 1, 40, .inl hg1)), (hb2, .inl (t 1, 40, .inl hg2)), (hb3, .inl (t 1, 40, .inl hg3)), (hb4, .inl (t 1, 40, .inl hg4)), (hh, .inr (5, [.int hli, .int hro, .int hse, .int hla, .int hpl, .int hex, .long hsi, .ref ha1, .ref ha2, .ref ha3, .ref ha4, .ref ha5, .ref ha6, .ref ha7, .ref ha8, .ref hc]))] := hD
          refine lv_goto (tgt := 182) hx hb dX5_takeBack_156 (by decide) ?_
          refine lv_iconst (v := 1) hx hb dX5_takeBack_182 (by decide) ?_
          exact rtZ hx hb hr hlocks hS rfl (hsi, hf4, f_19, f_21, v_3) ((show 0 ≤ v_3.toInt ∧ v_3.toInt ≤ 40 from (by omega))) (hP.sub [8, 0, 1, 2, 3, 4, 5, 6, 7] rfl) (hD.sub [8, 0, 1, 2, 3, 4, 5, 6, 7] (by decide) rfl) dX5_takeBack_183
      refine lv_lookup (off := 95) (tgt := 159) hx hb dX5_takeBack_64 (by decide) (by rw [show Op.lookupswitch.offset _ _ _ = Op.lookupswitch.offset _ _ _ from lv_osw (a := 0) g_6 rfl]; rw [show Op.lookupswitch.offset _ _ _ = Op.lookupswitch.offset _ _ _ from lv_osw (a := 1) g_13 rfl]; rfl) (by decide) ?_
      refine lv_aload_n hx hb dX5_takeBack_159 rfl (lv_at hl 2 rfl) ?_
      refine lv_iload_n hx hb dX5_takeBack_160 rfl (lv_at hl 0 rfl) ?_
      refine lv_aload_n hx hb dX5_takeBack_161 rfl (lv_at hl 2 rfl) ?_
      refine gf hx hb hts hown hK hP 0 inT5 rfl rfl 15 (by decide) tw1_141 rfl dX5_takeBack_162 ?_
      refine gf hx hb hts hown hK hP 4 inT1 rfl rfl 3 (by decide) tw1_64 rfl dX5_takeBack_165 ?_
      refine lv_iload_n hx hb dX5_takeBack_168 rfl (lv_at hl 1 rfl) ?_
      refine laI hx hb hK hP 7 rfl v_3.toInt rfl (by omega) dX5_takeBack_169 (fun v_22 ev_22 => ?_)
      refine lv_iconst (v := 1) hx hb dX5_takeBack_170 (by decide) ?_
      refine bI_ne (tgt := 178) hx hb dX5_takeBack_171 (by decide) v_22.toInt 1 rfl rfl (fun c_23 => ?_) (fun c_23 => ?_)
      · refine lv_iconst (v := 0) hx hb dX5_takeBack_178 (by decide) ?_
        refine goV (rnV C0 (x_setTaken l G t hh v_4 0 hli hro hse hla hpl hex hsi ha1 ha2 ha3 ha4 ha5 ha6 ha7 ha8 hc (by omega) (by omega) (by omega) (by omega)) lkX5_117 ⟨by decide, by decide⟩ (hP.sub (ws' := [(hh, .inr (5, [.int hli, .int hro, .int hse, .int hla, .int hpl, .int hex, .long hsi, .ref ha1, .ref ha2, .ref ha3, .ref ha4, .ref ha5, .ref ha6, .ref ha7, .ref ha8, .ref hc]))]) [0] rfl) (hD.sub (ws' := [(hh, .inr (5, [.int hli, .int hro, .int hse, .int hla, .int hpl, .int hex, .long hsi, .ref ha1, .ref ha2, .ref ha3, .ref ha4, .ref ha5, .ref ha6, .ref ha7, .ref ha8, .ref hc]))]) [0] (by decide) rfl) 0 5 rfl rfl rfl rfl hl.1 (rest := []) rfl (Nat.le_of_ble_eq_true rfl) dX5_takeBack_179 ⟨by decide, by decide⟩) hP hD hS hA [0] [1, 2, 3, 4, 5, 6, 7, 8] (wr := [(ha4, .inl (t 1, 9, .inl hf4)), (ha7, .inl (t 1, 7, .inl hf7)), (ha8, .inl (t 1, 7, .inl hf8)), (hc, .inr (1, [.int v_3, .ref hb1, .ref hb2, .ref hb3, .ref hb4])), (hb1, .inl (t 1, 40, .inl hg1)), (hb2, .inl (t 1, 40, .inl hg2)), (hb3, .inl (t 1, 40, .inl hg3)), (hb4, .inl (t 1, 40, .inl hg4))]) rfl rfl (by decide) (by decide) (fun u H locs h_26 hP hD hS => ?_)
        obtain ⟨u_24, eu_24⟩ : ∃ z, z = u := ⟨_, rfl⟩
        subst eu_24
        have hP : va_P G vwCl [(ha4, .inl (t 1, 9, .inl hf4)), (ha7, .inl (t 1, 7, .inl hf7)), (ha8, .inl (t 1, 7, .inl hf8)), (hc, .inr (1, [.int v_3, .ref hb1, .ref hb2, .ref hb3, .ref hb4])), (hb1, .inl (t 1, 40, .inl hg1)), (hb2, .inl (t 1, 40, .inl hg2)), (hb3, .inl (t 1, 40, .inl hg3)), (hb4, .inl (t 1, 40, .inl hg4)), (hh, .inr (5, [.int hli, .int hro, .int hse, .int hla, .int hpl, .int hex, .long u_24, .ref ha1, .ref ha2, .ref ha3, .ref ha4, .ref ha5, .ref ha6, .ref ha7, .ref ha8, .ref hc]))] H := hP
        have hD : va_D A [(ha4, .inl (t 1, 9, .inl hf4)), (ha7, .inl (t 1, 7, .inl hf7)), (ha8, .inl (t 1, 7, .inl hf8)), (hc, .inr (1, [.int v_3, .ref hb1, .ref hb2, .ref hb3, .ref hb4])), (hb1, .inl (t 1, 40, .inl hg1)), (hb2, .inl (t 1, 40, .inl hg2)), (hb3, .inl (t 1, 40, .inl hg3)), (hb4, .inl (t 1, 40, .inl hg4)), (hh, .inr (5, [.int hli, .int hro, .int hse, .int hla, .int hpl, .int hex, .long u_24, .ref ha1, .ref ha2, .ref ha3, .ref ha4, .ref ha5, .ref ha6, .ref ha7, .ref ha8, .ref hc]))] := hD
        refine W.widen (k := 0) (n := 0) (Nat.le_of_ble_eq_true rfl) (Nat.le_of_ble_eq_true rfl) ?_
        refine lv_iconst (v := 1) hx hb dX5_takeBack_182 (by decide) ?_
        exact rtZ hx hb hr hlocks hS rfl (u_24, hf4, hf7, hf8, v_3) ((show 0 ≤ v_3.toInt ∧ v_3.toInt ≤ 40 from (by omega))) (hP.sub [8, 0, 1, 2, 3, 4, 5, 6, 7] rfl) (hD.sub [8, 0, 1, 2, 3, 4, 5, 6, 7] (by decide) rfl) dX5_takeBack_183
      · refine lv_iconst (v := 1) hx hb dX5_takeBack_174 (by decide) ?_
        refine lv_goto (tgt := 179) hx hb dX5_takeBack_175 (by decide) ?_
        refine goV (rnV C0 (x_setTaken l G t hh v_4 1 hli hro hse hla hpl hex hsi ha1 ha2 ha3 ha4 ha5 ha6 ha7 ha8 hc (by omega) (by omega) (by omega) (by omega)) lkX5_117 ⟨by decide, by decide⟩ (hP.sub (ws' := [(hh, .inr (5, [.int hli, .int hro, .int hse, .int hla, .int hpl, .int hex, .long hsi, .ref ha1, .ref ha2, .ref ha3, .ref ha4, .ref ha5, .ref ha6, .ref ha7, .ref ha8, .ref hc]))]) [0] rfl) (hD.sub (ws' := [(hh, .inr (5, [.int hli, .int hro, .int hse, .int hla, .int hpl, .int hex, .long hsi, .ref ha1, .ref ha2, .ref ha3, .ref ha4, .ref ha5, .ref ha6, .ref ha7, .ref ha8, .ref hc]))]) [0] (by decide) rfl) 0 5 rfl rfl rfl rfl hl.1 (rest := []) rfl (Nat.le_of_ble_eq_true rfl) dX5_takeBack_179 ⟨by decide, by decide⟩) hP hD hS hA [0] [1, 2, 3, 4, 5, 6, 7, 8] (wr := [(ha4, .inl (t 1, 9, .inl hf4)), (ha7, .inl (t 1, 7, .inl hf7)), (ha8, .inl (t 1, 7, .inl hf8)), (hc, .inr (1, [.int v_3, .ref hb1, .ref hb2, .ref hb3, .ref hb4])), (hb1, .inl (t 1, 40, .inl hg1)), (hb2, .inl (t 1, 40, .inl hg2)), (hb3, .inl (t 1, 40, .inl hg3)), (hb4, .inl (t 1, 40, .inl hg4))]) rfl rfl (by decide) (by decide) (fun u H locs h_29 hP hD hS => ?_)
        obtain ⟨u_27, eu_27⟩ : ∃ z, z = u := ⟨_, rfl⟩
        subst eu_27
        have hP : va_P G vwCl [(ha4, .inl (t 1, 9, .inl hf4)), (ha7, .inl (t 1, 7, .inl hf7)), (ha8, .inl (t 1, 7, .inl hf8)), (hc, .inr (1, [.int v_3, .ref hb1, .ref hb2, .ref hb3, .ref hb4])), (hb1, .inl (t 1, 40, .inl hg1)), (hb2, .inl (t 1, 40, .inl hg2)), (hb3, .inl (t 1, 40, .inl hg3)), (hb4, .inl (t 1, 40, .inl hg4)), (hh, .inr (5, [.int hli, .int hro, .int hse, .int hla, .int hpl, .int hex, .long u_27, .ref ha1, .ref ha2, .ref ha3, .ref ha4, .ref ha5, .ref ha6, .ref ha7, .ref ha8, .ref hc]))] H := hP
        have hD : va_D A [(ha4, .inl (t 1, 9, .inl hf4)), (ha7, .inl (t 1, 7, .inl hf7)), (ha8, .inl (t 1, 7, .inl hf8)), (hc, .inr (1, [.int v_3, .ref hb1, .ref hb2, .ref hb3, .ref hb4])), (hb1, .inl (t 1, 40, .inl hg1)), (hb2, .inl (t 1, 40, .inl hg2)), (hb3, .inl (t 1, 40, .inl hg3)), (hb4, .inl (t 1, 40, .inl hg4)), (hh, .inr (5, [.int hli, .int hro, .int hse, .int hla, .int hpl, .int hex, .long u_27, .ref ha1, .ref ha2, .ref ha3, .ref ha4, .ref ha5, .ref ha6, .ref ha7, .ref ha8, .ref hc]))] := hD
        refine W.widen (k := 0) (n := 0) (Nat.le_of_ble_eq_true rfl) (Nat.le_of_ble_eq_true rfl) ?_
        refine lv_iconst (v := 1) hx hb dX5_takeBack_182 (by decide) ?_
        exact rtZ hx hb hr hlocks hS rfl (u_27, hf4, hf7, hf8, v_3) ((show 0 ≤ v_3.toInt ∧ v_3.toInt ≤ 40 from (by omega))) (hP.sub [8, 0, 1, 2, 3, 4, 5, 6, 7] rfl) (hD.sub [8, 0, 1, 2, 3, 4, 5, 6, 7] (by decide) rfl) dX5_takeBack_183
    · refine lv_iconst (v := 0) hx hb dX5_takeBack_22 (by decide) ?_
      exact rtZ hx hb hr hlocks hS rfl (hsi, hf4, hf7, hf8, hcs) ((show 0 ≤ hcs.toInt ∧ hcs.toInt ≤ 40 from (by omega))) (hP.sub [0, 1, 2, 3, 4, 5, 6, 7, 8] rfl) (hD.sub [0, 1, 2, 3, 4, 5, 6, 7, 8] (by decide) rfl) dX5_takeBack_23

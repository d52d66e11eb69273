set_option maxHeartbeats 4000000 in
set_option maxRecDepth 100000 in
theorem x_areExitsAndPlaces (l : Launch) (G : va_G) (t : Nat → ClassId) (cl : Nat) (s0 : Nat) (ac : Nat) (cw : Nat) (hh : Nat) (p1 : Nat) (p2 : Nat) (p3 : Nat) (p4 : Nat) (hli : Int32) (hro : Int32) (hse : Int32) (hla : Int32) (hpl : Int32) (hex : Int32) (hsi : Int64) (ha1 : Nat) (ha2 : Nat) (ha3 : Nat) (ha4 : Nat) (ha5 : Nat) (ha6 : Nat) (ha7 : Nat) (ha8 : Nat) (hc : Nat) (n0 : Nat) (sw : Int32) (sn : Int32) (sf : Nat → Int64) (h_hro : 0 ≤ hro.toInt ∧ hro.toInt ≤ 6) (h_hse : 0 ≤ hse.toInt ∧ hse.toInt ≤ 6) (h_hpl : 0 ≤ hpl.toInt ∧ hpl.toInt ≤ 9) (h_hex : 0 ≤ hex.toInt ∧ hex.toInt ≤ 7) (h_sw : 0 ≤ sw.toInt ∧ sw.toInt ≤ 3) (h_sn : (-1) ≤ sn.toInt ∧ sn.toInt ≤ 60) : Ct l G t yX2_areExitsAndPlaces cX2_areExitsAndPlaces 3 (some .boolean) ({ frames := 1, cells := 0, slots := 0, locals := 21 }) [.ref cl, .ref s0] [(cl, .inr (2, [.ref ac, .ref cw])), (ac, .inr (0, [.ref hh, .ref p1, .ref p2, .ref p3, .ref p4])), (hh, .inr (5, [.int hli, .int hro, .int hse, .int hla, .int hpl, .int hex, .long hsi, .ref ha1, .ref ha2, .ref ha3, .ref ha4, .ref ha5, .ref ha6, .ref ha7, .ref ha8, .ref hc])), (s0, .inr (8, [.ref n0, .int sw, .int sn])), (n0, .inl (t 2, 60, .inr (.inl sf)))] (QI G (fun r (u : Unit) => True) (fun (u : Unit) => [(cl, .inr (2, [.ref ac, .ref cw])), (ac, .inr (0, [.ref hh, .ref p1, .ref p2, .ref p3, .ref p4])), (hh, .inr (5, [.int hli, .int hro, .int hse, .int hla, .int hpl, .int hex, .long hsi, .ref ha1, .ref ha2, .ref ha3, .ref ha4, .ref ha5, .ref ha6, .ref ha7, .ref ha8, .ref hc])), (s0, .inr (8, [.ref n0, .int sw, .int sn])), (n0, .inl (t 2, 60, .inr (.inl sf)))])) := by
  refine ent (by decide) (Nat.le_of_ble_eq_true rfl) ?_
  intro p e s m args below meth c hx hb hr hml hts hown hlocks hin A hA hK hO hP hD hS ls hl
  have hown : s.vm.findClass RX2 = some m.cls := hown
  have hl : lv_has ls 3 [(0, .ref cl), (1, .ref s0)] := hl
  have C0 : Cx p s m args c cX2_areExitsAndPlaces 3 RX2 G t := ⟨hx, hb, hml, hown, hts, hK, hO⟩
  refine lv_iconst (v := 0) hx hb dX2_areExitsAndPlaces_0 (by decide) ?_
  refine lv_istore_n (lv' := [(2, .int 0), (0, .ref cl), (1, .ref s0)]) hx hb dX2_areExitsAndPlaces_1 rfl hl (by decide) rfl (fun ls hl => ?_)
  have LP_5 : ∀ (n : Nat) (g_3 : Int32) (b_4 : 0 ≤ g_3.toInt ∧ g_3.toInt ≤ 1000000) (H : Heap) (locs : List Loc) (ls : Array Slot), lv_has ls 3 [(2, .int g_3), (0, .ref cl), (1, .ref s0)] → va_P G vwCl [(cl, .inr (2, [.ref ac, .ref cw])), (ac, .inr (0, [.ref hh, .ref p1, .ref p2, .ref p3, .ref p4])), (hh, .inr (5, [.int hli, .int hro, .int hse, .int hla, .int hpl, .int hex, .long hsi, .ref ha1, .ref ha2, .ref ha3, .ref ha4, .ref ha5, .ref ha6, .ref ha7, .ref ha8, .ref hc])), (s0, .inr (8, [.ref n0, .int sw, .int sn])), (n0, .inl (t 2, 60, .inr (.inl sf)))] H → va_D A [(cl, .inr (2, [.ref ac, .ref cw])), (ac, .inr (0, [.ref hh, .ref p1, .ref p2, .ref p3, .ref p4])), (hh, .inr (5, [.int hli, .int hro, .int hse, .int hla, .int hpl, .int hex, .long hsi, .ref ha1, .ref ha2, .ref ha3, .ref ha4, .ref ha5, .ref ha6, .ref ha7, .ref ha8, .ref hc])), (s0, .inr (8, [.ref n0, .int sw, .int sn])), (n0, .inl (t 2, 60, .inr (.inl sf)))] → va_S A s.heap H locs → Int.toNat (sn.toInt - g_3.toInt) = n → W p l e ({ frames := 1, cells := 0, slots := 0, locals := 21 }) s m args below meth c H locs 0 0 (MQ below ((QI G (fun r (u : Unit) => True) (fun (u : Unit) => [(cl, .inr (2, [.ref ac, .ref cw])), (ac, .inr (0, [.ref hh, .ref p1, .ref p2, .ref p3, .ref p4])), (hh, .inr (5, [.int hli, .int hro, .int hse, .int hla, .int hpl, .int hex, .long hsi, .ref ha1, .ref ha2, .ref ha3, .ref ha4, .ref ha5, .ref ha6, .ref ha7, .ref ha8, .ref hc])), (s0, .inr (8, [.ref n0, .int sw, .int sn])), (n0, .inl (t 2, 60, .inr (.inl sf)))])) A) args s 0 0 A) (F0 m 2 ls []) := by
    intro n
    induction n using Nat.strongRecOn with
    | ind n ih_2 =>
      intro g_3 b_4 H locs ls hl hP hD hS hmu
      refine lv_iload_n hx hb dX2_areExitsAndPlaces_2 rfl (lv_at hl 0 rfl) ?_
      refine lv_iconst (v := 1) hx hb dX2_areExitsAndPlaces_3 (by decide) ?_
      first | refine adZ hx hb dX2_areExitsAndPlaces_4 g_3.toInt 1 rfl rfl (by have := zrng g_3; omega) (fun v_6 zv_6 => ?_) | refine lv_iadd hx hb dX2_areExitsAndPlaces_4 (gnI (fun v_6 => ?_))
      refine lv_aload_n hx hb dX2_areExitsAndPlaces_5 rfl (lv_at hl 2 rfl) ?_
      refine gf hx hb hts hown hK hP 3 inT8 rfl rfl 2 (by decide) tw1_186 rfl dX2_areExitsAndPlaces_6 ?_
      refine bI_ge (tgt := 58) hx hb dX2_areExitsAndPlaces_9 (by decide) v_6.toInt sn.toInt rfl rfl (fun c_7 => ?_) (fun c_7 => ?_)
      · refine lv_iconst (v := 1) hx hb dX2_areExitsAndPlaces_58 (by decide) ?_
        exact rtZ hx hb hr hlocks hS rfl () (trivial) (hP.sub [0, 1, 2, 3, 4] rfl) (hD.sub [0, 1, 2, 3, 4] (by decide) rfl) dX2_areExitsAndPlaces_59
      · refine lv_aload_n hx hb dX2_areExitsAndPlaces_12 rfl (lv_at hl 1 rfl) ?_
        refine gf hx hb hts hown hK hP 0 inT2 rfl rfl 0 (by decide) tw2_27 rfl dX2_areExitsAndPlaces_13 ?_
        refine gf hx hb hts hown hK hP 1 inT0 rfl rfl 0 (by decide) tw2_2 rfl dX2_areExitsAndPlaces_16 ?_
        refine lv_aload_n hx hb dX2_areExitsAndPlaces_19 rfl (lv_at hl 2 rfl) ?_
        refine lv_iload_n hx hb dX2_areExitsAndPlaces_20 rfl (lv_at hl 0 rfl) ?_
        refine goI (rnV C0 (x_small l G t s0 g_3 n0 sw sn sf (by omega) (by omega)) lkX2_31 ⟨by decide, by decide⟩ (hP.sub (ws' := [(s0, .inr (8, [.ref n0, .int sw, .int sn])), (n0, .inl (t 2, 60, .inr (.inl sf)))]) [3, 4] rfl) (hD.sub (ws' := [(s0, .inr (8, [.ref n0, .int sw, .int sn])), (n0, .inl (t 2, 60, .inr (.inl sf)))]) [3, 4] (by decide) rfl) 0 8 rfl rfl rfl rfl hl.1 (rest := [.ref hh]) rfl (Nat.le_of_ble_eq_true rfl) dX2_areExitsAndPlaces_21 ⟨by decide, by decide⟩) hP hD hS hA [3, 4] [0, 1, 2] (wr := [(cl, .inr (2, [.ref ac, .ref cw])), (ac, .inr (0, [.ref hh, .ref p1, .ref p2, .ref p3, .ref p4])), (hh, .inr (5, [.int hli, .int hro, .int hse, .int hla, .int hpl, .int hex, .long hsi, .ref ha1, .ref ha2, .ref ha3, .ref ha4, .ref ha5, .ref ha6, .ref ha7, .ref ha8, .ref hc]))]) rfl rfl (by decide) (by decide) (fun r_8 u H locs h_9 hP hD hS => ?_)
        have hP : va_P G vwCl [(cl, .inr (2, [.ref ac, .ref cw])), (ac, .inr (0, [.ref hh, .ref p1, .ref p2, .ref p3, .ref p4])), (hh, .inr (5, [.int hli, .int hro, .int hse, .int hla, .int hpl, .int hex, .long hsi, .ref ha1, .ref ha2, .ref ha3, .ref ha4, .ref ha5, .ref ha6, .ref ha7, .ref ha8, .ref hc])), (s0, .inr (8, [.ref n0, .int sw, .int sn])), (n0, .inl (t 2, 60, .inr (.inl sf)))] H := hP
        have hD : va_D A [(cl, .inr (2, [.ref ac, .ref cw])), (ac, .inr (0, [.ref hh, .ref p1, .ref p2, .ref p3, .ref p4])), (hh, .inr (5, [.int hli, .int hro, .int hse, .int hla, .int hpl, .int hex, .long hsi, .ref ha1, .ref ha2, .ref ha3, .ref ha4, .ref ha5, .ref ha6, .ref ha7, .ref ha8, .ref hc])), (s0, .inr (8, [.ref n0, .int sw, .int sn])), (n0, .inl (t 2, 60, .inr (.inl sf)))] := hD
        refine W.widen (k := 0) (n := 0) (Nat.le_of_ble_eq_true rfl) (Nat.le_of_ble_eq_true rfl) ?_
        refine goI (rnV C0 (x_hasExit l G t hh r_8 hli hro hse hla hpl hex hsi ha1 ha2 ha3 ha4 ha5 ha6 ha7 ha8 hc (by omega) (by omega) (by omega) (by omega)) lkX2_35 ⟨by decide, by decide⟩ (hP.sub (ws' := [(hh, .inr (5, [.int hli, .int hro, .int hse, .int hla, .int hpl, .int hex, .long hsi, .ref ha1, .ref ha2, .ref ha3, .ref ha4, .ref ha5, .ref ha6, .ref ha7, .ref ha8, .ref hc]))]) [2] rfl) (hD.sub (ws' := [(hh, .inr (5, [.int hli, .int hro, .int hse, .int hla, .int hpl, .int hex, .long hsi, .ref ha1, .ref ha2, .ref ha3, .ref ha4, .ref ha5, .ref ha6, .ref ha7, .ref ha8, .ref hc]))]) [2] (by decide) rfl) 0 5 rfl rfl rfl rfl hl.1 (rest := []) rfl (Nat.le_of_ble_eq_true rfl) dX2_areExitsAndPlaces_24 ⟨by decide, by decide⟩) hP hD hS hA [2] [0, 1, 3, 4] (wr := [(cl, .inr (2, [.ref ac, .ref cw])), (ac, .inr (0, [.ref hh, .ref p1, .ref p2, .ref p3, .ref p4])), (s0, .inr (8, [.ref n0, .int sw, .int sn])), (n0, .inl (t 2, 60, .inr (.inl sf)))]) rfl rfl (by decide) (by decide) (fun r_10 u H locs h_11 hP hD hS => ?_)
        have h_11 : (r_10.toInt = 0 ∨ (r_10.toInt = 1 ∧ 0 ≤ r_8.toInt ∧ r_8.toInt < hex.toInt ∧ r_8.toInt ≤ 6)) := h_11
        have b_12 := h_11
        have hP : va_P G vwCl [(cl, .inr (2, [.ref ac, .ref cw])), (ac, .inr (0, [.ref hh, .ref p1, .ref p2, .ref p3, .ref p4])), (s0, .inr (8, [.ref n0, .int sw, .int sn])), (n0, .inl (t 2, 60, .inr (.inl sf))), (hh, .inr (5, [.int hli, .int hro, .int hse, .int hla, .int hpl, .int hex, .long hsi, .ref ha1, .ref ha2, .ref ha3, .ref ha4, .ref ha5, .ref ha6, .ref ha7, .ref ha8, .ref hc]))] H := hP
        have hD : va_D A [(cl, .inr (2, [.ref ac, .ref cw])), (ac, .inr (0, [.ref hh, .ref p1, .ref p2, .ref p3, .ref p4])), (s0, .inr (8, [.ref n0, .int sw, .int sn])), (n0, .inl (t 2, 60, .inr (.inl sf))), (hh, .inr (5, [.int hli, .int hro, .int hse, .int hla, .int hpl, .int hex, .long hsi, .ref ha1, .ref ha2, .ref ha3, .ref ha4, .ref ha5, .ref ha6, .ref ha7, .ref ha8, .ref hc]))] := hD
        refine W.widen (k := 0) (n := 0) (Nat.le_of_ble_eq_true rfl) (Nat.le_of_ble_eq_true rfl) ?_
        refine bF_eq (tgt := 50) hx hb dX2_areExitsAndPlaces_27 (by decide) r_10.toInt rfl (fun c_13 => ?_) (fun c_13 => ?_)
        · refine lv_iconst (v := 0) hx hb dX2_areExitsAndPlaces_50 (by decide) ?_
          exact rtZ hx hb hr hlocks hS rfl () (trivial) (hP.sub [0, 1, 4, 2, 3] rfl) (hD.sub [0, 1, 4, 2, 3] (by decide) rfl) dX2_areExitsAndPlaces_51
        · refine lv_aload_n hx hb dX2_areExitsAndPlaces_30 rfl (lv_at hl 1 rfl) ?_
          refine gf hx hb hts hown hK hP 0 inT2 rfl rfl 0 (by decide) tw2_27 rfl dX2_areExitsAndPlaces_31 ?_
          refine gf hx hb hts hown hK hP 1 inT0 rfl rfl 0 (by decide) tw2_2 rfl dX2_areExitsAndPlaces_34 ?_
          refine lv_aload_n hx hb dX2_areExitsAndPlaces_37 rfl (lv_at hl 2 rfl) ?_
          refine lv_iload_n hx hb dX2_areExitsAndPlaces_38 rfl (lv_at hl 0 rfl) ?_
          refine lv_iconst (v := 1) hx hb dX2_areExitsAndPlaces_39 (by decide) ?_
          first | refine adZ hx hb dX2_areExitsAndPlaces_40 g_3.toInt 1 rfl rfl (by have := zrng g_3; omega) (fun v_14 zv_14 => ?_) | refine lv_iadd hx hb dX2_areExitsAndPlaces_40 (gnI (fun v_14 => ?_))
          refine goI (rnV C0 (x_small l G t s0 v_14 n0 sw sn sf (by omega) (by omega)) lkX2_31 ⟨by decide, by decide⟩ (hP.sub (ws' := [(s0, .inr (8, [.ref n0, .int sw, .int sn])), (n0, .inl (t 2, 60, .inr (.inl sf)))]) [2, 3] rfl) (hD.sub (ws' := [(s0, .inr (8, [.ref n0, .int sw, .int sn])), (n0, .inl (t 2, 60, .inr (.inl sf)))]) [2, 3] (by decide) rfl) 0 8 rfl rfl rfl rfl hl.1 (rest := [.ref hh]) rfl (Nat.le_of_ble_eq_true rfl) dX2_areExitsAndPlaces_41 ⟨by decide, by decide⟩) hP hD hS hA [2, 3] [0, 1, 4] (wr := [(cl, .inr (2, [.ref ac, .ref cw])), (ac, .inr (0, [.ref hh, .ref p1, .ref p2, .ref p3, .ref p4])), (hh, .inr (5, [.int hli, .int hro, .int hse, .int hla, .int hpl, .int hex, .long hsi, .ref ha1, .ref ha2, .ref ha3, .ref ha4, .ref ha5, .ref ha6, .ref ha7, .ref ha8, .ref hc]))]) rfl rfl (by decide) (by decide) (fun r_15 u H locs h_16 hP hD hS => ?_)
          have hP : va_P G vwCl [(cl, .inr (2, [.ref ac, .ref cw])), (ac, .inr (0, [.ref hh, .ref p1, .ref p2, .ref p3, .ref p4])), (hh, .inr (5, [.int hli, .int hro, .int hse, .int hla, .int hpl, .int hex, .long hsi, .ref ha1, .ref ha2, .ref ha3, .ref ha4, .ref ha5, .ref ha6, .ref ha7, .ref ha8, .ref hc])), (s0, .inr (8, [.ref n0, .int sw, .int sn])), (n0, .inl (t 2, 60, .inr (.inl sf)))] H := hP
          have hD : va_D A [(cl, .inr (2, [.ref ac, .ref cw])), (ac, .inr (0, [.ref hh, .ref p1, .ref p2, .ref p3, .ref p4])), (hh, .inr (5, [.int hli, .int hro, .int hse, .int hla, .int hpl, .int hex, .long hsi, .ref ha1, .ref ha2, .ref ha3, .ref ha4, .ref ha5, .ref ha6, .ref ha7, .ref ha8, .ref hc])), (s0, .inr (8, [.ref n0, .int sw, .int sn])), (n0, .inl (t 2, 60, .inr (.inl sf)))] := hD
          refine W.widen (k := 0) (n := 0) (Nat.le_of_ble_eq_true rfl) (Nat.le_of_ble_eq_true rfl) ?_
          refine goI (rnV C0 (x_hasPlace l G t hh r_15 hli hro hse hla hpl hex hsi ha1 ha2 ha3 ha4 ha5 ha6 ha7 ha8 hc (by omega) (by omega) (by omega) (by omega)) lkX2_41 ⟨by decide, by decide⟩ (hP.sub (ws' := [(hh, .inr (5, [.int hli, .int hro, .int hse, .int hla, .int hpl, .int hex, .long hsi, .ref ha1, .ref ha2, .ref ha3, .ref ha4, .ref ha5, .ref ha6, .ref ha7, .ref ha8, .ref hc]))]) [2] rfl) (hD.sub (ws' := [(hh, .inr (5, [.int hli, .int hro, .int hse, .int hla, .int hpl, .int hex, .long hsi, .ref ha1, .ref ha2, .ref ha3, .ref ha4, .ref ha5, .ref ha6, .ref ha7, .ref ha8, .ref hc]))]) [2] (by decide) rfl) 0 5 rfl rfl rfl rfl hl.1 (rest := []) rfl (Nat.le_of_ble_eq_true rfl) dX2_areExitsAndPlaces_44 ⟨by decide, by decide⟩) hP hD hS hA [2] [0, 1, 3, 4] (wr := [(cl, .inr (2, [.ref ac, .ref cw])), (ac, .inr (0, [.ref hh, .ref p1, .ref p2, .ref p3, .ref p4])), (s0, .inr (8, [.ref n0, .int sw, .int sn])), (n0, .inl (t 2, 60, .inr (.inl sf)))]) rfl rfl (by decide) (by decide) (fun r_17 u H locs h_18 hP hD hS => ?_)
          have h_18 : (r_17.toInt = 0 ∨ (r_17.toInt = 1 ∧ 0 ≤ r_15.toInt ∧ r_15.toInt < hpl.toInt ∧ r_15.toInt ≤ 8)) := h_18
          have b_19 := h_18
          have hP : va_P G vwCl [(cl, .inr (2, [.ref ac, .ref cw])), (ac, .inr (0, [.ref hh, .ref p1, .ref p2, .ref p3, .ref p4])), (s0, .inr (8, [.ref n0, .int sw, .int sn])), (n0, .inl (t 2, 60, .inr (.inl sf))), (hh, .inr (5, [.int hli, .int hro, .int hse, .int hla, .int hpl, .int hex, .long hsi, .ref ha1, .ref ha2, .ref ha3, .ref ha4, .ref ha5, .ref ha6, .ref ha7, .ref ha8, .ref hc]))] H := hP
          have hD : va_D A [(cl, .inr (2, [.ref ac, .ref cw])), (ac, .inr (0, [.ref hh, .ref p1, .ref p2, .ref p3, .ref p4])), (s0, .inr (8, [.ref n0, .int sw, .int sn])), (n0, .inl (t 2, 60, .inr (.inl sf))), (hh, .inr (5, [.int hli, .int hro, .int hse, .int hla, .int hpl, .int hex, .long hsi, .ref ha1, .ref ha2, .ref ha3, .ref ha4, .ref ha5, .ref ha6, .ref ha7, .ref ha8, .ref hc]))] := hD
          refine W.widen (k := 0) (n := 0) (Nat.le_of_ble_eq_true rfl) (Nat.le_of_ble_eq_true rfl) ?_
          refine bF_ne (tgt := 52) hx hb dX2_areExitsAndPlaces_47 (by decide) r_17.toInt rfl (fun c_20 => ?_) (fun c_20 => ?_)
          · first | refine incZ hx hb dX2_areExitsAndPlaces_52 hl (k := 0) rfl g_3.toInt rfl (by have := zrng g_3; omega) (by decide) (fun v_21 zv_21 ls hl => ?_) | refine incU hx hb dX2_areExitsAndPlaces_52 hl (k := 0) rfl (by decide) (fun v_21 ls hl => ?_)
            have hl : lv_has ls 3 [(2, .int v_21), (0, .ref cl), (1, .ref s0)] := hl
            refine lv_goto (tgt := 2) hx hb dX2_areExitsAndPlaces_55 (by decide) ?_
            exact ih_2 (Int.toNat (sn.toInt - v_21.toInt)) (by omega) v_21 (by omega) _ _ _ (lv_sub hl [0, 1, 2] rfl) (hP.sub [0, 1, 4, 2, 3] rfl) (hD.sub [0, 1, 4, 2, 3] (by decide) rfl) hS rfl
          · refine lv_iconst (v := 0) hx hb dX2_areExitsAndPlaces_50 (by decide) ?_
            exact rtZ hx hb hr hlocks hS rfl () (trivial) (hP.sub [0, 1, 4, 2, 3] rfl) (hD.sub [0, 1, 4, 2, 3] (by decide) rfl) dX2_areExitsAndPlaces_51
  exact LP_5 (Int.toNat (sn.toInt - 0)) 0 (by have : (0 : Int32).toInt = 0 := rfl; omega) _ _ _ (lv_sub hl [0, 1, 2] rfl) (hP.sub [0, 1, 2, 3, 4] rfl) (hD.sub [0, 1, 2, 3, 4] (by decide) rfl) hS rfl

set_option maxHeartbeats 4000000 in
set_option maxRecDepth 100000 in
theorem x_areSeatsAndBehinds (l : Launch) (G : va_G) (t : Nat → ClassId) (cl : Nat) (s0 : Nat) (ac : Nat) (cw : Nat) (hh : Nat) (p1 : Nat) (p2 : Nat) (p3 : Nat) (p4 : Nat) (hli : Int32) (hro : Int32) (hse : Int32) (hla : Int32) (hpl : Int32) (hex : Int32) (hsi : Int64) (ha1 : Nat) (ha2 : Nat) (ha3 : Nat) (ha4 : Nat) (ha5 : Nat) (ha6 : Nat) (ha7 : Nat) (ha8 : Nat) (hc : Nat) (n0 : Nat) (sw : Int32) (sn : Int32) (sf : Nat → Int64) (h_hro : 0 ≤ hro.toInt ∧ hro.toInt ≤ 6) (h_hse : 0 ≤ hse.toInt ∧ hse.toInt ≤ 6) (h_hpl : 0 ≤ hpl.toInt ∧ hpl.toInt ≤ 9) (h_hex : 0 ≤ hex.toInt ∧ hex.toInt ≤ 7) (h_sw : 0 ≤ sw.toInt ∧ sw.toInt ≤ 3) (h_sn : (-1) ≤ sn.toInt ∧ sn.toInt ≤ 60) : Ct l G t yX2_areSeatsAndBehinds cX2_areSeatsAndBehinds 3 (some .boolean) ({ frames := 1, cells := 0, slots := 0, locals := 22 }) [.ref cl, .ref s0] [(cl, .inr (2, [.ref ac, .ref cw])), (ac, .inr (0, [.ref hh, .ref p1, .ref p2, .ref p3, .ref p4])), (hh, .inr (5, [.int hli, .int hro, .int hse, .int hla, .int hpl, .int hex, .long hsi, .ref ha1, .ref ha2, .ref ha3, .ref ha4, .ref ha5, .ref ha6, .ref ha7, .ref ha8, .ref hc])), (s0, .inr (8, [.ref n0, .int sw, .int sn])), (n0, .inl (t 2, 60, .inr (.inl sf)))] (QI G (fun r (u : Unit) => True) (fun (u : Unit) => [(cl, .inr (2, [.ref ac, .ref cw])), (ac, .inr (0, [.ref hh, .ref p1, .ref p2, .ref p3, .ref p4])), (hh, .inr (5, [.int hli, .int hro, .int hse, .int hla, .int hpl, .int hex, .long hsi, .ref ha1, .ref ha2, .ref ha3, .ref ha4, .ref ha5, .ref ha6, .ref ha7, .ref ha8, .ref hc])), (s0, .inr (8, [.ref n0, .int sw, .int sn])), (n0, .inl (t 2, 60, .inr (.inl sf)))])) := by
  refine ent (by decide) (Nat.le_of_ble_eq_true rfl) ?_
  intro p e s m args below meth c hx hb hr hml hts hown hlocks hin A hA hK hO hP hD hS ls hl
  have hown : s.vm.findClass RX2 = some m.cls := hown
  have hl : lv_has ls 3 [(0, .ref cl), (1, .ref s0)] := hl
  have C0 : Cx p s m args c cX2_areSeatsAndBehinds 3 RX2 G t := ⟨hx, hb, hml, hown, hts, hK, hO⟩
  refine lv_iconst (v := 0) hx hb dX2_areSeatsAndBehinds_0 (by decide) ?_
  refine lv_istore_n (lv' := [(2, .int 0), (0, .ref cl), (1, .ref s0)]) hx hb dX2_areSeatsAndBehinds_1 rfl hl (by decide) rfl (fun ls hl => ?_)
  have LP_5 : ∀ (n : Nat) (g_3 : Int32) (b_4 : 0 ≤ g_3.toInt ∧ g_3.toInt ≤ 1000000) (H : Heap) (locs : List Loc) (ls : Array Slot), lv_has ls 3 [(2, .int g_3), (0, .ref cl), (1, .ref s0)] → va_P G vwCl [(cl, .inr (2, [.ref ac, .ref cw])), (ac, .inr (0, [.ref hh, .ref p1, .ref p2, .ref p3, .ref p4])), (hh, .inr (5, [.int hli, .int hro, .int hse, .int hla, .int hpl, .int hex, .long hsi, .ref ha1, .ref ha2, .ref ha3, .ref ha4, .ref ha5, .ref ha6, .ref ha7, .ref ha8, .ref hc])), (s0, .inr (8, [.ref n0, .int sw, .int sn])), (n0, .inl (t 2, 60, .inr (.inl sf)))] H → va_D A [(cl, .inr (2, [.ref ac, .ref cw])), (ac, .inr (0, [.ref hh, .ref p1, .ref p2, .ref p3, .ref p4])), (hh, .inr (5, [.int hli, .int hro, .int hse, .int hla, .int hpl, .int hex, .long hsi, .ref ha1, .ref ha2, .ref ha3, .ref ha4, .ref ha5, .ref ha6, .ref ha7, .ref ha8, .ref hc])), (s0, .inr (8, [.ref n0, .int sw, .int sn])), (n0, .inl (t 2, 60, .inr (.inl sf)))] → va_S A s.heap H locs → Int.toNat (sn.toInt - g_3.toInt) = n → W p l e ({ frames := 1, cells := 0, slots := 0, locals := 22 }) s m args below meth c H locs 0 0 (MQ below ((QI G (fun r (u : Unit) => True) (fun (u : Unit) => [(cl, .inr (2, [.ref ac, .ref cw])), (ac, .inr (0, [.ref hh, .ref p1, .ref p2, .ref p3, .ref p4])), (hh, .inr (5, [.int hli, .int hro, .int hse, .int hla, .int hpl, .int hex, .long hsi, .ref ha1, .ref ha2, .ref ha3, .ref ha4, .ref ha5, .ref ha6, .ref ha7, .ref ha8, .ref hc])), (s0, .inr (8, [.ref n0, .int sw, .int sn])), (n0, .inl (t 2, 60, .inr (.inl sf)))])) A) args s 0 0 A) (F0 m 2 ls []) := by
    intro n
    induction n using Nat.strongRecOn with
    | ind n ih_2 =>
      intro g_3 b_4 H locs ls hl hP hD hS hmu
      refine lv_iload_n hx hb dX2_areSeatsAndBehinds_2 rfl (lv_at hl 0 rfl) ?_
      refine lv_iconst (v := 2) hx hb dX2_areSeatsAndBehinds_3 (by decide) ?_
      first | refine adZ hx hb dX2_areSeatsAndBehinds_4 g_3.toInt 2 rfl rfl (by have := zrng g_3; omega) (fun v_6 zv_6 => ?_) | refine lv_iadd hx hb dX2_areSeatsAndBehinds_4 (gnI (fun v_6 => ?_))
      refine lv_aload_n hx hb dX2_areSeatsAndBehinds_5 rfl (lv_at hl 2 rfl) ?_
      refine gf hx hb hts hown hK hP 3 inT8 rfl rfl 2 (by decide) tw1_186 rfl dX2_areSeatsAndBehinds_6 ?_
      refine bI_ge (tgt := 58) hx hb dX2_areSeatsAndBehinds_9 (by decide) v_6.toInt sn.toInt rfl rfl (fun c_7 => ?_) (fun c_7 => ?_)
      · refine lv_iconst (v := 1) hx hb dX2_areSeatsAndBehinds_58 (by decide) ?_
        exact rtZ hx hb hr hlocks hS rfl () (trivial) (hP.sub [0, 1, 2, 3, 4] rfl) (hD.sub [0, 1, 2, 3, 4] (by decide) rfl) dX2_areSeatsAndBehinds_59
      · refine lv_aload_n hx hb dX2_areSeatsAndBehinds_12 rfl (lv_at hl 1 rfl) ?_
        refine gf hx hb hts hown hK hP 0 inT2 rfl rfl 0 (by decide) tw2_27 rfl dX2_areSeatsAndBehinds_13 ?_
        refine gf hx hb hts hown hK hP 1 inT0 rfl rfl 0 (by decide) tw2_2 rfl dX2_areSeatsAndBehinds_16 ?_
        refine lv_aload_n hx hb dX2_areSeatsAndBehinds_19 rfl (lv_at hl 2 rfl) ?_
        refine lv_iload_n hx hb dX2_areSeatsAndBehinds_20 rfl (lv_at hl 0 rfl) ?_
        refine goI (rnV C0 (x_small l G t s0 g_3 n0 sw sn sf (by omega) (by omega)) lkX2_31 ⟨by decide, by decide⟩ (hP.sub (ws' := [(s0, .inr (8, [.ref n0, .int sw, .int sn])), (n0, .inl (t 2, 60, .inr (.inl sf)))]) [3, 4] rfl) (hD.sub (ws' := [(s0, .inr (8, [.ref n0, .int sw, .int sn])), (n0, .inl (t 2, 60, .inr (.inl sf)))]) [3, 4] (by decide) rfl) 0 8 rfl rfl rfl rfl hl.1 (rest := [.ref hh]) rfl (Nat.le_of_ble_eq_true rfl) dX2_areSeatsAndBehinds_21 ⟨by decide, by decide⟩) hP hD hS hA [3, 4] [0, 1, 2] (wr := [(cl, .inr (2, [.ref ac, .ref cw])), (ac, .inr (0, [.ref hh, .ref p1, .ref p2, .ref p3, .ref p4])), (hh, .inr (5, [.int hli, .int hro, .int hse, .int hla, .int hpl, .int hex, .long hsi, .ref ha1, .ref ha2, .ref ha3, .ref ha4, .ref ha5, .ref ha6, .ref ha7, .ref ha8, .ref hc]))]) rfl rfl (by decide) (by decide) (fun r_8 u H locs h_9 hP hD hS => ?_)
        have hP : va_P G vwCl [(cl, .inr (2, [.ref ac, .ref cw])), (ac, .inr (0, [.ref hh, .ref p1, .ref p2, .ref p3, .ref p4])), (hh, .inr (5, [.int hli, .int hro, .int hse, .int hla, .int hpl, .int hex, .long hsi, .ref ha1, .ref ha2, .ref ha3, .ref ha4, .ref ha5, .ref ha6, .ref ha7, .ref ha8, .ref hc])), (s0, .inr (8, [.ref n0, .int sw, .int sn])), (n0, .inl (t 2, 60, .inr (.inl sf)))] H := hP
        have hD : va_D A [(cl, .inr (2, [.ref ac, .ref cw])), (ac, .inr (0, [.ref hh, .ref p1, .ref p2, .ref p3, .ref p4])), (hh, .inr (5, [.int hli, .int hro, .int hse, .int hla, .int hpl, .int hex, .long hsi, .ref ha1, .ref ha2, .ref ha3, .ref ha4, .ref ha5, .ref ha6, .ref ha7, .ref ha8, .ref hc])), (s0, .inr (8, [.ref n0, .int sw, .int sn])), (n0, .inl (t 2, 60, .inr (.inl sf)))] := hD
        refine W.widen (k := 0) (n := 0) (Nat.le_of_ble_eq_true rfl) (Nat.le_of_ble_eq_true rfl) ?_
        refine lv_aload_n hx hb dX2_areSeatsAndBehinds_24 rfl (lv_at hl 2 rfl) ?_
        refine lv_iload_n hx hb dX2_areSeatsAndBehinds_25 rfl (lv_at hl 0 rfl) ?_
        refine lv_iconst (v := 1) hx hb dX2_areSeatsAndBehinds_26 (by decide) ?_
        first | refine adZ hx hb dX2_areSeatsAndBehinds_27 g_3.toInt 1 rfl rfl (by have := zrng g_3; omega) (fun v_10 zv_10 => ?_) | refine lv_iadd hx hb dX2_areSeatsAndBehinds_27 (gnI (fun v_10 => ?_))
        refine goI (rnV C0 (x_small l G t s0 v_10 n0 sw sn sf (by omega) (by omega)) lkX2_31 ⟨by decide, by decide⟩ (hP.sub (ws' := [(s0, .inr (8, [.ref n0, .int sw, .int sn])), (n0, .inl (t 2, 60, .inr (.inl sf)))]) [3, 4] rfl) (hD.sub (ws' := [(s0, .inr (8, [.ref n0, .int sw, .int sn])), (n0, .inl (t 2, 60, .inr (.inl sf)))]) [3, 4] (by decide) rfl) 0 8 rfl rfl rfl rfl hl.1 (rest := [.int r_8, .ref hh]) rfl (Nat.le_of_ble_eq_true rfl) dX2_areSeatsAndBehinds_28 ⟨by decide, by decide⟩) hP hD hS hA [3, 4] [0, 1, 2] (wr := [(cl, .inr (2, [.ref ac, .ref cw])), (ac, .inr (0, [.ref hh, .ref p1, .ref p2, .ref p3, .ref p4])), (hh, .inr (5, [.int hli, .int hro, .int hse, .int hla, .int hpl, .int hex, .long hsi, .ref ha1, .ref ha2, .ref ha3, .ref ha4, .ref ha5, .ref ha6, .ref ha7, .ref ha8, .ref hc]))]) rfl rfl (by decide) (by decide) (fun r_11 u H locs h_12 hP hD hS => ?_)
        have hP : va_P G vwCl [(cl, .inr (2, [.ref ac, .ref cw])), (ac, .inr (0, [.ref hh, .ref p1, .ref p2, .ref p3, .ref p4])), (hh, .inr (5, [.int hli, .int hro, .int hse, .int hla, .int hpl, .int hex, .long hsi, .ref ha1, .ref ha2, .ref ha3, .ref ha4, .ref ha5, .ref ha6, .ref ha7, .ref ha8, .ref hc])), (s0, .inr (8, [.ref n0, .int sw, .int sn])), (n0, .inl (t 2, 60, .inr (.inl sf)))] H := hP
        have hD : va_D A [(cl, .inr (2, [.ref ac, .ref cw])), (ac, .inr (0, [.ref hh, .ref p1, .ref p2, .ref p3, .ref p4])), (hh, .inr (5, [.int hli, .int hro, .int hse, .int hla, .int hpl, .int hex, .long hsi, .ref ha1, .ref ha2, .ref ha3, .ref ha4, .ref ha5, .ref ha6, .ref ha7, .ref ha8, .ref hc])), (s0, .inr (8, [.ref n0, .int sw, .int sn])), (n0, .inl (t 2, 60, .inr (.inl sf)))] := hD
        refine W.widen (k := 0) (n := 0) (Nat.le_of_ble_eq_true rfl) (Nat.le_of_ble_eq_true rfl) ?_
        refine goI (rnV C0 (x_hasSeat l G t hh r_8 r_11 hli hro hse hla hpl hex hsi ha1 ha2 ha3 ha4 ha5 ha6 ha7 ha8 hc (by omega) (by omega) (by omega) (by omega)) lkX2_44 ⟨by decide, by decide⟩ (hP.sub (ws' := [(hh, .inr (5, [.int hli, .int hro, .int hse, .int hla, .int hpl, .int hex, .long hsi, .ref ha1, .ref ha2, .ref ha3, .ref ha4, .ref ha5, .ref ha6, .ref ha7, .ref ha8, .ref hc]))]) [2] rfl) (hD.sub (ws' := [(hh, .inr (5, [.int hli, .int hro, .int hse, .int hla, .int hpl, .int hex, .long hsi, .ref ha1, .ref ha2, .ref ha3, .ref ha4, .ref ha5, .ref ha6, .ref ha7, .ref ha8, .ref hc]))]) [2] (by decide) rfl) 0 5 rfl rfl rfl rfl hl.1 (rest := []) rfl (Nat.le_of_ble_eq_true rfl) dX2_areSeatsAndBehinds_31 ⟨by decide, by decide⟩) hP hD hS hA [2] [0, 1, 3, 4] (wr := [(cl, .inr (2, [.ref ac, .ref cw])), (ac, .inr (0, [.ref hh, .ref p1, .ref p2, .ref p3, .ref p4])), (s0, .inr (8, [.ref n0, .int sw, .int sn])), (n0, .inl (t 2, 60, .inr (.inl sf)))]) rfl rfl (by decide) (by decide) (fun r_13 u H locs h_14 hP hD hS => ?_)
        have h_14 : (r_13.toInt = 0 ∨ (r_13.toInt = 1 ∧ 0 ≤ r_8.toInt ∧ r_8.toInt < hro.toInt ∧ 0 ≤ r_11.toInt ∧ r_11.toInt < hse.toInt)) := h_14
        have b_15 := h_14
        have hP : va_P G vwCl [(cl, .inr (2, [.ref ac, .ref cw])), (ac, .inr (0, [.ref hh, .ref p1, .ref p2, .ref p3, .ref p4])), (s0, .inr (8, [.ref n0, .int sw, .int sn])), (n0, .inl (t 2, 60, .inr (.inl sf))), (hh, .inr (5, [.int hli, .int hro, .int hse, .int hla, .int hpl, .int hex, .long hsi, .ref ha1, .ref ha2, .ref ha3, .ref ha4, .ref ha5, .ref ha6, .ref ha7, .ref ha8, .ref hc]))] H := hP
        have hD : va_D A [(cl, .inr (2, [.ref ac, .ref cw])), (ac, .inr (0, [.ref hh, .ref p1, .ref p2, .ref p3, .ref p4])), (s0, .inr (8, [.ref n0, .int sw, .int sn])), (n0, .inl (t 2, 60, .inr (.inl sf))), (hh, .inr (5, [.int hli, .int hro, .int hse, .int hla, .int hpl, .int hex, .long hsi, .ref ha1, .ref ha2, .ref ha3, .ref ha4, .ref ha5, .ref ha6, .ref ha7, .ref ha8, .ref hc]))] := hD
        refine W.widen (k := 0) (n := 0) (Nat.le_of_ble_eq_true rfl) (Nat.le_of_ble_eq_true rfl) ?_
        refine bF_eq (tgt := 50) hx hb dX2_areSeatsAndBehinds_34 (by decide) r_13.toInt rfl (fun c_16 => ?_) (fun c_16 => ?_)
        · refine lv_iconst (v := 0) hx hb dX2_areSeatsAndBehinds_50 (by decide) ?_
          exact rtZ hx hb hr hlocks hS rfl () (trivial) (hP.sub [0, 1, 4, 2, 3] rfl) (hD.sub [0, 1, 4, 2, 3] (by decide) rfl) dX2_areSeatsAndBehinds_51
        · refine lv_aload_n hx hb dX2_areSeatsAndBehinds_37 rfl (lv_at hl 2 rfl) ?_
          refine lv_iload_n hx hb dX2_areSeatsAndBehinds_38 rfl (lv_at hl 0 rfl) ?_
          refine lv_iconst (v := 2) hx hb dX2_areSeatsAndBehinds_39 (by decide) ?_
          first | refine adZ hx hb dX2_areSeatsAndBehinds_40 g_3.toInt 2 rfl rfl (by have := zrng g_3; omega) (fun v_17 zv_17 => ?_) | refine lv_iadd hx hb dX2_areSeatsAndBehinds_40 (gnI (fun v_17 => ?_))
          refine goI (rnV C0 (x_small l G t s0 v_17 n0 sw sn sf (by omega) (by omega)) lkX2_31 ⟨by decide, by decide⟩ (hP.sub (ws' := [(s0, .inr (8, [.ref n0, .int sw, .int sn])), (n0, .inl (t 2, 60, .inr (.inl sf)))]) [2, 3] rfl) (hD.sub (ws' := [(s0, .inr (8, [.ref n0, .int sw, .int sn])), (n0, .inl (t 2, 60, .inr (.inl sf)))]) [2, 3] (by decide) rfl) 0 8 rfl rfl rfl rfl hl.1 (rest := []) rfl (Nat.le_of_ble_eq_true rfl) dX2_areSeatsAndBehinds_41 ⟨by decide, by decide⟩) hP hD hS hA [2, 3] [0, 1, 4] (wr := [(cl, .inr (2, [.ref ac, .ref cw])), (ac, .inr (0, [.ref hh, .ref p1, .ref p2, .ref p3, .ref p4])), (hh, .inr (5, [.int hli, .int hro, .int hse, .int hla, .int hpl, .int hex, .long hsi, .ref ha1, .ref ha2, .ref ha3, .ref ha4, .ref ha5, .ref ha6, .ref ha7, .ref ha8, .ref hc]))]) rfl rfl (by decide) (by decide) (fun r_18 u H locs h_19 hP hD hS => ?_)
          have hP : va_P G vwCl [(cl, .inr (2, [.ref ac, .ref cw])), (ac, .inr (0, [.ref hh, .ref p1, .ref p2, .ref p3, .ref p4])), (hh, .inr (5, [.int hli, .int hro, .int hse, .int hla, .int hpl, .int hex, .long hsi, .ref ha1, .ref ha2, .ref ha3, .ref ha4, .ref ha5, .ref ha6, .ref ha7, .ref ha8, .ref hc])), (s0, .inr (8, [.ref n0, .int sw, .int sn])), (n0, .inl (t 2, 60, .inr (.inl sf)))] H := hP
          have hD : va_D A [(cl, .inr (2, [.ref ac, .ref cw])), (ac, .inr (0, [.ref hh, .ref p1, .ref p2, .ref p3, .ref p4])), (hh, .inr (5, [.int hli, .int hro, .int hse, .int hla, .int hpl, .int hex, .long hsi, .ref ha1, .ref ha2, .ref ha3, .ref ha4, .ref ha5, .ref ha6, .ref ha7, .ref ha8, .ref hc])), (s0, .inr (8, [.ref n0, .int sw, .int sn])), (n0, .inl (t 2, 60, .inr (.inl sf)))] := hD
          refine W.widen (k := 0) (n := 0) (Nat.le_of_ble_eq_true rfl) (Nat.le_of_ble_eq_true rfl) ?_
          refine goI (rnSN C0 (x_isBehind l G t r_18) lkX2_48 ⟨by decide, by decide⟩ (hP.sub (ws' := []) [] rfl) (hD.sub (ws' := []) [] (by decide) rfl) rfl hl.1 (rest := []) rfl (Nat.le_of_ble_eq_true rfl) dX2_areSeatsAndBehinds_44 ⟨by decide, by decide⟩) hP hD hS hA [] [0, 1, 2, 3, 4] (wr := [(cl, .inr (2, [.ref ac, .ref cw])), (ac, .inr (0, [.ref hh, .ref p1, .ref p2, .ref p3, .ref p4])), (hh, .inr (5, [.int hli, .int hro, .int hse, .int hla, .int hpl, .int hex, .long hsi, .ref ha1, .ref ha2, .ref ha3, .ref ha4, .ref ha5, .ref ha6, .ref ha7, .ref ha8, .ref hc])), (s0, .inr (8, [.ref n0, .int sw, .int sn])), (n0, .inl (t 2, 60, .inr (.inl sf)))]) rfl rfl (by decide) (by decide) (fun r_20 u H locs h_21 hP hD hS => ?_)
          have h_21 : (r_20.toInt = 0 ∨ (r_20.toInt = 1 ∧ 0 ≤ r_18.toInt ∧ r_18.toInt ≤ 4)) := h_21
          have b_22 := h_21
          have hP : va_P G vwCl [(cl, .inr (2, [.ref ac, .ref cw])), (ac, .inr (0, [.ref hh, .ref p1, .ref p2, .ref p3, .ref p4])), (hh, .inr (5, [.int hli, .int hro, .int hse, .int hla, .int hpl, .int hex, .long hsi, .ref ha1, .ref ha2, .ref ha3, .ref ha4, .ref ha5, .ref ha6, .ref ha7, .ref ha8, .ref hc])), (s0, .inr (8, [.ref n0, .int sw, .int sn])), (n0, .inl (t 2, 60, .inr (.inl sf)))] H := hP
          have hD : va_D A [(cl, .inr (2, [.ref ac, .ref cw])), (ac, .inr (0, [.ref hh, .ref p1, .ref p2, .ref p3, .ref p4])), (hh, .inr (5, [.int hli, .int hro, .int hse, .int hla, .int hpl, .int hex, .long hsi, .ref ha1, .ref ha2, .ref ha3, .ref ha4, .ref ha5, .ref ha6, .ref ha7, .ref ha8, .ref hc])), (s0, .inr (8, [.ref n0, .int sw, .int sn])), (n0, .inl (t 2, 60, .inr (.inl sf)))] := hD
          refine W.widen (k := 0) (n := 0) (Nat.le_of_ble_eq_true rfl) (Nat.le_of_ble_eq_true rfl) ?_
          refine bF_ne (tgt := 52) hx hb dX2_areSeatsAndBehinds_47 (by decide) r_20.toInt rfl (fun c_23 => ?_) (fun c_23 => ?_)
          · first | refine incZ hx hb dX2_areSeatsAndBehinds_52 hl (k := 0) rfl g_3.toInt rfl (by have := zrng g_3; omega) (by decide) (fun v_24 zv_24 ls hl => ?_) | refine incU hx hb dX2_areSeatsAndBehinds_52 hl (k := 0) rfl (by decide) (fun v_24 ls hl => ?_)
            have hl : lv_has ls 3 [(2, .int v_24), (0, .ref cl), (1, .ref s0)] := hl
            refine lv_goto (tgt := 2) hx hb dX2_areSeatsAndBehinds_55 (by decide) ?_
            exact ih_2 (Int.toNat (sn.toInt - v_24.toInt)) (by omega) v_24 (by omega) _ _ _ (lv_sub hl [0, 1, 2] rfl) (hP.sub [0, 1, 2, 3, 4] rfl) (hD.sub [0, 1, 2, 3, 4] (by decide) rfl) hS rfl
          · refine lv_iconst (v := 0) hx hb dX2_areSeatsAndBehinds_50 (by decide) ?_
            exact rtZ hx hb hr hlocks hS rfl () (trivial) (hP.sub [0, 1, 2, 3, 4] rfl) (hD.sub [0, 1, 2, 3, 4] (by decide) rfl) dX2_areSeatsAndBehinds_51
  exact LP_5 (Int.toNat (sn.toInt - 0)) 0 (by have : (0 : Int32).toInt = 0 := rfl; omega) _ _ _ (lv_sub hl [0, 1, 2] rfl) (hP.sub [0, 1, 2, 3, 4] rfl) (hD.sub [0, 1, 2, 3, 4] (by decide) rfl) hS rfl

set_option maxHeartbeats 4000000 in
set_option maxRecDepth 100000 in
theorem x_actsSeen (l : Launch) (G : va_G) (t : Nat → ClassId) (cl : Nat) (s0 : Nat) (ac : Nat) (cw : Nat) (hh : Nat) (p1 : Nat) (p2 : Nat) (p3 : Nat) (p4 : Nat) (q1 : Nat → Int32) (n0 : Nat) (sw : Int32) (sn : Int32) (sf : Nat → Int64) (h_sw : 0 ≤ sw.toInt ∧ sw.toInt ≤ 3) (h_sn : (-1) ≤ sn.toInt ∧ sn.toInt ≤ 60) : Ct l G t yX2_actsSeen cX2_actsSeen 6 (some .long) ({ frames := 1, cells := 0, slots := 0, locals := 22 }) [.ref cl, .ref s0] [(cl, .inr (2, [.ref ac, .ref cw])), (ac, .inr (0, [.ref hh, .ref p1, .ref p2, .ref p3, .ref p4])), (p1, .inl (t 1, 420, .inl q1)), (s0, .inr (8, [.ref n0, .int sw, .int sn])), (n0, .inl (t 2, 60, .inr (.inl sf)))] (QL G (fun r (u : Unit) => True) (fun (u : Unit) => [(cl, .inr (2, [.ref ac, .ref cw])), (ac, .inr (0, [.ref hh, .ref p1, .ref p2, .ref p3, .ref p4])), (p1, .inl (t 1, 420, .inl q1)), (s0, .inr (8, [.ref n0, .int sw, .int sn])), (n0, .inl (t 2, 60, .inr (.inl sf)))])) := by
  refine ent (by decide) (Nat.le_of_ble_eq_true rfl) ?_
  intro p e s m args below meth c hx hb hr hml hts hown hlocks hin A hA hK hO hP hD hS ls hl
  have hown : s.vm.findClass RX2 = some m.cls := hown
  have hl : lv_has ls 6 [(0, .ref cl), (1, .ref s0)] := hl
  have C0 : Cx p s m args c cX2_actsSeen 6 RX2 G t := ⟨hx, hb, hml, hown, hts, hK, hO⟩
  refine lv_ldc2 hx hb hown (hts _ tw4_212) dX2_actsSeen_0 ?_
  refine lv_lstore_n (lv' := [(2, .long 1152921504606846975), (0, .ref cl), (1, .ref s0)]) hx hb dX2_actsSeen_3 rfl hl (by decide) rfl (fun ls hl => ?_)
  refine lv_iconst (v := 0) hx hb dX2_actsSeen_4 (by decide) ?_
  refine lv_istore (lv' := [(4, .int 0), (2, .long 1152921504606846975), (0, .ref cl), (1, .ref s0)]) hx hb dX2_actsSeen_5 hl (by decide) rfl (fun ls hl => ?_)
  have LP_7 : ∀ (n : Nat) (g_4 : Int32) (g_6 : Int64) (b_5 : 0 ≤ g_4.toInt) (H : Heap) (locs : List Loc) (ls : Array Slot), lv_has ls 6 [(4, .int g_4), (2, .long g_6), (0, .ref cl), (1, .ref s0)] → va_P G vwCl [(cl, .inr (2, [.ref ac, .ref cw])), (ac, .inr (0, [.ref hh, .ref p1, .ref p2, .ref p3, .ref p4])), (p1, .inl (t 1, 420, .inl q1)), (s0, .inr (8, [.ref n0, .int sw, .int sn])), (n0, .inl (t 2, 60, .inr (.inl sf)))] H → va_D A [(cl, .inr (2, [.ref ac, .ref cw])), (ac, .inr (0, [.ref hh, .ref p1, .ref p2, .ref p3, .ref p4])), (p1, .inl (t 1, 420, .inl q1)), (s0, .inr (8, [.ref n0, .int sw, .int sn])), (n0, .inl (t 2, 60, .inr (.inl sf)))] → va_S A s.heap H locs → Int.toNat (60 - g_4.toInt) = n → W p l e ({ frames := 1, cells := 0, slots := 0, locals := 22 }) s m args below meth c H locs 0 0 (MQ below ((QL G (fun r (u : Unit) => True) (fun (u : Unit) => [(cl, .inr (2, [.ref ac, .ref cw])), (ac, .inr (0, [.ref hh, .ref p1, .ref p2, .ref p3, .ref p4])), (p1, .inl (t 1, 420, .inl q1)), (s0, .inr (8, [.ref n0, .int sw, .int sn])), (n0, .inl (t 2, 60, .inr (.inl sf)))])) A) args s 0 0 A) (F0 m 7 ls []) := by
    intro n
    induction n using Nat.strongRecOn with
    | ind n ih_7 =>
      intro g_4 g_6 b_5 H locs ls hl hP hD hS hmu
      have := zrng g_4
      refine lv_iload hx hb dX2_actsSeen_7 (lv_at hl 0 rfl) ?_
      refine lv_bipush (v := 60) hx hb dX2_actsSeen_9 (by decide) ?_
      refine bI_ge (tgt := 77) hx hb dX2_actsSeen_11 (by decide) g_4.toInt 60 rfl rfl (fun c_8 => ?_) (fun c_8 => ?_)
      · refine lv_lload_n hx hb dX2_actsSeen_77 rfl (lv_at hl 1 rfl) ?_
        exact rtL hx hb hr hlocks hS () (trivial) (hP.sub [0, 1, 2, 3, 4] rfl) (hD.sub [0, 1, 2, 3, 4] (by decide) rfl) dX2_actsSeen_78
      · refine lv_iconst (v := 0) hx hb dX2_actsSeen_14 (by decide) ?_
        refine lv_istore (lv' := [(5, .int 0), (4, .int g_4), (2, .long g_6), (0, .ref cl), (1, .ref s0)]) hx hb dX2_actsSeen_15 hl (by decide) rfl (fun ls hl => ?_)
        have LP_15 : ∀ (n : Nat) (g_12 : Int32) (g_14 : Int64) (b_13 : 0 ≤ g_12.toInt ∧ g_12.toInt ≤ 1000000) (H : Heap) (locs : List Loc) (ls : Array Slot), lv_has ls 6 [(5, .int g_12), (4, .int g_4), (2, .long g_14), (0, .ref cl), (1, .ref s0)] → va_P G vwCl [(cl, .inr (2, [.ref ac, .ref cw])), (ac, .inr (0, [.ref hh, .ref p1, .ref p2, .ref p3, .ref p4])), (p1, .inl (t 1, 420, .inl q1)), (s0, .inr (8, [.ref n0, .int sw, .int sn])), (n0, .inl (t 2, 60, .inr (.inl sf)))] H → va_D A [(cl, .inr (2, [.ref ac, .ref cw])), (ac, .inr (0, [.ref hh, .ref p1, .ref p2, .ref p3, .ref p4])), (p1, .inl (t 1, 420, .inl q1)), (s0, .inr (8, [.ref n0, .int sw, .int sn])), (n0, .inl (t 2, 60, .inr (.inl sf)))] → va_S A s.heap H locs → Int.toNat (sn.toInt - g_12.toInt) = n → W p l e ({ frames := 1, cells := 0, slots := 0, locals := 22 }) s m args below meth c H locs 0 0 (MQ below ((QL G (fun r (u : Unit) => True) (fun (u : Unit) => [(cl, .inr (2, [.ref ac, .ref cw])), (ac, .inr (0, [.ref hh, .ref p1, .ref p2, .ref p3, .ref p4])), (p1, .inl (t 1, 420, .inl q1)), (s0, .inr (8, [.ref n0, .int sw, .int sn])), (n0, .inl (t 2, 60, .inr (.inl sf)))])) A) args s 0 0 A) (F0 m 17 ls []) := by
          intro n
          induction n using Nat.strongRecOn with
          | ind n ih_17 =>
            intro g_12 g_14 b_13 H locs ls hl hP hD hS hmu
            refine lv_iload hx hb dX2_actsSeen_17 (lv_at hl 0 rfl) ?_
            refine lv_iconst (v := 1) hx hb dX2_actsSeen_19 (by decide) ?_
            first | refine adZ hx hb dX2_actsSeen_20 g_12.toInt 1 rfl rfl (by have := zrng g_12; omega) (fun v_16 zv_16 => ?_) | refine lv_iadd hx hb dX2_actsSeen_20 (gnI (fun v_16 => ?_))
            refine lv_aload_n hx hb dX2_actsSeen_21 rfl (lv_at hl 4 rfl) ?_
            refine gf hx hb hts hown hK hP 3 inT8 rfl rfl 2 (by decide) tw1_186 rfl dX2_actsSeen_22 ?_
            refine bI_ge (tgt := 71) hx hb dX2_actsSeen_25 (by decide) v_16.toInt sn.toInt rfl rfl (fun c_17 => ?_) (fun c_17 => ?_)
            · first | refine incZ hx hb dX2_actsSeen_71 hl (k := 1) rfl g_4.toInt rfl (by have := zrng g_4; omega) (by decide) (fun v_18 zv_18 ls hl => ?_) | refine incU hx hb dX2_actsSeen_71 hl (k := 1) rfl (by decide) (fun v_18 ls hl => ?_)
              have hl : lv_has ls 6 [(4, .int v_18), (5, .int g_12), (2, .long g_14), (0, .ref cl), (1, .ref s0)] := hl
              refine lv_goto (tgt := 7) hx hb dX2_actsSeen_74 (by decide) ?_
              exact ih_7 (Int.toNat (60 - v_18.toInt)) (by omega) v_18 g_14 (by omega) _ _ _ (lv_sub hl [0, 2, 3, 4] rfl) (hP.sub [0, 1, 2, 3, 4] rfl) (hD.sub [0, 1, 2, 3, 4] (by decide) rfl) hS rfl
            · refine lv_aload_n hx hb dX2_actsSeen_28 rfl (lv_at hl 3 rfl) ?_
              refine gf hx hb hts hown hK hP 0 inT2 rfl rfl 0 (by decide) tw2_27 rfl dX2_actsSeen_29 ?_
              refine lv_aload_n hx hb dX2_actsSeen_32 rfl (lv_at hl 4 rfl) ?_
              refine lv_iload hx hb dX2_actsSeen_33 (lv_at hl 0 rfl) ?_
              refine goI (rnV C0 (x_small l G t s0 g_12 n0 sw sn sf (by omega) (by omega)) lkX2_31 ⟨by decide, by decide⟩ (hP.sub (ws' := [(s0, .inr (8, [.ref n0, .int sw, .int sn])), (n0, .inl (t 2, 60, .inr (.inl sf)))]) [3, 4] rfl) (hD.sub (ws' := [(s0, .inr (8, [.ref n0, .int sw, .int sn])), (n0, .inl (t 2, 60, .inr (.inl sf)))]) [3, 4] (by decide) rfl) 0 8 rfl rfl rfl rfl hl.1 (rest := [.ref ac]) rfl (Nat.le_of_ble_eq_true rfl) dX2_actsSeen_35 ⟨by decide, by decide⟩) hP hD hS hA [3, 4] [0, 1, 2] (wr := [(cl, .inr (2, [.ref ac, .ref cw])), (ac, .inr (0, [.ref hh, .ref p1, .ref p2, .ref p3, .ref p4])), (p1, .inl (t 1, 420, .inl q1))]) rfl rfl (by decide) (by decide) (fun r_19 u H locs h_20 hP hD hS => ?_)
              have hP : va_P G vwCl [(cl, .inr (2, [.ref ac, .ref cw])), (ac, .inr (0, [.ref hh, .ref p1, .ref p2, .ref p3, .ref p4])), (p1, .inl (t 1, 420, .inl q1)), (s0, .inr (8, [.ref n0, .int sw, .int sn])), (n0, .inl (t 2, 60, .inr (.inl sf)))] H := hP
              have hD : va_D A [(cl, .inr (2, [.ref ac, .ref cw])), (ac, .inr (0, [.ref hh, .ref p1, .ref p2, .ref p3, .ref p4])), (p1, .inl (t 1, 420, .inl q1)), (s0, .inr (8, [.ref n0, .int sw, .int sn])), (n0, .inl (t 2, 60, .inr (.inl sf)))] := hD
              refine W.widen (k := 0) (n := 0) (Nat.le_of_ble_eq_true rfl) (Nat.le_of_ble_eq_true rfl) ?_
              refine lv_iload hx hb dX2_actsSeen_38 (lv_at hl 1 rfl) ?_
              refine goI (rnV C0 (x_placeOf l G t ac r_19 g_4 hh p1 p2 p3 p4 q1) lkX2_53 ⟨by decide, by decide⟩ (hP.sub (ws' := [(ac, .inr (0, [.ref hh, .ref p1, .ref p2, .ref p3, .ref p4])), (p1, .inl (t 1, 420, .inl q1))]) [1, 2] rfl) (hD.sub (ws' := [(ac, .inr (0, [.ref hh, .ref p1, .ref p2, .ref p3, .ref p4])), (p1, .inl (t 1, 420, .inl q1))]) [1, 2] (by decide) rfl) 0 0 rfl rfl rfl rfl hl.1 (rest := []) rfl (Nat.le_of_ble_eq_true rfl) dX2_actsSeen_40 ⟨by decide, by decide⟩) hP hD hS hA [1, 2] [0, 3, 4] (wr := [(cl, .inr (2, [.ref ac, .ref cw])), (s0, .inr (8, [.ref n0, .int sw, .int sn])), (n0, .inl (t 2, 60, .inr (.inl sf)))]) rfl rfl (by decide) (by decide) (fun r_21 u H locs h_22 hP hD hS => ?_)
              have hP : va_P G vwCl [(cl, .inr (2, [.ref ac, .ref cw])), (s0, .inr (8, [.ref n0, .int sw, .int sn])), (n0, .inl (t 2, 60, .inr (.inl sf))), (ac, .inr (0, [.ref hh, .ref p1, .ref p2, .ref p3, .ref p4])), (p1, .inl (t 1, 420, .inl q1))] H := hP
              have hD : va_D A [(cl, .inr (2, [.ref ac, .ref cw])), (s0, .inr (8, [.ref n0, .int sw, .int sn])), (n0, .inl (t 2, 60, .inr (.inl sf))), (ac, .inr (0, [.ref hh, .ref p1, .ref p2, .ref p3, .ref p4])), (p1, .inl (t 1, 420, .inl q1))] := hD
              refine W.widen (k := 0) (n := 0) (Nat.le_of_ble_eq_true rfl) (Nat.le_of_ble_eq_true rfl) ?_
              refine lv_aload_n hx hb dX2_actsSeen_43 rfl (lv_at hl 4 rfl) ?_
              refine lv_iload hx hb dX2_actsSeen_44 (lv_at hl 0 rfl) ?_
              refine lv_iconst (v := 1) hx hb dX2_actsSeen_46 (by decide) ?_
              first | refine adZ hx hb dX2_actsSeen_47 g_12.toInt 1 rfl rfl (by have := zrng g_12; omega) (fun v_23 zv_23 => ?_) | refine lv_iadd hx hb dX2_actsSeen_47 (gnI (fun v_23 => ?_))
              refine goI (rnV C0 (x_small l G t s0 v_23 n0 sw sn sf (by omega) (by omega)) lkX2_31 ⟨by decide, by decide⟩ (hP.sub (ws' := [(s0, .inr (8, [.ref n0, .int sw, .int sn])), (n0, .inl (t 2, 60, .inr (.inl sf)))]) [1, 2] rfl) (hD.sub (ws' := [(s0, .inr (8, [.ref n0, .int sw, .int sn])), (n0, .inl (t 2, 60, .inr (.inl sf)))]) [1, 2] (by decide) rfl) 0 8 rfl rfl rfl rfl hl.1 (rest := [.int r_21]) rfl (Nat.le_of_ble_eq_true rfl) dX2_actsSeen_48 ⟨by decide, by decide⟩) hP hD hS hA [1, 2] [0, 3, 4] (wr := [(cl, .inr (2, [.ref ac, .ref cw])), (ac, .inr (0, [.ref hh, .ref p1, .ref p2, .ref p3, .ref p4])), (p1, .inl (t 1, 420, .inl q1))]) rfl rfl (by decide) (by decide) (fun r_24 u H locs h_25 hP hD hS => ?_)
              have hP : va_P G vwCl [(cl, .inr (2, [.ref ac, .ref cw])), (ac, .inr (0, [.ref hh, .ref p1, .ref p2, .ref p3, .ref p4])), (p1, .inl (t 1, 420, .inl q1)), (s0, .inr (8, [.ref n0, .int sw, .int sn])), (n0, .inl (t 2, 60, .inr (.inl sf)))] H := hP
              have hD : va_D A [(cl, .inr (2, [.ref ac, .ref cw])), (ac, .inr (0, [.ref hh, .ref p1, .ref p2, .ref p3, .ref p4])), (p1, .inl (t 1, 420, .inl q1)), (s0, .inr (8, [.ref n0, .int sw, .int sn])), (n0, .inl (t 2, 60, .inr (.inl sf)))] := hD
              refine W.widen (k := 0) (n := 0) (Nat.le_of_ble_eq_true rfl) (Nat.le_of_ble_eq_true rfl) ?_
              refine bI_eq (tgt := 65) hx hb dX2_actsSeen_51 (by decide) r_21.toInt r_24.toInt rfl rfl (fun c_26 => ?_) (fun c_26 => ?_)
              · first | refine incZ hx hb dX2_actsSeen_65 hl (k := 0) rfl g_12.toInt rfl (by have := zrng g_12; omega) (by decide) (fun v_27 zv_27 ls hl => ?_) | refine incU hx hb dX2_actsSeen_65 hl (k := 0) rfl (by decide) (fun v_27 ls hl => ?_)
                have hl : lv_has ls 6 [(5, .int v_27), (4, .int g_4), (2, .long g_14), (0, .ref cl), (1, .ref s0)] := hl
                refine lv_goto (tgt := 17) hx hb dX2_actsSeen_68 (by decide) ?_
                exact ih_17 (Int.toNat (sn.toInt - v_27.toInt)) (by omega) v_27 g_14 (by omega) _ _ _ (lv_sub hl [0, 1, 2, 3, 4] rfl) (hP.sub [0, 1, 2, 3, 4] rfl) (hD.sub [0, 1, 2, 3, 4] (by decide) rfl) hS rfl
              · refine lv_lload_n hx hb dX2_actsSeen_54 rfl (lv_at hl 2 rfl) ?_
                refine lv_lconst (v := 1) hx hb dX2_actsSeen_55 (by decide) ?_
                refine lv_iload hx hb dX2_actsSeen_56 (lv_at hl 1 rfl) ?_
                refine lv_lshl hx hb dX2_actsSeen_58 rfl (gnL (fun v_28 => ?_))
                refine lv_ldc2 hx hb hown (hts _ tw4_214) dX2_actsSeen_59 ?_
                refine lv_lxor hx hb dX2_actsSeen_62 (gnL (fun v_29 => ?_))
                refine lv_land hx hb dX2_actsSeen_63 (gnL (fun v_30 => ?_))
                refine lv_lstore_n (lv' := [(2, .long v_30), (5, .int g_12), (4, .int g_4), (0, .ref cl), (1, .ref s0)]) hx hb dX2_actsSeen_64 rfl hl (by decide) rfl (fun ls hl => ?_)
                first | refine incZ hx hb dX2_actsSeen_65 hl (k := 1) rfl g_12.toInt rfl (by have := zrng g_12; omega) (by decide) (fun v_31 zv_31 ls hl => ?_) | refine incU hx hb dX2_actsSeen_65 hl (k := 1) rfl (by decide) (fun v_31 ls hl => ?_)
                have hl : lv_has ls 6 [(5, .int v_31), (2, .long v_30), (4, .int g_4), (0, .ref cl), (1, .ref s0)] := hl
                refine lv_goto (tgt := 17) hx hb dX2_actsSeen_68 (by decide) ?_
                exact ih_17 (Int.toNat (sn.toInt - v_31.toInt)) (by omega) v_31 v_30 (by omega) _ _ _ (lv_sub hl [0, 2, 1, 3, 4] rfl) (hP.sub [0, 1, 2, 3, 4] rfl) (hD.sub [0, 1, 2, 3, 4] (by decide) rfl) hS rfl
        exact LP_15 (Int.toNat (sn.toInt - 0)) 0 g_6 (by have : (0 : Int32).toInt = 0 := rfl; omega) _ _ _ (lv_sub hl [0, 1, 2, 3, 4] rfl) (hP.sub [0, 1, 2, 3, 4] rfl) (hD.sub [0, 1, 2, 3, 4] (by decide) rfl) hS rfl
  exact LP_7 (Int.toNat (60 - 0)) 0 1152921504606846975 (by have : (0 : Int32).toInt = 0 := rfl; omega) _ _ _ (lv_sub hl [0, 1, 2, 3] rfl) (hP.sub [0, 1, 2, 3, 4] rfl) (hD.sub [0, 1, 2, 3, 4] (by decide) rfl) hS rfl

set_option maxHeartbeats 4000000 in
set_option maxRecDepth 100000 in
theorem x_actsFell (l : Launch) (G : va_G) (t : Nat → ClassId) (cl : Nat) (s0 : Nat) (ac : Nat) (cw : Nat) (hh : Nat) (p1 : Nat) (p2 : Nat) (p3 : Nat) (p4 : Nat) (q1 : Nat → Int32) (q2 : Nat → Int32) (q3 : Nat → Int32) (q4 : Nat → Int32) (hli : Int32) (hro : Int32) (hse : Int32) (hla : Int32) (hpl : Int32) (hex : Int32) (hsi : Int64) (ha1 : Nat) (ha2 : Nat) (ha3 : Nat) (ha4 : Nat) (ha5 : Nat) (ha6 : Nat) (ha7 : Nat) (ha8 : Nat) (hc : Nat) (hf1 : Nat → Int32) (hf2 : Nat → Int32) (hf3 : Nat → Int32) (n0 : Nat) (sw : Int32) (sn : Int32) (sf : Nat → Int64) (h_hro : 0 ≤ hro.toInt ∧ hro.toInt ≤ 6) (h_hse : 0 ≤ hse.toInt ∧ hse.toInt ≤ 6) (h_hpl : 0 ≤ hpl.toInt ∧ hpl.toInt ≤ 9) (h_hex : 0 ≤ hex.toInt ∧ hex.toInt ≤ 7) (h_hf1 : Rp (fun _ v => 0 ≤ v ∧ v ≤ 5) 9 hf1) (h_hf2 : Rp (fun _ v => 0 ≤ v ∧ v ≤ 5) 9 hf2) (h_sw : 0 ≤ sw.toInt ∧ sw.toInt ≤ 3) (h_sn : (-1) ≤ sn.toInt ∧ sn.toInt ≤ 60) : Ct l G t yX2_actsFell cX2_actsFell 7 (some .long) ({ frames := 5, cells := 0, slots := 0, locals := 119 }) [.ref cl, .ref s0] [(cl, .inr (2, [.ref ac, .ref cw])), (ac, .inr (0, [.ref hh, .ref p1, .ref p2, .ref p3, .ref p4])), (p1, .inl (t 1, 420, .inl q1)), (p2, .inl (t 3, 60, .inl q2)), (p3, .inl (t 1, 2160, .inl q3)), (p4, .inl (t 1, 2160, .inl q4)), (hh, .inr (5, [.int hli, .int hro, .int hse, .int hla, .int hpl, .int hex, .long hsi, .ref ha1, .ref ha2, .ref ha3, .ref ha4, .ref ha5, .ref ha6, .ref ha7, .ref ha8, .ref hc])), (ha1, .inl (t 1, 9, .inl hf1)), (ha2, .inl (t 1, 9, .inl hf2)), (ha3, .inl (t 1, 9, .inl hf3)), (s0, .inr (8, [.ref n0, .int sw, .int sn])), (n0, .inl (t 2, 60, .inr (.inl sf)))] (QL G (fun r (u : (Nat → Int32) × (Nat → Int32) × (Nat → Int32)) => True) (fun (u : (Nat → Int32) × (Nat → Int32) × (Nat → Int32)) => [(cl, .inr (2, [.ref ac, .ref cw])), (ac, .inr (0, [.ref hh, .ref p1, .ref p2, .ref p3, .ref p4])), (p1, .inl (t 1, 420, .inl q1)), (p2, .inl (t 3, 60, .inl u.1)), (p3, .inl (t 1, 2160, .inl u.2.1)), (p4, .inl (t 1, 2160, .inl u.2.2)), (hh, .inr (5, [.int hli, .int hro, .int hse, .int hla, .int hpl, .int hex, .long hsi, .ref ha1, .ref ha2, .ref ha3, .ref ha4, .ref ha5, .ref ha6, .ref ha7, .ref ha8, .ref hc])), (ha1, .inl (t 1, 9, .inl hf1)), (ha2, .inl (t 1, 9, .inl hf2)), (ha3, .inl (t 1, 9, .inl hf3)), (s0, .inr (8, [.ref n0, .int sw, .int sn])), (n0, .inl (t 2, 60, .inr (.inl sf)))])) := by
  refine ent (by decide) (Nat.le_of_ble_eq_true rfl) ?_
  intro p e s m args below meth c hx hb hr hml hts hown hlocks hin A hA hK hO hP hD hS ls hl
  have hown : s.vm.findClass RX2 = some m.cls := hown
  have hl : lv_has ls 7 [(0, .ref cl), (1, .ref s0)] := hl
  have C0 : Cx p s m args c cX2_actsFell 7 RX2 G t := ⟨hx, hb, hml, hown, hts, hK, hO⟩
  refine lv_ldc2 hx hb hown (hts _ tw4_212) dX2_actsFell_0 ?_
  refine lv_lstore_n (lv' := [(2, .long 1152921504606846975), (0, .ref cl), (1, .ref s0)]) hx hb dX2_actsFell_3 rfl hl (by decide) rfl (fun ls hl => ?_)
  refine lv_iconst (v := 0) hx hb dX2_actsFell_4 (by decide) ?_
  refine lv_istore (lv' := [(4, .int 0), (2, .long 1152921504606846975), (0, .ref cl), (1, .ref s0)]) hx hb dX2_actsFell_5 hl (by decide) rfl (fun ls hl => ?_)
  have LP_13 : ∀ (n : Nat) (g_7 : Int32) (g_9 : Int64) (f_10 : Nat → Int32) (f_11 : Nat → Int32) (f_12 : Nat → Int32) (b_8 : 0 ≤ g_7.toInt) (H : Heap) (locs : List Loc) (ls : Array Slot), lv_has ls 7 [(4, .int g_7), (2, .long g_9), (0, .ref cl), (1, .ref s0)] → va_P G vwCl [(cl, .inr (2, [.ref ac, .ref cw])), (ac, .inr (0, [.ref hh, .ref p1, .ref p2, .ref p3, .ref p4])), (p1, .inl (t 1, 420, .inl q1)), (p2, .inl (t 3, 60, .inl f_10)), (p3, .inl (t 1, 2160, .inl f_11)), (p4, .inl (t 1, 2160, .inl f_12)), (hh, .inr (5, [.int hli, .int hro, .int hse, .int hla, .int hpl, .int hex, .long hsi, .ref ha1, .ref ha2, .ref ha3, .ref ha4, .ref ha5, .ref ha6, .ref ha7, .ref ha8, .ref hc])), (ha1, .inl (t 1, 9, .inl hf1)), (ha2, .inl (t 1, 9, .inl hf2)), (ha3, .inl (t 1, 9, .inl hf3)), (s0, .inr (8, [.ref n0, .int sw, .int sn])), (n0, .inl (t 2, 60, .inr (.inl sf)))] H → va_D A [(cl, .inr (2, [.ref ac, .ref cw])), (ac, .inr (0, [.ref hh, .ref p1, .ref p2, .ref p3, .ref p4])), (p1, .inl (t 1, 420, .inl q1)), (p2, .inl (t 3, 60, .inl f_10)), (p3, .inl (t 1, 2160, .inl f_11)), (p4, .inl (t 1, 2160, .inl f_12)), (hh, .inr (5, [.int hli, .int hro, .int hse, .int hla, .int hpl, .int hex, .long hsi, .ref ha1, .ref ha2, .ref ha3, .ref ha4, .ref ha5, .ref ha6, .ref ha7, .ref ha8, .ref hc])), (ha1, .inl (t 1, 9, .inl hf1)), (ha2, .inl (t 1, 9, .inl hf2)), (ha3, .inl (t 1, 9, .inl hf3)), (s0, .inr (8, [.ref n0, .int sw, .int sn])), (n0, .inl (t 2, 60, .inr (.inl sf)))] → va_S A s.heap H locs → Int.toNat (60 - g_7.toInt) = n → W p l e ({ frames := 5, cells := 0, slots := 0, locals := 119 }) s m args below meth c H locs 0 0 (MQ below ((QL G (fun r (u : (Nat → Int32) × (Nat → Int32) × (Nat → Int32)) => True) (fun (u : (Nat → Int32) × (Nat → Int32) × (Nat → Int32)) => [(cl, .inr (2, [.ref ac, .ref cw])), (ac, .inr (0, [.ref hh, .ref p1, .ref p2, .ref p3, .ref p4])), (p1, .inl (t 1, 420, .inl q1)), (p2, .inl (t 3, 60, .inl u.1)), (p3, .inl (t 1, 2160, .inl u.2.1)), (p4, .inl (t 1, 2160, .inl u.2.2)), (hh, .inr (5, [.int hli, .int hro, .int hse, .int hla, .int hpl, .int hex, .long hsi, .ref ha1, .ref ha2, .ref ha3, .ref ha4, .ref ha5, .ref ha6, .ref ha7, .ref ha8, .ref hc])), (ha1, .inl (t 1, 9, .inl hf1)), (ha2, .inl (t 1, 9, .inl hf2)), (ha3, .inl (t 1, 9, .inl hf3)), (s0, .inr (8, [.ref n0, .int sw, .int sn])), (n0, .inl (t 2, 60, .inr (.inl sf)))])) A) args s 0 0 A) (F0 m 7 ls []) := by
    intro n
    induction n using Nat.strongRecOn with
    | ind n ih_7 =>
      intro g_7 g_9 f_10 f_11 f_12 b_8 H locs ls hl hP hD hS hmu
      have := zrng g_7
      refine lv_iload hx hb dX2_actsFell_7 (lv_at hl 0 rfl) ?_
      refine lv_bipush (v := 60) hx hb dX2_actsFell_9 (by decide) ?_
      refine bI_ge (tgt := 92) hx hb dX2_actsFell_11 (by decide) g_7.toInt 60 rfl rfl (fun c_14 => ?_) (fun c_14 => ?_)
      · refine lv_lload_n hx hb dX2_actsFell_92 rfl (lv_at hl 1 rfl) ?_
        exact rtL hx hb hr hlocks hS (f_10, f_11, f_12) (trivial) (hP.sub [0, 1, 2, 3, 4, 5, 6, 7, 8, 9, 10, 11] rfl) (hD.sub [0, 1, 2, 3, 4, 5, 6, 7, 8, 9, 10, 11] (by decide) rfl) dX2_actsFell_93
      · refine lv_iconst (v := 0) hx hb dX2_actsFell_14 (by decide) ?_
        refine lv_istore (lv' := [(5, .int 0), (4, .int g_7), (2, .long g_9), (0, .ref cl), (1, .ref s0)]) hx hb dX2_actsFell_15 hl (by decide) rfl (fun ls hl => ?_)
        have LP_27 : ∀ (n : Nat) (g_21 : Int32) (g_23 : Int64) (f_24 : Nat → Int32) (f_25 : Nat → Int32) (f_26 : Nat → Int32) (b_22 : 0 ≤ g_21.toInt ∧ g_21.toInt ≤ 1000000) (H : Heap) (locs : List Loc) (ls : Array Slot), lv_has ls 7 [(5, .int g_21), (4, .int g_7), (2, .long g_23), (0, .ref cl), (1, .ref s0)] → va_P G vwCl [(cl, .inr (2, [.ref ac, .ref cw])), (ac, .inr (0, [.ref hh, .ref p1, .ref p2, .ref p3, .ref p4])), (p1, .inl (t 1, 420, .inl q1)), (p2, .inl (t 3, 60, .inl f_24)), (p3, .inl (t 1, 2160, .inl f_25)), (p4, .inl (t 1, 2160, .inl f_26)), (hh, .inr (5, [.int hli, .int hro, .int hse, .int hla, .int hpl, .int hex, .long hsi, .ref ha1, .ref ha2, .ref ha3, .ref ha4, .ref ha5, .ref ha6, .ref ha7, .ref ha8, .ref hc])), (ha1, .inl (t 1, 9, .inl hf1)), (ha2, .inl (t 1, 9, .inl hf2)), (ha3, .inl (t 1, 9, .inl hf3)), (s0, .inr (8, [.ref n0, .int sw, .int sn])), (n0, .inl (t 2, 60, .inr (.inl sf)))] H → va_D A [(cl, .inr (2, [.ref ac, .ref cw])), (ac, .inr (0, [.ref hh, .ref p1, .ref p2, .ref p3, .ref p4])), (p1, .inl (t 1, 420, .inl q1)), (p2, .inl (t 3, 60, .inl f_24)), (p3, .inl (t 1, 2160, .inl f_25)), (p4, .inl (t 1, 2160, .inl f_26)), (hh, .inr (5, [.int hli, .int hro, .int hse, .int hla, .int hpl, .int hex, .long hsi, .ref ha1, .ref ha2, .ref ha3, .ref ha4, .ref ha5, .ref ha6, .ref ha7, .ref ha8, .ref hc])), (ha1, .inl (t 1, 9, .inl hf1)), (ha2, .inl (t 1, 9, .inl hf2)), (ha3, .inl (t 1, 9, .inl hf3)), (s0, .inr (8, [.ref n0, .int sw, .int sn])), (n0, .inl (t 2, 60, .inr (.inl sf)))] → va_S A s.heap H locs → Int.toNat (sn.toInt - g_21.toInt) = n → W p l e ({ frames := 5, cells := 0, slots := 0, locals := 119 }) s m args below meth c H locs 0 0 (MQ below ((QL G (fun r (u : (Nat → Int32) × (Nat → Int32) × (Nat → Int32)) => True) (fun (u : (Nat → Int32) × (Nat → Int32) × (Nat → Int32)) => [(cl, .inr (2, [.ref ac, .ref cw])), (ac, .inr (0, [.ref hh, .ref p1, .ref p2, .ref p3, .ref p4])), (p1, .inl (t 1, 420, .inl q1)), (p2, .inl (t 3, 60, .inl u.1)), (p3, .inl (t 1, 2160, .inl u.2.1)), (p4, .inl (t 1, 2160, .inl u.2.2)), (hh, .inr (5, [.int hli, .int hro, .int hse, .int hla, .int hpl, .int hex, .long hsi, .ref ha1, .ref ha2, .ref ha3, .ref ha4, .ref ha5, .ref ha6, .ref ha7, .ref ha8, .ref hc])), (ha1, .inl (t 1, 9, .inl hf1)), (ha2, .inl (t 1, 9, .inl hf2)), (ha3, .inl (t 1, 9, .inl hf3)), (s0, .inr (8, [.ref n0, .int sw, .int sn])), (n0, .inl (t 2, 60, .inr (.inl sf)))])) A) args s 0 0 A) (F0 m 17 ls []) := by
          intro n
          induction n using Nat.strongRecOn with
          | ind n ih_17 =>
            intro g_21 g_23 f_24 f_25 f_26 b_22 H locs ls hl hP hD hS hmu
            refine lv_iload hx hb dX2_actsFell_17 (lv_at hl 0 rfl) ?_
            refine lv_iconst (v := 2) hx hb dX2_actsFell_19 (by decide) ?_
            first | refine adZ hx hb dX2_actsFell_20 g_21.toInt 2 rfl rfl (by have := zrng g_21; omega) (fun v_28 zv_28 => ?_) | refine lv_iadd hx hb dX2_actsFell_20 (gnI (fun v_28 => ?_))
            refine lv_aload_n hx hb dX2_actsFell_21 rfl (lv_at hl 4 rfl) ?_
            refine gf hx hb hts hown hK hP 10 inT8 rfl rfl 2 (by decide) tw1_186 rfl dX2_actsFell_22 ?_
            refine bI_ge (tgt := 86) hx hb dX2_actsFell_25 (by decide) v_28.toInt sn.toInt rfl rfl (fun c_29 => ?_) (fun c_29 => ?_)
            · first | refine incZ hx hb dX2_actsFell_86 hl (k := 1) rfl g_7.toInt rfl (by have := zrng g_7; omega) (by decide) (fun v_30 zv_30 ls hl => ?_) | refine incU hx hb dX2_actsFell_86 hl (k := 1) rfl (by decide) (fun v_30 ls hl => ?_)
              have hl : lv_has ls 7 [(4, .int v_30), (5, .int g_21), (2, .long g_23), (0, .ref cl), (1, .ref s0)] := hl
              refine lv_goto (tgt := 7) hx hb dX2_actsFell_89 (by decide) ?_
              exact ih_7 (Int.toNat (60 - v_30.toInt)) (by omega) v_30 g_23 f_24 f_25 f_26 (by omega) _ _ _ (lv_sub hl [0, 2, 3, 4] rfl) (hP.sub [0, 1, 2, 3, 4, 5, 6, 7, 8, 9, 10, 11] rfl) (hD.sub [0, 1, 2, 3, 4, 5, 6, 7, 8, 9, 10, 11] (by decide) rfl) hS rfl
            · refine lv_aload_n hx hb dX2_actsFell_28 rfl (lv_at hl 4 rfl) ?_
              refine lv_iload hx hb dX2_actsFell_29 (lv_at hl 0 rfl) ?_
              refine goI (rnV C0 (x_small l G t s0 g_21 n0 sw sn sf (by omega) (by omega)) lkX2_31 ⟨by decide, by decide⟩ (hP.sub (ws' := [(s0, .inr (8, [.ref n0, .int sw, .int sn])), (n0, .inl (t 2, 60, .inr (.inl sf)))]) [10, 11] rfl) (hD.sub (ws' := [(s0, .inr (8, [.ref n0, .int sw, .int sn])), (n0, .inl (t 2, 60, .inr (.inl sf)))]) [10, 11] (by decide) rfl) 0 8 rfl rfl rfl rfl hl.1 (rest := []) rfl (Nat.le_of_ble_eq_true rfl) dX2_actsFell_31 ⟨by decide, by decide⟩) hP hD hS hA [10, 11] [0, 1, 2, 3, 4, 5, 6, 7, 8, 9] (wr := [(cl, .inr (2, [.ref ac, .ref cw])), (ac, .inr (0, [.ref hh, .ref p1, .ref p2, .ref p3, .ref p4])), (p1, .inl (t 1, 420, .inl q1)), (p2, .inl (t 3, 60, .inl f_24)), (p3, .inl (t 1, 2160, .inl f_25)), (p4, .inl (t 1, 2160, .inl f_26)), (hh, .inr (5, [.int hli, .int hro, .int hse, .int hla, .int hpl, .int hex, .long hsi, .ref ha1, .ref ha2, .ref ha3, .ref ha4, .ref ha5, .ref ha6, .ref ha7, .ref ha8, .ref hc])), (ha1, .inl (t 1, 9, .inl hf1)), (ha2, .inl (t 1, 9, .inl hf2)), (ha3, .inl (t 1, 9, .inl hf3))]) rfl rfl (by decide) (by decide) (fun r_31 u H locs h_32 hP hD hS => ?_)
              have hP : va_P G vwCl [(cl, .inr (2, [.ref ac, .ref cw])), (ac, .inr (0, [.ref hh, .ref p1, .ref p2, .ref p3, .ref p4])), (p1, .inl (t 1, 420, .inl q1)), (p2, .inl (t 3, 60, .inl f_24)), (p3, .inl (t 1, 2160, .inl f_25)), (p4, .inl (t 1, 2160, .inl f_26)), (hh, .inr (5, [.int hli, .int hro, .int hse, .int hla, .int hpl, .int hex, .long hsi, .ref ha1, .ref ha2, .ref ha3, .ref ha4, .ref ha5, .ref ha6, .ref ha7, .ref ha8, .ref hc])), (ha1, .inl (t 1, 9, .inl hf1)), (ha2, .inl (t 1, 9, .inl hf2)), (ha3, .inl (t 1, 9, .inl hf3)), (s0, .inr (8, [.ref n0, .int sw, .int sn])), (n0, .inl (t 2, 60, .inr (.inl sf)))] H := hP
              have hD : va_D A [(cl, .inr (2, [.ref ac, .ref cw])), (ac, .inr (0, [.ref hh, .ref p1, .ref p2, .ref p3, .ref p4])), (p1, .inl (t 1, 420, .inl q1)), (p2, .inl (t 3, 60, .inl f_24)), (p3, .inl (t 1, 2160, .inl f_25)), (p4, .inl (t 1, 2160, .inl f_26)), (hh, .inr (5, [.int hli, .int hro, .int hse, .int hla, .int hpl, .int hex, .long hsi, .ref ha1, .ref ha2, .ref ha3, .ref ha4, .ref ha5, .ref ha6, .ref ha7, .ref ha8, .ref hc])), (ha1, .inl (t 1, 9, .inl hf1)), (ha2, .inl (t 1, 9, .inl hf2)), (ha3, .inl (t 1, 9, .inl hf3)), (s0, .inr (8, [.ref n0, .int sw, .int sn])), (n0, .inl (t 2, 60, .inr (.inl sf)))] := hD
              refine W.widen (k := 0) (n := 0) (Nat.le_of_ble_eq_true rfl) (Nat.le_of_ble_eq_true rfl) ?_
              refine lv_aload_n hx hb dX2_actsFell_34 rfl (lv_at hl 4 rfl) ?_
              refine lv_iload hx hb dX2_actsFell_35 (lv_at hl 0 rfl) ?_
              refine lv_iconst (v := 1) hx hb dX2_actsFell_37 (by decide) ?_
              first | refine adZ hx hb dX2_actsFell_38 g_21.toInt 1 rfl rfl (by have := zrng g_21; omega) (fun v_33 zv_33 => ?_) | refine lv_iadd hx hb dX2_actsFell_38 (gnI (fun v_33 => ?_))
              refine goI (rnV C0 (x_small l G t s0 v_33 n0 sw sn sf (by omega) (by omega)) lkX2_31 ⟨by decide, by decide⟩ (hP.sub (ws' := [(s0, .inr (8, [.ref n0, .int sw, .int sn])), (n0, .inl (t 2, 60, .inr (.inl sf)))]) [10, 11] rfl) (hD.sub (ws' := [(s0, .inr (8, [.ref n0, .int sw, .int sn])), (n0, .inl (t 2, 60, .inr (.inl sf)))]) [10, 11] (by decide) rfl) 0 8 rfl rfl rfl rfl hl.1 (rest := [.int r_31]) rfl (Nat.le_of_ble_eq_true rfl) dX2_actsFell_39 ⟨by decide, by decide⟩) hP hD hS hA [10, 11] [0, 1, 2, 3, 4, 5, 6, 7, 8, 9] (wr := [(cl, .inr (2, [.ref ac, .ref cw])), (ac, .inr (0, [.ref hh, .ref p1, .ref p2, .ref p3, .ref p4])), (p1, .inl (t 1, 420, .inl q1)), (p2, .inl (t 3, 60, .inl f_24)), (p3, .inl (t 1, 2160, .inl f_25)), (p4, .inl (t 1, 2160, .inl f_26)), (hh, .inr (5, [.int hli, .int hro, .int hse, .int hla, .int hpl, .int hex, .long hsi, .ref ha1, .ref ha2, .ref ha3, .ref ha4, .ref ha5, .ref ha6, .ref ha7, .ref ha8, .ref hc])), (ha1, .inl (t 1, 9, .inl hf1)), (ha2, .inl (t 1, 9, .inl hf2)), (ha3, .inl (t 1, 9, .inl hf3))]) rfl rfl (by decide) (by decide) (fun r_34 u H locs h_35 hP hD hS => ?_)
              have hP : va_P G vwCl [(cl, .inr (2, [.ref ac, .ref cw])), (ac, .inr (0, [.ref hh, .ref p1, .ref p2, .ref p3, .ref p4])), (p1, .inl (t 1, 420, .inl q1)), (p2, .inl (t 3, 60, .inl f_24)), (p3, .inl (t 1, 2160, .inl f_25)), (p4, .inl (t 1, 2160, .inl f_26)), (hh, .inr (5, [.int hli, .int hro, .int hse, .int hla, .int hpl, .int hex, .long hsi, .ref ha1, .ref ha2, .ref ha3, .ref ha4, .ref ha5, .ref ha6, .ref ha7, .ref ha8, .ref hc])), (ha1, .inl (t 1, 9, .inl hf1)), (ha2, .inl (t 1, 9, .inl hf2)), (ha3, .inl (t 1, 9, .inl hf3)), (s0, .inr (8, [.ref n0, .int sw, .int sn])), (n0, .inl (t 2, 60, .inr (.inl sf)))] H := hP
              have hD : va_D A [(cl, .inr (2, [.ref ac, .ref cw])), (ac, .inr (0, [.ref hh, .ref p1, .ref p2, .ref p3, .ref p4])), (p1, .inl (t 1, 420, .inl q1)), (p2, .inl (t 3, 60, .inl f_24)), (p3, .inl (t 1, 2160, .inl f_25)), (p4, .inl (t 1, 2160, .inl f_26)), (hh, .inr (5, [.int hli, .int hro, .int hse, .int hla, .int hpl, .int hex, .long hsi, .ref ha1, .ref ha2, .ref ha3, .ref ha4, .ref ha5, .ref ha6, .ref ha7, .ref ha8, .ref hc])), (ha1, .inl (t 1, 9, .inl hf1)), (ha2, .inl (t 1, 9, .inl hf2)), (ha3, .inl (t 1, 9, .inl hf3)), (s0, .inr (8, [.ref n0, .int sw, .int sn])), (n0, .inl (t 2, 60, .inr (.inl sf)))] := hD
              refine W.widen (k := 0) (n := 0) (Nat.le_of_ble_eq_true rfl) (Nat.le_of_ble_eq_true rfl) ?_
              refine goI (rnSN C0 (x_spotOf l G t r_31 r_34) lkX2_59 ⟨by decide, by decide⟩ (hP.sub (ws' := []) [] rfl) (hD.sub (ws' := []) [] (by decide) rfl) rfl hl.1 (rest := []) rfl (Nat.le_of_ble_eq_true rfl) dX2_actsFell_42 ⟨by decide, by decide⟩) hP hD hS hA [] [0, 1, 2, 3, 4, 5, 6, 7, 8, 9, 10, 11] (wr := [(cl, .inr (2, [.ref ac, .ref cw])), (ac, .inr (0, [.ref hh, .ref p1, .ref p2, .ref p3, .ref p4])), (p1, .inl (t 1, 420, .inl q1)), (p2, .inl (t 3, 60, .inl f_24)), (p3, .inl (t 1, 2160, .inl f_25)), (p4, .inl (t 1, 2160, .inl f_26)), (hh, .inr (5, [.int hli, .int hro, .int hse, .int hla, .int hpl, .int hex, .long hsi, .ref ha1, .ref ha2, .ref ha3, .ref ha4, .ref ha5, .ref ha6, .ref ha7, .ref ha8, .ref hc])), (ha1, .inl (t 1, 9, .inl hf1)), (ha2, .inl (t 1, 9, .inl hf2)), (ha3, .inl (t 1, 9, .inl hf3)), (s0, .inr (8, [.ref n0, .int sw, .int sn])), (n0, .inl (t 2, 60, .inr (.inl sf)))]) rfl rfl (by decide) (by decide) (fun r_36 u H locs h_37 hP hD hS => ?_)
              have hP : va_P G vwCl [(cl, .inr (2, [.ref ac, .ref cw])), (ac, .inr (0, [.ref hh, .ref p1, .ref p2, .ref p3, .ref p4])), (p1, .inl (t 1, 420, .inl q1)), (p2, .inl (t 3, 60, .inl f_24)), (p3, .inl (t 1, 2160, .inl f_25)), (p4, .inl (t 1, 2160, .inl f_26)), (hh, .inr (5, [.int hli, .int hro, .int hse, .int hla, .int hpl, .int hex, .long hsi, .ref ha1, .ref ha2, .ref ha3, .ref ha4, .ref ha5, .ref ha6, .ref ha7, .ref ha8, .ref hc])), (ha1, .inl (t 1, 9, .inl hf1)), (ha2, .inl (t 1, 9, .inl hf2)), (ha3, .inl (t 1, 9, .inl hf3)), (s0, .inr (8, [.ref n0, .int sw, .int sn])), (n0, .inl (t 2, 60, .inr (.inl sf)))] H := hP
              have hD : va_D A [(cl, .inr (2, [.ref ac, .ref cw])), (ac, .inr (0, [.ref hh, .ref p1, .ref p2, .ref p3, .ref p4])), (p1, .inl (t 1, 420, .inl q1)), (p2, .inl (t 3, 60, .inl f_24)), (p3, .inl (t 1, 2160, .inl f_25)), (p4, .inl (t 1, 2160, .inl f_26)), (hh, .inr (5, [.int hli, .int hro, .int hse, .int hla, .int hpl, .int hex, .long hsi, .ref ha1, .ref ha2, .ref ha3, .ref ha4, .ref ha5, .ref ha6, .ref ha7, .ref ha8, .ref hc])), (ha1, .inl (t 1, 9, .inl hf1)), (ha2, .inl (t 1, 9, .inl hf2)), (ha3, .inl (t 1, 9, .inl hf3)), (s0, .inr (8, [.ref n0, .int sw, .int sn])), (n0, .inl (t 2, 60, .inr (.inl sf)))] := hD
              refine W.widen (k := 0) (n := 0) (Nat.le_of_ble_eq_true rfl) (Nat.le_of_ble_eq_true rfl) ?_
              refine lv_istore (lv' := [(6, .int r_36), (5, .int g_21), (4, .int g_7), (2, .long g_23), (0, .ref cl), (1, .ref s0)]) hx hb dX2_actsFell_45 hl (by decide) rfl (fun ls hl => ?_)
              refine lv_aload_n hx hb dX2_actsFell_47 rfl (lv_at hl 4 rfl) ?_
              refine gf hx hb hts hown hK hP 0 inT2 rfl rfl 0 (by decide) tw2_27 rfl dX2_actsFell_48 ?_
              refine lv_iload hx hb dX2_actsFell_51 (lv_at hl 0 rfl) ?_
              refine lv_iload hx hb dX2_actsFell_53 (lv_at hl 2 rfl) ?_
              refine goI (rnV C0 (x_fallsTo l G t ac r_36 g_7 hh p1 p2 p3 p4 q1 f_24 f_25 f_26 hli hro hse hla hpl hex hsi ha1 ha2 ha3 ha4 ha5 ha6 ha7 ha8 hc hf1 hf2 hf3 (by omega) (by omega) (by omega) (by omega) h_hf1 h_hf2) lkX2_62 ⟨by decide, by decide⟩ (hP.sub (ws' := [(ac, .inr (0, [.ref hh, .ref p1, .ref p2, .ref p3, .ref p4])), (p1, .inl (t 1, 420, .inl q1)), (p2, .inl (t 3, 60, .inl f_24)), (p3, .inl (t 1, 2160, .inl f_25)), (p4, .inl (t 1, 2160, .inl f_26)), (hh, .inr (5, [.int hli, .int hro, .int hse, .int hla, .int hpl, .int hex, .long hsi, .ref ha1, .ref ha2, .ref ha3, .ref ha4, .ref ha5, .ref ha6, .ref ha7, .ref ha8, .ref hc])), (ha1, .inl (t 1, 9, .inl hf1)), (ha2, .inl (t 1, 9, .inl hf2)), (ha3, .inl (t 1, 9, .inl hf3))]) [1, 2, 3, 4, 5, 6, 7, 8, 9] rfl) (hD.sub (ws' := [(ac, .inr (0, [.ref hh, .ref p1, .ref p2, .ref p3, .ref p4])), (p1, .inl (t 1, 420, .inl q1)), (p2, .inl (t 3, 60, .inl f_24)), (p3, .inl (t 1, 2160, .inl f_25)), (p4, .inl (t 1, 2160, .inl f_26)), (hh, .inr (5, [.int hli, .int hro, .int hse, .int hla, .int hpl, .int hex, .long hsi, .ref ha1, .ref ha2, .ref ha3, .ref ha4, .ref ha5, .ref ha6, .ref ha7, .ref ha8, .ref hc])), (ha1, .inl (t 1, 9, .inl hf1)), (ha2, .inl (t 1, 9, .inl hf2)), (ha3, .inl (t 1, 9, .inl hf3))]) [1, 2, 3, 4, 5, 6, 7, 8, 9] (by decide) rfl) 0 0 rfl rfl rfl rfl hl.1 (rest := []) rfl (Nat.le_of_ble_eq_true rfl) dX2_actsFell_55 ⟨by decide, by decide⟩) hP hD hS hA [1, 2, 3, 4, 5, 6, 7, 8, 9] [0, 10, 11] (wr := [(cl, .inr (2, [.ref ac, .ref cw])), (s0, .inr (8, [.ref n0, .int sw, .int sn])), (n0, .inl (t 2, 60, .inr (.inl sf)))]) rfl rfl (by decide) (by decide) (fun r_41 u H locs h_42 hP hD hS => ?_)
              obtain ⟨u_38, u_39, u_40⟩ := u
              have hP : va_P G vwCl [(cl, .inr (2, [.ref ac, .ref cw])), (s0, .inr (8, [.ref n0, .int sw, .int sn])), (n0, .inl (t 2, 60, .inr (.inl sf))), (ac, .inr (0, [.ref hh, .ref p1, .ref p2, .ref p3, .ref p4])), (p1, .inl (t 1, 420, .inl q1)), (p2, .inl (t 3, 60, .inl u_38)), (p3, .inl (t 1, 2160, .inl u_39)), (p4, .inl (t 1, 2160, .inl u_40)), (hh, .inr (5, [.int hli, .int hro, .int hse, .int hla, .int hpl, .int hex, .long hsi, .ref ha1, .ref ha2, .ref ha3, .ref ha4, .ref ha5, .ref ha6, .ref ha7, .ref ha8, .ref hc])), (ha1, .inl (t 1, 9, .inl hf1)), (ha2, .inl (t 1, 9, .inl hf2)), (ha3, .inl (t 1, 9, .inl hf3))] H := hP
              have hD : va_D A [(cl, .inr (2, [.ref ac, .ref cw])), (s0, .inr (8, [.ref n0, .int sw, .int sn])), (n0, .inl (t 2, 60, .inr (.inl sf))), (ac, .inr (0, [.ref hh, .ref p1, .ref p2, .ref p3, .ref p4])), (p1, .inl (t 1, 420, .inl q1)), (p2, .inl (t 3, 60, .inl u_38)), (p3, .inl (t 1, 2160, .inl u_39)), (p4, .inl (t 1, 2160, .inl u_40)), (hh, .inr (5, [.int hli, .int hro, .int hse, .int hla, .int hpl, .int hex, .long hsi, .ref ha1, .ref ha2, .ref ha3, .ref ha4, .ref ha5, .ref ha6, .ref ha7, .ref ha8, .ref hc])), (ha1, .inl (t 1, 9, .inl hf1)), (ha2, .inl (t 1, 9, .inl hf2)), (ha3, .inl (t 1, 9, .inl hf3))] := hD
              refine W.widen (k := 0) (n := 0) (Nat.le_of_ble_eq_true rfl) (Nat.le_of_ble_eq_true rfl) ?_
              refine lv_aload_n hx hb dX2_actsFell_58 rfl (lv_at hl 5 rfl) ?_
              refine lv_iload hx hb dX2_actsFell_59 (lv_at hl 1 rfl) ?_
              refine lv_iconst (v := 2) hx hb dX2_actsFell_61 (by decide) ?_
              first | refine adZ hx hb dX2_actsFell_62 g_21.toInt 2 rfl rfl (by have := zrng g_21; omega) (fun v_43 zv_43 => ?_) | refine lv_iadd hx hb dX2_actsFell_62 (gnI (fun v_43 => ?_))
              refine goI (rnV C0 (x_small l G t s0 v_43 n0 sw sn sf (by omega) (by omega)) lkX2_31 ⟨by decide, by decide⟩ (hP.sub (ws' := [(s0, .inr (8, [.ref n0, .int sw, .int sn])), (n0, .inl (t 2, 60, .inr (.inl sf)))]) [1, 2] rfl) (hD.sub (ws' := [(s0, .inr (8, [.ref n0, .int sw, .int sn])), (n0, .inl (t 2, 60, .inr (.inl sf)))]) [1, 2] (by decide) rfl) 0 8 rfl rfl rfl rfl hl.1 (rest := [.int r_41]) rfl (Nat.le_of_ble_eq_true rfl) dX2_actsFell_63 ⟨by decide, by decide⟩) hP hD hS hA [1, 2] [0, 3, 4, 5, 6, 7, 8, 9, 10, 11] (wr := [(cl, .inr (2, [.ref ac, .ref cw])), (ac, .inr (0, [.ref hh, .ref p1, .ref p2, .ref p3, .ref p4])), (p1, .inl (t 1, 420, .inl q1)), (p2, .inl (t 3, 60, .inl u_38)), (p3, .inl (t 1, 2160, .inl u_39)), (p4, .inl (t 1, 2160, .inl u_40)), (hh, .inr (5, [.int hli, .int hro, .int hse, .int hla, .int hpl, .int hex, .long hsi, .ref ha1, .ref ha2, .ref ha3, .ref ha4, .ref ha5, .ref ha6, .ref ha7, .ref ha8, .ref hc])), (ha1, .inl (t 1, 9, .inl hf1)), (ha2, .inl (t 1, 9, .inl hf2)), (ha3, .inl (t 1, 9, .inl hf3))]) rfl rfl (by decide) (by decide) (fun r_44 u H locs h_45 hP hD hS => ?_)
              have hP : va_P G vwCl [(cl, .inr (2, [.ref ac, .ref cw])), (ac, .inr (0, [.ref hh, .ref p1, .ref p2, .ref p3, .ref p4])), (p1, .inl (t 1, 420, .inl q1)), (p2, .inl (t 3, 60, .inl u_38)), (p3, .inl (t 1, 2160, .inl u_39)), (p4, .inl (t 1, 2160, .inl u_40)), (hh, .inr (5, [.int hli, .int hro, .int hse, .int hla, .int hpl, .int hex, .long hsi, .ref ha1, .ref ha2, .ref ha3, .ref ha4, .ref ha5, .ref ha6, .ref ha7, .ref ha8, .ref hc])), (ha1, .inl (t 1, 9, .inl hf1)), (ha2, .inl (t 1, 9, .inl hf2)), (ha3, .inl (t 1, 9, .inl hf3)), (s0, .inr (8, [.ref n0, .int sw, .int sn])), (n0, .inl (t 2, 60, .inr (.inl sf)))] H := hP
              have hD : va_D A [(cl, .inr (2, [.ref ac, .ref cw])), (ac, .inr (0, [.ref hh, .ref p1, .ref p2, .ref p3, .ref p4])), (p1, .inl (t 1, 420, .inl q1)), (p2, .inl (t 3, 60, .inl u_38)), (p3, .inl (t 1, 2160, .inl u_39)), (p4, .inl (t 1, 2160, .inl u_40)), (hh, .inr (5, [.int hli, .int hro, .int hse, .int hla, .int hpl, .int hex, .long hsi, .ref ha1, .ref ha2, .ref ha3, .ref ha4, .ref ha5, .ref ha6, .ref ha7, .ref ha8, .ref hc])), (ha1, .inl (t 1, 9, .inl hf1)), (ha2, .inl (t 1, 9, .inl hf2)), (ha3, .inl (t 1, 9, .inl hf3)), (s0, .inr (8, [.ref n0, .int sw, .int sn])), (n0, .inl (t 2, 60, .inr (.inl sf)))] := hD
              refine W.widen (k := 0) (n := 0) (Nat.le_of_ble_eq_true rfl) (Nat.le_of_ble_eq_true rfl) ?_
              refine bI_eq (tgt := 80) hx hb dX2_actsFell_66 (by decide) r_41.toInt r_44.toInt rfl rfl (fun c_46 => ?_) (fun c_46 => ?_)
              · first | refine incZ hx hb dX2_actsFell_80 hl (k := 1) rfl g_21.toInt rfl (by have := zrng g_21; omega) (by decide) (fun v_47 zv_47 ls hl => ?_) | refine incU hx hb dX2_actsFell_80 hl (k := 1) rfl (by decide) (fun v_47 ls hl => ?_)
                have hl : lv_has ls 7 [(5, .int v_47), (6, .int r_36), (4, .int g_7), (2, .long g_23), (0, .ref cl), (1, .ref s0)] := hl
                refine lv_goto (tgt := 17) hx hb dX2_actsFell_83 (by decide) ?_
                exact ih_17 (Int.toNat (sn.toInt - v_47.toInt)) (by omega) v_47 g_23 u_38 u_39 u_40 (by omega) _ _ _ (lv_sub hl [0, 2, 3, 4, 5] rfl) (hP.sub [0, 1, 2, 3, 4, 5, 6, 7, 8, 9, 10, 11] rfl) (hD.sub [0, 1, 2, 3, 4, 5, 6, 7, 8, 9, 10, 11] (by decide) rfl) hS rfl
              · refine lv_lload_n hx hb dX2_actsFell_69 rfl (lv_at hl 3 rfl) ?_
                refine lv_lconst (v := 1) hx hb dX2_actsFell_70 (by decide) ?_
                refine lv_iload hx hb dX2_actsFell_71 (lv_at hl 2 rfl) ?_
                refine lv_lshl hx hb dX2_actsFell_73 rfl (gnL (fun v_48 => ?_))
                refine lv_ldc2 hx hb hown (hts _ tw4_214) dX2_actsFell_74 ?_
                refine lv_lxor hx hb dX2_actsFell_77 (gnL (fun v_49 => ?_))
                refine lv_land hx hb dX2_actsFell_78 (gnL (fun v_50 => ?_))
                refine lv_lstore_n (lv' := [(2, .long v_50), (6, .int r_36), (5, .int g_21), (4, .int g_7), (0, .ref cl), (1, .ref s0)]) hx hb dX2_actsFell_79 rfl hl (by decide) rfl (fun ls hl => ?_)
                first | refine incZ hx hb dX2_actsFell_80 hl (k := 2) rfl g_21.toInt rfl (by have := zrng g_21; omega) (by decide) (fun v_51 zv_51 ls hl => ?_) | refine incU hx hb dX2_actsFell_80 hl (k := 2) rfl (by decide) (fun v_51 ls hl => ?_)
                have hl : lv_has ls 7 [(5, .int v_51), (2, .long v_50), (6, .int r_36), (4, .int g_7), (0, .ref cl), (1, .ref s0)] := hl
                refine lv_goto (tgt := 17) hx hb dX2_actsFell_83 (by decide) ?_
                exact ih_17 (Int.toNat (sn.toInt - v_51.toInt)) (by omega) v_51 v_50 u_38 u_39 u_40 (by omega) _ _ _ (lv_sub hl [0, 3, 1, 4, 5] rfl) (hP.sub [0, 1, 2, 3, 4, 5, 6, 7, 8, 9, 10, 11] rfl) (hD.sub [0, 1, 2, 3, 4, 5, 6, 7, 8, 9, 10, 11] (by decide) rfl) hS rfl
        exact LP_27 (Int.toNat (sn.toInt - 0)) 0 g_9 f_10 f_11 f_12 (by have : (0 : Int32).toInt = 0 := rfl; omega) _ _ _ (lv_sub hl [0, 1, 2, 3, 4] rfl) (hP.sub [0, 1, 2, 3, 4, 5, 6, 7, 8, 9, 10, 11] rfl) (hD.sub [0, 1, 2, 3, 4, 5, 6, 7, 8, 9, 10, 11] (by decide) rfl) hS rfl
  exact LP_13 (Int.toNat (60 - 0)) 0 1152921504606846975 q2 q3 q4 (by have : (0 : Int32).toInt = 0 := rfl; omega) _ _ _ (lv_sub hl [0, 1, 2, 3] rfl) (hP.sub [0, 1, 2, 3, 4, 5, 6, 7, 8, 9, 10, 11] rfl) (hD.sub [0, 1, 2, 3, 4, 5, 6, 7, 8, 9, 10, 11] (by decide) rfl) hS rfl

set_option maxHeartbeats 4000000 in
set_option maxRecDepth 100000 in
theorem x_leftByAsking (l : Launch) (G : va_G) (t : Nat → ClassId) (cl : Nat) (a0 : Int32) (v0 : Int64) (ac : Nat) (cw : Nat) (cwf : Nat → Int32) (hh : Nat) (p1 : Nat) (p2 : Nat) (p3 : Nat) (p4 : Nat) (q1 : Nat → Int32) (hli : Int32) (hro : Int32) (hse : Int32) (hla : Int32) (hpl : Int32) (hex : Int32) (hsi : Int64) (ha1 : Nat) (ha2 : Nat) (ha3 : Nat) (ha4 : Nat) (ha5 : Nat) (ha6 : Nat) (ha7 : Nat) (ha8 : Nat) (hc : Nat) (h_hro : 0 ≤ hro.toInt ∧ hro.toInt ≤ 6) (h_hse : 0 ≤ hse.toInt ∧ hse.toInt ≤ 6) (h_hpl : 0 ≤ hpl.toInt ∧ hpl.toInt ≤ 9) (h_hex : 0 ≤ hex.toInt ∧ hex.toInt ≤ 7) : Ct l G t yX2_leftByAsking cX2_leftByAsking 7 (some .int) ({ frames := 1, cells := 0, slots := 0, locals := 22 }) [.ref cl, .int a0, .long v0] [(cl, .inr (2, [.ref ac, .ref cw])), (cw, .inl (t 1, 9, .inl cwf)), (ac, .inr (0, [.ref hh, .ref p1, .ref p2, .ref p3, .ref p4])), (p1, .inl (t 1, 420, .inl q1)), (hh, .inr (5, [.int hli, .int hro, .int hse, .int hla, .int hpl, .int hex, .long hsi, .ref ha1, .ref ha2, .ref ha3, .ref ha4, .ref ha5, .ref ha6, .ref ha7, .ref ha8, .ref hc]))] (QI G (fun r (u : (Nat → Int32)) => True) (fun (u : (Nat → Int32)) => [(cl, .inr (2, [.ref ac, .ref cw])), (cw, .inl (t 1, 9, .inl u)), (ac, .inr (0, [.ref hh, .ref p1, .ref p2, .ref p3, .ref p4])), (p1, .inl (t 1, 420, .inl q1)), (hh, .inr (5, [.int hli, .int hro, .int hse, .int hla, .int hpl, .int hex, .long hsi, .ref ha1, .ref ha2, .ref ha3, .ref ha4, .ref ha5, .ref ha6, .ref ha7, .ref ha8, .ref hc]))])) := by
  refine ent (by decide) (Nat.le_of_ble_eq_true rfl) ?_
  intro p e s m args below meth c hx hb hr hml hts hown hlocks hin A hA hK hO hP hD hS ls hl
  have hown : s.vm.findClass RX2 = some m.cls := hown
  have hl : lv_has ls 7 [(0, .ref cl), (1, .int a0), (2, .long v0)] := hl
  have C0 : Cx p s m args c cX2_leftByAsking 7 RX2 G t := ⟨hx, hb, hml, hown, hts, hK, hO⟩
  have := zrng a0
  refine lv_iconst (v := 0) hx hb dX2_leftByAsking_0 (by decide) ?_
  refine lv_istore (lv' := [(4, .int 0), (0, .ref cl), (1, .int a0), (2, .long v0)]) hx hb dX2_leftByAsking_1 hl (by decide) rfl (fun ls hl => ?_)
  have LP_7 : ∀ (n : Nat) (g_4 : Int32) (f_6 : Nat → Int32) (b_5 : 0 ≤ g_4.toInt) (H : Heap) (locs : List Loc) (ls : Array Slot), lv_has ls 7 [(4, .int g_4), (0, .ref cl), (1, .int a0), (2, .long v0)] → va_P G vwCl [(cl, .inr (2, [.ref ac, .ref cw])), (cw, .inl (t 1, 9, .inl f_6)), (ac, .inr (0, [.ref hh, .ref p1, .ref p2, .ref p3, .ref p4])), (p1, .inl (t 1, 420, .inl q1)), (hh, .inr (5, [.int hli, .int hro, .int hse, .int hla, .int hpl, .int hex, .long hsi, .ref ha1, .ref ha2, .ref ha3, .ref ha4, .ref ha5, .ref ha6, .ref ha7, .ref ha8, .ref hc]))] H → va_D A [(cl, .inr (2, [.ref ac, .ref cw])), (cw, .inl (t 1, 9, .inl f_6)), (ac, .inr (0, [.ref hh, .ref p1, .ref p2, .ref p3, .ref p4])), (p1, .inl (t 1, 420, .inl q1)), (hh, .inr (5, [.int hli, .int hro, .int hse, .int hla, .int hpl, .int hex, .long hsi, .ref ha1, .ref ha2, .ref ha3, .ref ha4, .ref ha5, .ref ha6, .ref ha7, .ref ha8, .ref hc]))] → va_S A s.heap H locs → Int.toNat (9 - g_4.toInt) = n → W p l e ({ frames := 1, cells := 0, slots := 0, locals := 22 }) s m args below meth c H locs 0 0 (MQ below ((QI G (fun r (u : (Nat → Int32)) => True) (fun (u : (Nat → Int32)) => [(cl, .inr (2, [.ref ac, .ref cw])), (cw, .inl (t 1, 9, .inl u)), (ac, .inr (0, [.ref hh, .ref p1, .ref p2, .ref p3, .ref p4])), (p1, .inl (t 1, 420, .inl q1)), (hh, .inr (5, [.int hli, .int hro, .int hse, .int hla, .int hpl, .int hex, .long hsi, .ref ha1, .ref ha2, .ref ha3, .ref ha4, .ref ha5, .ref ha6, .ref ha7, .ref ha8, .ref hc]))])) A) args s 0 0 A) (F0 m 3 ls []) := by
    intro n
    induction n using Nat.strongRecOn with
    | ind n ih_3 =>
      intro g_4 f_6 b_5 H locs ls hl hP hD hS hmu
      have := zrng g_4
      refine lv_iload hx hb dX2_leftByAsking_3 (lv_at hl 0 rfl) ?_
      refine lv_bipush (v := 9) hx hb dX2_leftByAsking_5 (by decide) ?_
      refine bI_ge (tgt := 24) hx hb dX2_leftByAsking_7 (by decide) g_4.toInt 9 rfl rfl (fun c_8 => ?_) (fun c_8 => ?_)
      · refine lv_iconst (v := 0) hx hb dX2_leftByAsking_24 (by decide) ?_
        refine lv_istore (lv' := [(4, .int 0), (0, .ref cl), (1, .int a0), (2, .long v0)]) hx hb dX2_leftByAsking_25 hl (by decide) rfl (fun ls hl => ?_)
        refine lv_iconst (v := 0) hx hb dX2_leftByAsking_27 (by decide) ?_
        refine lv_istore (lv' := [(5, .int 0), (4, .int 0), (0, .ref cl), (1, .int a0), (2, .long v0)]) hx hb dX2_leftByAsking_28 hl (by decide) rfl (fun ls hl => ?_)
        have LP_17 : ∀ (n : Nat) (g_13 : Int32) (g_15 : Int32) (f_16 : Nat → Int32) (b_14 : 0 ≤ g_13.toInt) (H : Heap) (locs : List Loc) (ls : Array Slot), lv_has ls 7 [(5, .int g_13), (4, .int g_15), (0, .ref cl), (1, .int a0), (2, .long v0)] → va_P G vwCl [(cl, .inr (2, [.ref ac, .ref cw])), (cw, .inl (t 1, 9, .inl f_16)), (ac, .inr (0, [.ref hh, .ref p1, .ref p2, .ref p3, .ref p4])), (p1, .inl (t 1, 420, .inl q1)), (hh, .inr (5, [.int hli, .int hro, .int hse, .int hla, .int hpl, .int hex, .long hsi, .ref ha1, .ref ha2, .ref ha3, .ref ha4, .ref ha5, .ref ha6, .ref ha7, .ref ha8, .ref hc]))] H → va_D A [(cl, .inr (2, [.ref ac, .ref cw])), (cw, .inl (t 1, 9, .inl f_16)), (ac, .inr (0, [.ref hh, .ref p1, .ref p2, .ref p3, .ref p4])), (p1, .inl (t 1, 420, .inl q1)), (hh, .inr (5, [.int hli, .int hro, .int hse, .int hla, .int hpl, .int hex, .long hsi, .ref ha1, .ref ha2, .ref ha3, .ref ha4, .ref ha5, .ref ha6, .ref ha7, .ref ha8, .ref hc]))] → va_S A s.heap H locs → Int.toNat (60 - g_13.toInt) = n → W p l e ({ frames := 1, cells := 0, slots := 0, locals := 22 }) s m args below meth c H locs 0 0 (MQ below ((QI G (fun r (u : (Nat → Int32)) => True) (fun (u : (Nat → Int32)) => [(cl, .inr (2, [.ref ac, .ref cw])), (cw, .inl (t 1, 9, .inl u)), (ac, .inr (0, [.ref hh, .ref p1, .ref p2, .ref p3, .ref p4])), (p1, .inl (t 1, 420, .inl q1)), (hh, .inr (5, [.int hli, .int hro, .int hse, .int hla, .int hpl, .int hex, .long hsi, .ref ha1, .ref ha2, .ref ha3, .ref ha4, .ref ha5, .ref ha6, .ref ha7, .ref ha8, .ref hc]))])) A) args s 0 0 A) (F0 m 30 ls []) := by
          intro n
          induction n using Nat.strongRecOn with
          | ind n ih_30 =>
            intro g_13 g_15 f_16 b_14 H locs ls hl hP hD hS hmu
            have := zrng g_13
            have := zrng g_15
            refine lv_iload hx hb dX2_leftByAsking_30 (lv_at hl 0 rfl) ?_
            refine lv_bipush (v := 60) hx hb dX2_leftByAsking_32 (by decide) ?_
            refine bI_ge (tgt := 106) hx hb dX2_leftByAsking_34 (by decide) g_13.toInt 60 rfl rfl (fun c_18 => ?_) (fun c_18 => ?_)
            · refine lv_iload hx hb dX2_leftByAsking_106 (lv_at hl 1 rfl) ?_
              exact rtI hx hb hr hlocks hS f_16 (trivial) (hP.sub [0, 1, 2, 3, 4] rfl) (hD.sub [0, 1, 2, 3, 4] (by decide) rfl) dX2_leftByAsking_108
            · refine lv_aload_n hx hb dX2_leftByAsking_37 rfl (lv_at hl 2 rfl) ?_
              refine gf hx hb hts hown hK hP 0 inT2 rfl rfl 0 (by decide) tw2_27 rfl dX2_leftByAsking_38 ?_
              refine lv_iload_n hx hb dX2_leftByAsking_41 rfl (lv_at hl 3 rfl) ?_
              refine lv_iload hx hb dX2_leftByAsking_42 (lv_at hl 0 rfl) ?_
              refine goI (rnV C0 (x_placeOf l G t ac a0 g_13 hh p1 p2 p3 p4 q1) lkX2_53 ⟨by decide, by decide⟩ (hP.sub (ws' := [(ac, .inr (0, [.ref hh, .ref p1, .ref p2, .ref p3, .ref p4])), (p1, .inl (t 1, 420, .inl q1))]) [2, 3] rfl) (hD.sub (ws' := [(ac, .inr (0, [.ref hh, .ref p1, .ref p2, .ref p3, .ref p4])), (p1, .inl (t 1, 420, .inl q1))]) [2, 3] (by decide) rfl) 0 0 rfl rfl rfl rfl hl.1 (rest := []) rfl (Nat.le_of_ble_eq_true rfl) dX2_leftByAsking_44 ⟨by decide, by decide⟩) hP hD hS hA [2, 3] [0, 1, 4] (wr := [(cl, .inr (2, [.ref ac, .ref cw])), (cw, .inl (t 1, 9, .inl f_16)), (hh, .inr (5, [.int hli, .int hro, .int hse, .int hla, .int hpl, .int hex, .long hsi, .ref ha1, .ref ha2, .ref ha3, .ref ha4, .ref ha5, .ref ha6, .ref ha7, .ref ha8, .ref hc]))]) rfl rfl (by decide) (by decide) (fun r_19 u H locs h_20 hP hD hS => ?_)
              have hP : va_P G vwCl [(cl, .inr (2, [.ref ac, .ref cw])), (cw, .inl (t 1, 9, .inl f_16)), (hh, .inr (5, [.int hli, .int hro, .int hse, .int hla, .int hpl, .int hex, .long hsi, .ref ha1, .ref ha2, .ref ha3, .ref ha4, .ref ha5, .ref ha6, .ref ha7, .ref ha8, .ref hc])), (ac, .inr (0, [.ref hh, .ref p1, .ref p2, .ref p3, .ref p4])), (p1, .inl (t 1, 420, .inl q1))] H := hP
              have hD : va_D A [(cl, .inr (2, [.ref ac, .ref cw])), (cw, .inl (t 1, 9, .inl f_16)), (hh, .inr (5, [.int hli, .int hro, .int hse, .int hla, .int hpl, .int hex, .long hsi, .ref ha1, .ref ha2, .ref ha3, .ref ha4, .ref ha5, .ref ha6, .ref ha7, .ref ha8, .ref hc])), (ac, .inr (0, [.ref hh, .ref p1, .ref p2, .ref p3, .ref p4])), (p1, .inl (t 1, 420, .inl q1))] := hD
              refine W.widen (k := 0) (n := 0) (Nat.le_of_ble_eq_true rfl) (Nat.le_of_ble_eq_true rfl) ?_
              refine lv_istore (lv' := [(6, .int r_19), (5, .int g_13), (4, .int g_15), (0, .ref cl), (1, .int a0), (2, .long v0)]) hx hb dX2_leftByAsking_47 hl (by decide) rfl (fun ls hl => ?_)
              refine lv_lload_n hx hb dX2_leftByAsking_49 rfl (lv_at hl 5 rfl) ?_
              refine lv_iload hx hb dX2_leftByAsking_50 (lv_at hl 1 rfl) ?_
              refine lv_lshr hx hb dX2_leftByAsking_52 rfl (gnL (fun v_21 => ?_))
              refine lv_lconst (v := 1) hx hb dX2_leftByAsking_53 (by decide) ?_
              refine lv_land hx hb dX2_leftByAsking_54 (gnL (fun v_22 => ?_))
              refine lv_lconst (v := 1) hx hb dX2_leftByAsking_55 (by decide) ?_
              refine bL_ne (tgt := 100) hx hb dX2_leftByAsking_56 dX2_leftByAsking_57 (by decide) v_22.toInt 1 rfl rfl (fun c_23 => ?_) (fun c_23 => ?_)
              · first | refine incZ hx hb dX2_leftByAsking_100 hl (k := 1) rfl g_13.toInt rfl (by have := zrng g_13; omega) (by decide) (fun v_24 zv_24 ls hl => ?_) | refine incU hx hb dX2_leftByAsking_100 hl (k := 1) rfl (by decide) (fun v_24 ls hl => ?_)
                have hl : lv_has ls 7 [(5, .int v_24), (6, .int r_19), (4, .int g_15), (0, .ref cl), (1, .int a0), (2, .long v0)] := hl
                refine lv_goto (tgt := 30) hx hb dX2_leftByAsking_103 (by decide) ?_
                exact ih_30 (Int.toNat (60 - v_24.toInt)) (by omega) v_24 g_15 f_16 (by omega) _ _ _ (lv_sub hl [0, 2, 3, 4, 5] rfl) (hP.sub [0, 1, 3, 4, 2] rfl) (hD.sub [0, 1, 3, 4, 2] (by decide) rfl) hS rfl
              · refine lv_aload_n hx hb dX2_leftByAsking_60 rfl (lv_at hl 3 rfl) ?_
                refine gf hx hb hts hown hK hP 0 inT2 rfl rfl 0 (by decide) tw2_27 rfl dX2_leftByAsking_61 ?_
                refine gf hx hb hts hown hK hP 3 inT0 rfl rfl 0 (by decide) tw2_2 rfl dX2_leftByAsking_64 ?_
                refine lv_iload hx hb dX2_leftByAsking_67 (lv_at hl 0 rfl) ?_
                refine goI (rnV C0 (x_hasPlace l G t hh r_19 hli hro hse hla hpl hex hsi ha1 ha2 ha3 ha4 ha5 ha6 ha7 ha8 hc (by omega) (by omega) (by omega) (by omega)) lkX2_41 ⟨by decide, by decide⟩ (hP.sub (ws' := [(hh, .inr (5, [.int hli, .int hro, .int hse, .int hla, .int hpl, .int hex, .long hsi, .ref ha1, .ref ha2, .ref ha3, .ref ha4, .ref ha5, .ref ha6, .ref ha7, .ref ha8, .ref hc]))]) [2] rfl) (hD.sub (ws' := [(hh, .inr (5, [.int hli, .int hro, .int hse, .int hla, .int hpl, .int hex, .long hsi, .ref ha1, .ref ha2, .ref ha3, .ref ha4, .ref ha5, .ref ha6, .ref ha7, .ref ha8, .ref hc]))]) [2] (by decide) rfl) 0 5 rfl rfl rfl rfl hl.1 (rest := []) rfl (Nat.le_of_ble_eq_true rfl) dX2_leftByAsking_69 ⟨by decide, by decide⟩) hP hD hS hA [2] [0, 1, 3, 4] (wr := [(cl, .inr (2, [.ref ac, .ref cw])), (cw, .inl (t 1, 9, .inl f_16)), (ac, .inr (0, [.ref hh, .ref p1, .ref p2, .ref p3, .ref p4])), (p1, .inl (t 1, 420, .inl q1))]) rfl rfl (by decide) (by decide) (fun r_25 u H locs h_26 hP hD hS => ?_)
                have h_26 : (r_25.toInt = 0 ∨ (r_25.toInt = 1 ∧ 0 ≤ r_19.toInt ∧ r_19.toInt < hpl.toInt ∧ r_19.toInt ≤ 8)) := h_26
                have b_27 := h_26
                have hP : va_P G vwCl [(cl, .inr (2, [.ref ac, .ref cw])), (cw, .inl (t 1, 9, .inl f_16)), (ac, .inr (0, [.ref hh, .ref p1, .ref p2, .ref p3, .ref p4])), (p1, .inl (t 1, 420, .inl q1)), (hh, .inr (5, [.int hli, .int hro, .int hse, .int hla, .int hpl, .int hex, .long hsi, .ref ha1, .ref ha2, .ref ha3, .ref ha4, .ref ha5, .ref ha6, .ref ha7, .ref ha8, .ref hc]))] H := hP
                have hD : va_D A [(cl, .inr (2, [.ref ac, .ref cw])), (cw, .inl (t 1, 9, .inl f_16)), (ac, .inr (0, [.ref hh, .ref p1, .ref p2, .ref p3, .ref p4])), (p1, .inl (t 1, 420, .inl q1)), (hh, .inr (5, [.int hli, .int hro, .int hse, .int hla, .int hpl, .int hex, .long hsi, .ref ha1, .ref ha2, .ref ha3, .ref ha4, .ref ha5, .ref ha6, .ref ha7, .ref ha8, .ref hc]))] := hD
                refine W.widen (k := 0) (n := 0) (Nat.le_of_ble_eq_true rfl) (Nat.le_of_ble_eq_true rfl) ?_
                refine bF_eq (tgt := 100) hx hb dX2_leftByAsking_72 (by decide) r_25.toInt rfl (fun c_28 => ?_) (fun c_28 => ?_)
                · first | refine incZ hx hb dX2_leftByAsking_100 hl (k := 1) rfl g_13.toInt rfl (by have := zrng g_13; omega) (by decide) (fun v_29 zv_29 ls hl => ?_) | refine incU hx hb dX2_leftByAsking_100 hl (k := 1) rfl (by decide) (fun v_29 ls hl => ?_)
                  have hl : lv_has ls 7 [(5, .int v_29), (6, .int r_19), (4, .int g_15), (0, .ref cl), (1, .int a0), (2, .long v0)] := hl
                  refine lv_goto (tgt := 30) hx hb dX2_leftByAsking_103 (by decide) ?_
                  exact ih_30 (Int.toNat (60 - v_29.toInt)) (by omega) v_29 g_15 f_16 (by omega) _ _ _ (lv_sub hl [0, 2, 3, 4, 5] rfl) (hP.sub [0, 1, 2, 3, 4] rfl) (hD.sub [0, 1, 2, 3, 4] (by decide) rfl) hS rfl
                · refine lv_aload_n hx hb dX2_leftByAsking_75 rfl (lv_at hl 3 rfl) ?_
                  refine gf hx hb hts hown hK hP 0 inT2 rfl rfl 1 (by decide) tw2_28 rfl dX2_leftByAsking_76 ?_
                  refine lv_iload hx hb dX2_leftByAsking_79 (lv_at hl 0 rfl) ?_
                  refine lv_dup2_11 hx hb dX2_leftByAsking_81 rfl rfl ?_
                  refine laI hx hb hK hP 1 rfl r_19.toInt rfl (by omega) dX2_leftByAsking_82 (fun v_30 ev_30 => ?_)
                  refine lv_iconst (v := 1) hx hb dX2_leftByAsking_83 (by decide) ?_
                  first | refine adZ hx hb dX2_leftByAsking_84 v_30.toInt 1 rfl rfl (by have := zrng v_30; omega) (fun v_31 zv_31 => ?_) | refine lv_iadd hx hb dX2_leftByAsking_84 (gnI (fun v_31 => ?_))
                  refine saI hx hb hK hP hD hS 1 rfl r_19.toInt rfl (by omega) dX2_leftByAsking_85 (fun f_32 ef_32 H locs hP hD hS => ?_)
                  have hP : va_P G vwCl [(cl, .inr (2, [.ref ac, .ref cw])), (cw, .inl (t 1, 9, .inl f_32)), (ac, .inr (0, [.ref hh, .ref p1, .ref p2, .ref p3, .ref p4])), (p1, .inl (t 1, 420, .inl q1)), (hh, .inr (5, [.int hli, .int hro, .int hse, .int hla, .int hpl, .int hex, .long hsi, .ref ha1, .ref ha2, .ref ha3, .ref ha4, .ref ha5, .ref ha6, .ref ha7, .ref ha8, .ref hc]))] H := hP
                  have hD : va_D A [(cl, .inr (2, [.ref ac, .ref cw])), (cw, .inl (t 1, 9, .inl f_32)), (ac, .inr (0, [.ref hh, .ref p1, .ref p2, .ref p3, .ref p4])), (p1, .inl (t 1, 420, .inl q1)), (hh, .inr (5, [.int hli, .int hro, .int hse, .int hla, .int hpl, .int hex, .long hsi, .ref ha1, .ref ha2, .ref ha3, .ref ha4, .ref ha5, .ref ha6, .ref ha7, .ref ha8, .ref hc]))] := hD
                  refine lv_iload hx hb dX2_leftByAsking_86 (lv_at hl 2 rfl) ?_
                  refine lv_aload_n hx hb dX2_leftByAsking_88 rfl (lv_at hl 3 rfl) ?_
                  refine gf hx hb hts hown hK hP 0 inT2 rfl rfl 1 (by decide) tw2_28 rfl dX2_leftByAsking_89 ?_
                  refine lv_iload hx hb dX2_leftByAsking_92 (lv_at hl 0 rfl) ?_
                  refine laI hx hb hK hP 1 rfl r_19.toInt rfl (by omega) dX2_leftByAsking_94 (fun v_33 ev_33 => ?_)
                  refine mmaxZ hx hb hml hl.1 hown hts tw4_228 tw4_1 tw1_14 tw4_2 (by decide) (Nat.le_of_ble_eq_true rfl) (by decide) (by decide) g_15.toInt v_33.toInt rfl rfl dX2_leftByAsking_95 (fun v_34 zv_34 => ?_)
                  refine lv_istore (lv' := [(4, .int v_34), (6, .int r_19), (5, .int g_13), (0, .ref cl), (1, .int a0), (2, .long v0)]) hx hb dX2_leftByAsking_98 hl (by decide) rfl (fun ls hl => ?_)
                  first | refine incZ hx hb dX2_leftByAsking_100 hl (k := 2) rfl g_13.toInt rfl (by have := zrng g_13; omega) (by decide) (fun v_35 zv_35 ls hl => ?_) | refine incU hx hb dX2_leftByAsking_100 hl (k := 2) rfl (by decide) (fun v_35 ls hl => ?_)
                  have hl : lv_has ls 7 [(5, .int v_35), (4, .int v_34), (6, .int r_19), (0, .ref cl), (1, .int a0), (2, .long v0)] := hl
                  refine lv_goto (tgt := 30) hx hb dX2_leftByAsking_103 (by decide) ?_
                  exact ih_30 (Int.toNat (60 - v_35.toInt)) (by omega) v_35 v_34 f_32 (by omega) _ _ _ (lv_sub hl [0, 1, 3, 4, 5] rfl) (hP.sub [0, 1, 2, 3, 4] rfl) (hD.sub [0, 1, 2, 3, 4] (by decide) rfl) hS rfl
        exact LP_17 (Int.toNat (60 - 0)) 0 0 f_6 (by have : (0 : Int32).toInt = 0 := rfl; omega) _ _ _ (lv_sub hl [0, 1, 2, 3, 4] rfl) (hP.sub [0, 1, 2, 3, 4] rfl) (hD.sub [0, 1, 2, 3, 4] (by decide) rfl) hS rfl
      · refine lv_aload_n hx hb dX2_leftByAsking_10 rfl (lv_at hl 1 rfl) ?_
        refine gf hx hb hts hown hK hP 0 inT2 rfl rfl 1 (by decide) tw2_28 rfl dX2_leftByAsking_11 ?_
        refine lv_iload hx hb dX2_leftByAsking_14 (lv_at hl 0 rfl) ?_
        refine lv_iconst (v := 0) hx hb dX2_leftByAsking_16 (by decide) ?_
        refine saI hx hb hK hP hD hS 1 rfl g_4.toInt rfl (by omega) dX2_leftByAsking_17 (fun f_36 ef_36 H locs hP hD hS => ?_)
        have hP : va_P G vwCl [(cl, .inr (2, [.ref ac, .ref cw])), (cw, .inl (t 1, 9, .inl f_36)), (ac, .inr (0, [.ref hh, .ref p1, .ref p2, .ref p3, .ref p4])), (p1, .inl (t 1, 420, .inl q1)), (hh, .inr (5, [.int hli, .int hro, .int hse, .int hla, .int hpl, .int hex, .long hsi, .ref ha1, .ref ha2, .ref ha3, .ref ha4, .ref ha5, .ref ha6, .ref ha7, .ref ha8, .ref hc]))] H := hP
        have hD : va_D A [(cl, .inr (2, [.ref ac, .ref cw])), (cw, .inl (t 1, 9, .inl f_36)), (ac, .inr (0, [.ref hh, .ref p1, .ref p2, .ref p3, .ref p4])), (p1, .inl (t 1, 420, .inl q1)), (hh, .inr (5, [.int hli, .int hro, .int hse, .int hla, .int hpl, .int hex, .long hsi, .ref ha1, .ref ha2, .ref ha3, .ref ha4, .ref ha5, .ref ha6, .ref ha7, .ref ha8, .ref hc]))] := hD
        first | refine incZ hx hb dX2_leftByAsking_18 hl (k := 0) rfl g_4.toInt rfl (by have := zrng g_4; omega) (by decide) (fun v_37 zv_37 ls hl => ?_) | refine incU hx hb dX2_leftByAsking_18 hl (k := 0) rfl (by decide) (fun v_37 ls hl => ?_)
        have hl : lv_has ls 7 [(4, .int v_37), (0, .ref cl), (1, .int a0), (2, .long v0)] := hl
        refine lv_goto (tgt := 3) hx hb dX2_leftByAsking_21 (by decide) ?_
        exact ih_3 (Int.toNat (9 - v_37.toInt)) (by omega) v_37 f_36 (by omega) _ _ _ (lv_sub hl [0, 1, 2, 3] rfl) (hP.sub [0, 1, 2, 3, 4] rfl) (hD.sub [0, 1, 2, 3, 4] (by decide) rfl) hS rfl
  exact LP_7 (Int.toNat (9 - 0)) 0 cwf (by have : (0 : Int32).toInt = 0 := rfl; omega) _ _ _ (lv_sub hl [0, 1, 2, 3] rfl) (hP.sub [0, 1, 2, 3, 4] rfl) (hD.sub [0, 1, 2, 3, 4] (by decide) rfl) hS rfl

set_option maxHeartbeats 4000000 in
set_option maxRecDepth 100000 in
theorem x_bestQuestion (l : Launch) (G : va_G) (t : Nat → ClassId) (cl : Nat) (v0 : Int64) (ac : Nat) (cw : Nat) (cwf : Nat → Int32) (hh : Nat) (p1 : Nat) (p2 : Nat) (p3 : Nat) (p4 : Nat) (q1 : Nat → Int32) (hli : Int32) (hro : Int32) (hse : Int32) (hla : Int32) (hpl : Int32) (hex : Int32) (hsi : Int64) (ha1 : Nat) (ha2 : Nat) (ha3 : Nat) (ha4 : Nat) (ha5 : Nat) (ha6 : Nat) (ha7 : Nat) (ha8 : Nat) (hc : Nat) (h_hro : 0 ≤ hro.toInt ∧ hro.toInt ≤ 6) (h_hse : 0 ≤ hse.toInt ∧ hse.toInt ≤ 6) (h_hpl : 0 ≤ hpl.toInt ∧ hpl.toInt ≤ 9) (h_hex : 0 ≤ hex.toInt ∧ hex.toInt ≤ 7) : Ct l G t yX2_bestQuestion cX2_bestQuestion 7 (some .int) ({ frames := 2, cells := 0, slots := 0, locals := 48 }) [.ref cl, .long v0] [(cl, .inr (2, [.ref ac, .ref cw])), (cw, .inl (t 1, 9, .inl cwf)), (ac, .inr (0, [.ref hh, .ref p1, .ref p2, .ref p3, .ref p4])), (p1, .inl (t 1, 420, .inl q1)), (hh, .inr (5, [.int hli, .int hro, .int hse, .int hla, .int hpl, .int hex, .long hsi, .ref ha1, .ref ha2, .ref ha3, .ref ha4, .ref ha5, .ref ha6, .ref ha7, .ref ha8, .ref hc]))] (QI G (fun r (u : (Nat → Int32)) => True) (fun (u : (Nat → Int32)) => [(cl, .inr (2, [.ref ac, .ref cw])), (cw, .inl (t 1, 9, .inl u)), (ac, .inr (0, [.ref hh, .ref p1, .ref p2, .ref p3, .ref p4])), (p1, .inl (t 1, 420, .inl q1)), (hh, .inr (5, [.int hli, .int hro, .int hse, .int hla, .int hpl, .int hex, .long hsi, .ref ha1, .ref ha2, .ref ha3, .ref ha4, .ref ha5, .ref ha6, .ref ha7, .ref ha8, .ref hc]))])) := by
  refine ent (by decide) (Nat.le_of_ble_eq_true rfl) ?_
  intro p e s m args below meth c hx hb hr hml hts hown hlocks hin A hA hK hO hP hD hS ls hl
  have hown : s.vm.findClass RX2 = some m.cls := hown
  have hl : lv_has ls 7 [(0, .ref cl), (1, .long v0)] := hl
  have C0 : Cx p s m args c cX2_bestQuestion 7 RX2 G t := ⟨hx, hb, hml, hown, hts, hK, hO⟩
  refine lv_iconst (v := (-1)) hx hb dX2_bestQuestion_0 (by decide) ?_
  refine lv_istore_n (lv' := [(3, .int (-1)), (0, .ref cl), (1, .long v0)]) hx hb dX2_bestQuestion_1 rfl hl (by decide) rfl (fun ls hl => ?_)
  refine lv_lload_n hx hb dX2_bestQuestion_2 rfl (lv_at hl 2 rfl) ?_
  refine goI (rnS C0 (j_lbc l G t v0) lkX2_65 ⟨by decide, by decide⟩ (hP.sub (ws' := []) [] rfl) (hD.sub (ws' := []) [] (by decide) rfl) rfl hl.1 (rest := []) rfl (Nat.le_of_ble_eq_true rfl) dX2_bestQuestion_3 ⟨by decide, by decide⟩) hP hD hS hA [] [0, 1, 2, 3, 4] (wr := [(cl, .inr (2, [.ref ac, .ref cw])), (cw, .inl (t 1, 9, .inl cwf)), (ac, .inr (0, [.ref hh, .ref p1, .ref p2, .ref p3, .ref p4])), (p1, .inl (t 1, 420, .inl q1)), (hh, .inr (5, [.int hli, .int hro, .int hse, .int hla, .int hpl, .int hex, .long hsi, .ref ha1, .ref ha2, .ref ha3, .ref ha4, .ref ha5, .ref ha6, .ref ha7, .ref ha8, .ref hc]))]) rfl rfl (by decide) (by decide) (fun r_1 u H locs h_2 hP hD hS => ?_)
  have hP : va_P G vwCl [(cl, .inr (2, [.ref ac, .ref cw])), (cw, .inl (t 1, 9, .inl cwf)), (ac, .inr (0, [.ref hh, .ref p1, .ref p2, .ref p3, .ref p4])), (p1, .inl (t 1, 420, .inl q1)), (hh, .inr (5, [.int hli, .int hro, .int hse, .int hla, .int hpl, .int hex, .long hsi, .ref ha1, .ref ha2, .ref ha3, .ref ha4, .ref ha5, .ref ha6, .ref ha7, .ref ha8, .ref hc]))] H := hP
  have hD : va_D A [(cl, .inr (2, [.ref ac, .ref cw])), (cw, .inl (t 1, 9, .inl cwf)), (ac, .inr (0, [.ref hh, .ref p1, .ref p2, .ref p3, .ref p4])), (p1, .inl (t 1, 420, .inl q1)), (hh, .inr (5, [.int hli, .int hro, .int hse, .int hla, .int hpl, .int hex, .long hsi, .ref ha1, .ref ha2, .ref ha3, .ref ha4, .ref ha5, .ref ha6, .ref ha7, .ref ha8, .ref hc]))] := hD
  refine W.widen (k := 0) (n := 0) (Nat.le_of_ble_eq_true rfl) (Nat.le_of_ble_eq_true rfl) ?_
  refine lv_istore (lv' := [(4, .int r_1), (3, .int (-1)), (0, .ref cl), (1, .long v0)]) hx hb dX2_bestQuestion_6 hl (by decide) rfl (fun ls hl => ?_)
  refine lv_iconst (v := 0) hx hb dX2_bestQuestion_8 (by decide) ?_
  refine lv_istore (lv' := [(5, .int 0), (4, .int r_1), (3, .int (-1)), (0, .ref cl), (1, .long v0)]) hx hb dX2_bestQuestion_9 hl (by decide) rfl (fun ls hl => ?_)
  have LP_13 : ∀ (n : Nat) (g_8 : Int32) (g_10 : Int32) (g_11 : Int32) (f_12 : Nat → Int32) (b_9 : 0 ≤ g_8.toInt) (H : Heap) (locs : List Loc) (ls : Array Slot), lv_has ls 7 [(5, .int g_8), (4, .int g_10), (3, .int g_11), (0, .ref cl), (1, .long v0)] → va_P G vwCl [(cl, .inr (2, [.ref ac, .ref cw])), (cw, .inl (t 1, 9, .inl f_12)), (ac, .inr (0, [.ref hh, .ref p1, .ref p2, .ref p3, .ref p4])), (p1, .inl (t 1, 420, .inl q1)), (hh, .inr (5, [.int hli, .int hro, .int hse, .int hla, .int hpl, .int hex, .long hsi, .ref ha1, .ref ha2, .ref ha3, .ref ha4, .ref ha5, .ref ha6, .ref ha7, .ref ha8, .ref hc]))] H → va_D A [(cl, .inr (2, [.ref ac, .ref cw])), (cw, .inl (t 1, 9, .inl f_12)), (ac, .inr (0, [.ref hh, .ref p1, .ref p2, .ref p3, .ref p4])), (p1, .inl (t 1, 420, .inl q1)), (hh, .inr (5, [.int hli, .int hro, .int hse, .int hla, .int hpl, .int hex, .long hsi, .ref ha1, .ref ha2, .ref ha3, .ref ha4, .ref ha5, .ref ha6, .ref ha7, .ref ha8, .ref hc]))] → va_S A s.heap H locs → Int.toNat (hex.toInt - g_8.toInt) = n → W p l e ({ frames := 2, cells := 0, slots := 0, locals := 48 }) s m args below meth c H locs 0 0 (MQ below ((QI G (fun r (u : (Nat → Int32)) => True) (fun (u : (Nat → Int32)) => [(cl, .inr (2, [.ref ac, .ref cw])), (cw, .inl (t 1, 9, .inl u)), (ac, .inr (0, [.ref hh, .ref p1, .ref p2, .ref p3, .ref p4])), (p1, .inl (t 1, 420, .inl q1)), (hh, .inr (5, [.int hli, .int hro, .int hse, .int hla, .int hpl, .int hex, .long hsi, .ref ha1, .ref ha2, .ref ha3, .ref ha4, .ref ha5, .ref ha6, .ref ha7, .ref ha8, .ref hc]))])) A) args s 0 0 A) (F0 m 11 ls []) := by
    intro n
    induction n using Nat.strongRecOn with
    | ind n ih_11 =>
      intro g_8 g_10 g_11 f_12 b_9 H locs ls hl hP hD hS hmu
      have := zrng g_8
      have := zrng g_10
      have := zrng g_11
      refine lv_iload hx hb dX2_bestQuestion_11 (lv_at hl 0 rfl) ?_
      refine lv_aload_n hx hb dX2_bestQuestion_13 rfl (lv_at hl 3 rfl) ?_
      refine gf hx hb hts hown hK hP 0 inT2 rfl rfl 0 (by decide) tw2_27 rfl dX2_bestQuestion_14 ?_
      refine gf hx hb hts hown hK hP 2 inT0 rfl rfl 0 (by decide) tw2_2 rfl dX2_bestQuestion_17 ?_
      refine gf hx hb hts hown hK hP 4 inT5 rfl rfl 5 (by decide) tw1_107 rfl dX2_bestQuestion_20 ?_
      refine bI_ge (tgt := 55) hx hb dX2_bestQuestion_23 (by decide) g_8.toInt hex.toInt rfl rfl (fun c_14 => ?_) (fun c_14 => ?_)
      · refine lv_iload_n hx hb dX2_bestQuestion_55 rfl (lv_at hl 2 rfl) ?_
        exact rtI hx hb hr hlocks hS f_12 (trivial) (hP.sub [0, 1, 2, 3, 4] rfl) (hD.sub [0, 1, 2, 3, 4] (by decide) rfl) dX2_bestQuestion_56
      · refine lv_aload_n hx hb dX2_bestQuestion_26 rfl (lv_at hl 3 rfl) ?_
        refine lv_iload hx hb dX2_bestQuestion_27 (lv_at hl 0 rfl) ?_
        refine lv_lload_n hx hb dX2_bestQuestion_29 rfl (lv_at hl 4 rfl) ?_
        refine goI (rnV C0 (x_leftByAsking l G t cl g_8 v0 ac cw f_12 hh p1 p2 p3 p4 q1 hli hro hse hla hpl hex hsi ha1 ha2 ha3 ha4 ha5 ha6 ha7 ha8 hc (by omega) (by omega) (by omega) (by omega)) lkX2_74 ⟨by decide, by decide⟩ (hP.sub (ws' := [(cl, .inr (2, [.ref ac, .ref cw])), (cw, .inl (t 1, 9, .inl f_12)), (ac, .inr (0, [.ref hh, .ref p1, .ref p2, .ref p3, .ref p4])), (p1, .inl (t 1, 420, .inl q1)), (hh, .inr (5, [.int hli, .int hro, .int hse, .int hla, .int hpl, .int hex, .long hsi, .ref ha1, .ref ha2, .ref ha3, .ref ha4, .ref ha5, .ref ha6, .ref ha7, .ref ha8, .ref hc]))]) [0, 1, 2, 3, 4] rfl) (hD.sub (ws' := [(cl, .inr (2, [.ref ac, .ref cw])), (cw, .inl (t 1, 9, .inl f_12)), (ac, .inr (0, [.ref hh, .ref p1, .ref p2, .ref p3, .ref p4])), (p1, .inl (t 1, 420, .inl q1)), (hh, .inr (5, [.int hli, .int hro, .int hse, .int hla, .int hpl, .int hex, .long hsi, .ref ha1, .ref ha2, .ref ha3, .ref ha4, .ref ha5, .ref ha6, .ref ha7, .ref ha8, .ref hc]))]) [0, 1, 2, 3, 4] (by decide) rfl) 0 2 rfl rfl rfl rfl hl.1 (rest := []) rfl (Nat.le_of_ble_eq_true rfl) dX2_bestQuestion_30 ⟨by decide, by decide⟩) hP hD hS hA [0, 1, 2, 3, 4] [] (wr := []) rfl rfl (by decide) (by decide) (fun r_16 u H locs h_17 hP hD hS => ?_)
        obtain ⟨u_15, eu_15⟩ : ∃ z, z = u := ⟨_, rfl⟩
        subst eu_15
        have hP : va_P G vwCl [(cl, .inr (2, [.ref ac, .ref cw])), (cw, .inl (t 1, 9, .inl u_15)), (ac, .inr (0, [.ref hh, .ref p1, .ref p2, .ref p3, .ref p4])), (p1, .inl (t 1, 420, .inl q1)), (hh, .inr (5, [.int hli, .int hro, .int hse, .int hla, .int hpl, .int hex, .long hsi, .ref ha1, .ref ha2, .ref ha3, .ref ha4, .ref ha5, .ref ha6, .ref ha7, .ref ha8, .ref hc]))] H := hP
        have hD : va_D A [(cl, .inr (2, [.ref ac, .ref cw])), (cw, .inl (t 1, 9, .inl u_15)), (ac, .inr (0, [.ref hh, .ref p1, .ref p2, .ref p3, .ref p4])), (p1, .inl (t 1, 420, .inl q1)), (hh, .inr (5, [.int hli, .int hro, .int hse, .int hla, .int hpl, .int hex, .long hsi, .ref ha1, .ref ha2, .ref ha3, .ref ha4, .ref ha5, .ref ha6, .ref ha7, .ref ha8, .ref hc]))] := hD
        refine W.widen (k := 0) (n := 0) (Nat.le_of_ble_eq_true rfl) (Nat.le_of_ble_eq_true rfl) ?_
        refine lv_istore (lv' := [(6, .int r_16), (5, .int g_8), (4, .int g_10), (3, .int g_11), (0, .ref cl), (1, .long v0)]) hx hb dX2_bestQuestion_33 hl (by decide) rfl (fun ls hl => ?_)
        refine lv_iload hx hb dX2_bestQuestion_35 (lv_at hl 0 rfl) ?_
        refine lv_iload hx hb dX2_bestQuestion_37 (lv_at hl 2 rfl) ?_
        refine bI_ge (tgt := 49) hx hb dX2_bestQuestion_39 (by decide) r_16.toInt g_10.toInt rfl rfl (fun c_18 => ?_) (fun c_18 => ?_)
        · first | refine incZ hx hb dX2_bestQuestion_49 hl (k := 1) rfl g_8.toInt rfl (by have := zrng g_8; omega) (by decide) (fun v_19 zv_19 ls hl => ?_) | refine incU hx hb dX2_bestQuestion_49 hl (k := 1) rfl (by decide) (fun v_19 ls hl => ?_)
          have hl : lv_has ls 7 [(5, .int v_19), (6, .int r_16), (4, .int g_10), (3, .int g_11), (0, .ref cl), (1, .long v0)] := hl
          refine lv_goto (tgt := 11) hx hb dX2_bestQuestion_52 (by decide) ?_
          exact ih_11 (Int.toNat (hex.toInt - v_19.toInt)) (by omega) v_19 g_10 g_11 u_15 (by omega) _ _ _ (lv_sub hl [0, 2, 3, 4, 5] rfl) (hP.sub [0, 1, 2, 3, 4] rfl) (hD.sub [0, 1, 2, 3, 4] (by decide) rfl) hS rfl
        · refine lv_iload hx hb dX2_bestQuestion_42 (lv_at hl 0 rfl) ?_
          refine lv_istore (lv' := [(4, .int r_16), (6, .int r_16), (5, .int g_8), (3, .int g_11), (0, .ref cl), (1, .long v0)]) hx hb dX2_bestQuestion_44 hl (by decide) rfl (fun ls hl => ?_)
          refine lv_iload hx hb dX2_bestQuestion_46 (lv_at hl 2 rfl) ?_
          refine lv_istore_n (lv' := [(3, .int g_8), (4, .int r_16), (6, .int r_16), (5, .int g_8), (0, .ref cl), (1, .long v0)]) hx hb dX2_bestQuestion_48 rfl hl (by decide) rfl (fun ls hl => ?_)
          first | refine incZ hx hb dX2_bestQuestion_49 hl (k := 3) rfl g_8.toInt rfl (by have := zrng g_8; omega) (by decide) (fun v_20 zv_20 ls hl => ?_) | refine incU hx hb dX2_bestQuestion_49 hl (k := 3) rfl (by decide) (fun v_20 ls hl => ?_)
          have hl : lv_has ls 7 [(5, .int v_20), (3, .int g_8), (4, .int r_16), (6, .int r_16), (0, .ref cl), (1, .long v0)] := hl
          refine lv_goto (tgt := 11) hx hb dX2_bestQuestion_52 (by decide) ?_
          exact ih_11 (Int.toNat (hex.toInt - v_20.toInt)) (by omega) v_20 r_16 g_8 u_15 (by omega) _ _ _ (lv_sub hl [0, 2, 1, 4, 5] rfl) (hP.sub [0, 1, 2, 3, 4] rfl) (hD.sub [0, 1, 2, 3, 4] (by decide) rfl) hS rfl
  exact LP_13 (Int.toNat (hex.toInt - 0)) 0 r_1 (-1) cwf (by have : (0 : Int32).toInt = 0 := rfl; omega) _ _ _ (lv_sub hl [0, 1, 2, 3, 4] rfl) (hP.sub [0, 1, 2, 3, 4] rfl) (hD.sub [0, 1, 2, 3, 4] (by decide) rfl) hS rfl

set_option maxHeartbeats 4000000 in
set_option maxRecDepth 100000 in
theorem x_leftAtWorst (l : Launch) (G : va_G) (t : Nat → ClassId) (cl : Nat) (v0 : Int64) (ac : Nat) (cw : Nat) (cwf : Nat → Int32) (hh : Nat) (p1 : Nat) (p2 : Nat) (p3 : Nat) (p4 : Nat) (q1 : Nat → Int32) (hli : Int32) (hro : Int32) (hse : Int32) (hla : Int32) (hpl : Int32) (hex : Int32) (hsi : Int64) (ha1 : Nat) (ha2 : Nat) (ha3 : Nat) (ha4 : Nat) (ha5 : Nat) (ha6 : Nat) (ha7 : Nat) (ha8 : Nat) (hc : Nat) (h_hro : 0 ≤ hro.toInt ∧ hro.toInt ≤ 6) (h_hse : 0 ≤ hse.toInt ∧ hse.toInt ≤ 6) (h_hpl : 0 ≤ hpl.toInt ∧ hpl.toInt ≤ 9) (h_hex : 0 ≤ hex.toInt ∧ hex.toInt ≤ 7) : Ct l G t yX2_leftAtWorst cX2_leftAtWorst 4 (some .int) ({ frames := 3, cells := 0, slots := 0, locals := 74 }) [.ref cl, .long v0] [(cl, .inr (2, [.ref ac, .ref cw])), (cw, .inl (t 1, 9, .inl cwf)), (ac, .inr (0, [.ref hh, .ref p1, .ref p2, .ref p3, .ref p4])), (p1, .inl (t 1, 420, .inl q1)), (hh, .inr (5, [.int hli, .int hro, .int hse, .int hla, .int hpl, .int hex, .long hsi, .ref ha1, .ref ha2, .ref ha3, .ref ha4, .ref ha5, .ref ha6, .ref ha7, .ref ha8, .ref hc]))] (QI G (fun r (u : (Nat → Int32)) => True) (fun (u : (Nat → Int32)) => [(cl, .inr (2, [.ref ac, .ref cw])), (cw, .inl (t 1, 9, .inl u)), (ac, .inr (0, [.ref hh, .ref p1, .ref p2, .ref p3, .ref p4])), (p1, .inl (t 1, 420, .inl q1)), (hh, .inr (5, [.int hli, .int hro, .int hse, .int hla, .int hpl, .int hex, .long hsi, .ref ha1, .ref ha2, .ref ha3, .ref ha4, .ref ha5, .ref ha6, .ref ha7, .ref ha8, .ref hc]))])) := by
  refine ent (by decide) (Nat.le_of_ble_eq_true rfl) ?_
  intro p e s m args below meth c hx hb hr hml hts hown hlocks hin A hA hK hO hP hD hS ls hl
  have hown : s.vm.findClass RX2 = some m.cls := hown
  have hl : lv_has ls 4 [(0, .ref cl), (1, .long v0)] := hl
  have C0 : Cx p s m args c cX2_leftAtWorst 4 RX2 G t := ⟨hx, hb, hml, hown, hts, hK, hO⟩
  refine lv_aload_n hx hb dX2_leftAtWorst_0 rfl (lv_at hl 0 rfl) ?_
  refine lv_lload_n hx hb dX2_leftAtWorst_1 rfl (lv_at hl 1 rfl) ?_
  refine goI (rnV C0 (x_bestQuestion l G t cl v0 ac cw cwf hh p1 p2 p3 p4 q1 hli hro hse hla hpl hex hsi ha1 ha2 ha3 ha4 ha5 ha6 ha7 ha8 hc (by omega) (by omega) (by omega) (by omega)) lkX2_78 ⟨by decide, by decide⟩ (hP.sub (ws' := [(cl, .inr (2, [.ref ac, .ref cw])), (cw, .inl (t 1, 9, .inl cwf)), (ac, .inr (0, [.ref hh, .ref p1, .ref p2, .ref p3, .ref p4])), (p1, .inl (t 1, 420, .inl q1)), (hh, .inr (5, [.int hli, .int hro, .int hse, .int hla, .int hpl, .int hex, .long hsi, .ref ha1, .ref ha2, .ref ha3, .ref ha4, .ref ha5, .ref ha6, .ref ha7, .ref ha8, .ref hc]))]) [0, 1, 2, 3, 4] rfl) (hD.sub (ws' := [(cl, .inr (2, [.ref ac, .ref cw])), (cw, .inl (t 1, 9, .inl cwf)), (ac, .inr (0, [.ref hh, .ref p1, .ref p2, .ref p3, .ref p4])), (p1, .inl (t 1, 420, .inl q1)), (hh, .inr (5, [.int hli, .int hro, .int hse, .int hla, .int hpl, .int hex, .long hsi, .ref ha1, .ref ha2, .ref ha3, .ref ha4, .ref ha5, .ref ha6, .ref ha7, .ref ha8, .ref hc]))]) [0, 1, 2, 3, 4] (by decide) rfl) 0 2 rfl rfl rfl rfl hl.1 (rest := []) rfl (Nat.le_of_ble_eq_true rfl) dX2_leftAtWorst_2 ⟨by decide, by decide⟩) hP hD hS hA [0, 1, 2, 3, 4] [] (wr := []) rfl rfl (by decide) (by decide) (fun r_2 u H locs h_3 hP hD hS => ?_)
  obtain ⟨u_1, eu_1⟩ : ∃ z, z = u := ⟨_, rfl⟩
  subst eu_1
  have hP : va_P G vwCl [(cl, .inr (2, [.ref ac, .ref cw])), (cw, .inl (t 1, 9, .inl u_1)), (ac, .inr (0, [.ref hh, .ref p1, .ref p2, .ref p3, .ref p4])), (p1, .inl (t 1, 420, .inl q1)), (hh, .inr (5, [.int hli, .int hro, .int hse, .int hla, .int hpl, .int hex, .long hsi, .ref ha1, .ref ha2, .ref ha3, .ref ha4, .ref ha5, .ref ha6, .ref ha7, .ref ha8, .ref hc]))] H := hP
  have hD : va_D A [(cl, .inr (2, [.ref ac, .ref cw])), (cw, .inl (t 1, 9, .inl u_1)), (ac, .inr (0, [.ref hh, .ref p1, .ref p2, .ref p3, .ref p4])), (p1, .inl (t 1, 420, .inl q1)), (hh, .inr (5, [.int hli, .int hro, .int hse, .int hla, .int hpl, .int hex, .long hsi, .ref ha1, .ref ha2, .ref ha3, .ref ha4, .ref ha5, .ref ha6, .ref ha7, .ref ha8, .ref hc]))] := hD
  refine W.widen (k := 0) (n := 0) (Nat.le_of_ble_eq_true rfl) (Nat.le_of_ble_eq_true rfl) ?_
  refine lv_istore_n (lv' := [(3, .int r_2), (0, .ref cl), (1, .long v0)]) hx hb dX2_leftAtWorst_5 rfl hl (by decide) rfl (fun ls hl => ?_)
  refine lv_iload_n hx hb dX2_leftAtWorst_6 rfl (lv_at hl 0 rfl) ?_
  refine lv_iconst (v := (-1)) hx hb dX2_leftAtWorst_7 (by decide) ?_
  refine bI_ne (tgt := 18) hx hb dX2_leftAtWorst_8 (by decide) r_2.toInt (-1) rfl rfl (fun c_4 => ?_) (fun c_4 => ?_)
  · refine lv_aload_n hx hb dX2_leftAtWorst_18 rfl (lv_at hl 1 rfl) ?_
    refine lv_iload_n hx hb dX2_leftAtWorst_19 rfl (lv_at hl 0 rfl) ?_
    refine lv_lload_n hx hb dX2_leftAtWorst_20 rfl (lv_at hl 2 rfl) ?_
    refine goI (rnV C0 (x_leftByAsking l G t cl r_2 v0 ac cw u_1 hh p1 p2 p3 p4 q1 hli hro hse hla hpl hex hsi ha1 ha2 ha3 ha4 ha5 ha6 ha7 ha8 hc (by omega) (by omega) (by omega) (by omega)) lkX2_74 ⟨by decide, by decide⟩ (hP.sub (ws' := [(cl, .inr (2, [.ref ac, .ref cw])), (cw, .inl (t 1, 9, .inl u_1)), (ac, .inr (0, [.ref hh, .ref p1, .ref p2, .ref p3, .ref p4])), (p1, .inl (t 1, 420, .inl q1)), (hh, .inr (5, [.int hli, .int hro, .int hse, .int hla, .int hpl, .int hex, .long hsi, .ref ha1, .ref ha2, .ref ha3, .ref ha4, .ref ha5, .ref ha6, .ref ha7, .ref ha8, .ref hc]))]) [0, 1, 2, 3, 4] rfl) (hD.sub (ws' := [(cl, .inr (2, [.ref ac, .ref cw])), (cw, .inl (t 1, 9, .inl u_1)), (ac, .inr (0, [.ref hh, .ref p1, .ref p2, .ref p3, .ref p4])), (p1, .inl (t 1, 420, .inl q1)), (hh, .inr (5, [.int hli, .int hro, .int hse, .int hla, .int hpl, .int hex, .long hsi, .ref ha1, .ref ha2, .ref ha3, .ref ha4, .ref ha5, .ref ha6, .ref ha7, .ref ha8, .ref hc]))]) [0, 1, 2, 3, 4] (by decide) rfl) 0 2 rfl rfl rfl rfl hl.1 (rest := []) rfl (Nat.le_of_ble_eq_true rfl) dX2_leftAtWorst_21 ⟨by decide, by decide⟩) hP hD hS hA [0, 1, 2, 3, 4] [] (wr := []) rfl rfl (by decide) (by decide) (fun r_6 u H locs h_7 hP hD hS => ?_)
    obtain ⟨u_5, eu_5⟩ : ∃ z, z = u := ⟨_, rfl⟩
    subst eu_5
    have hP : va_P G vwCl [(cl, .inr (2, [.ref ac, .ref cw])), (cw, .inl (t 1, 9, .inl u_5)), (ac, .inr (0, [.ref hh, .ref p1, .ref p2, .ref p3, .ref p4])), (p1, .inl (t 1, 420, .inl q1)), (hh, .inr (5, [.int hli, .int hro, .int hse, .int hla, .int hpl, .int hex, .long hsi, .ref ha1, .ref ha2, .ref ha3, .ref ha4, .ref ha5, .ref ha6, .ref ha7, .ref ha8, .ref hc]))] H := hP
    have hD : va_D A [(cl, .inr (2, [.ref ac, .ref cw])), (cw, .inl (t 1, 9, .inl u_5)), (ac, .inr (0, [.ref hh, .ref p1, .ref p2, .ref p3, .ref p4])), (p1, .inl (t 1, 420, .inl q1)), (hh, .inr (5, [.int hli, .int hro, .int hse, .int hla, .int hpl, .int hex, .long hsi, .ref ha1, .ref ha2, .ref ha3, .ref ha4, .ref ha5, .ref ha6, .ref ha7, .ref ha8, .ref hc]))] := hD
    refine W.widen (k := 0) (n := 0) (Nat.le_of_ble_eq_true rfl) (Nat.le_of_ble_eq_true rfl) ?_
    exact rtI hx hb hr hlocks hS u_5 (trivial) (hP.sub [0, 1, 2, 3, 4] rfl) (hD.sub [0, 1, 2, 3, 4] (by decide) rfl) dX2_leftAtWorst_24
  · refine lv_lload_n hx hb dX2_leftAtWorst_11 rfl (lv_at hl 2 rfl) ?_
    refine goI (rnS C0 (j_lbc l G t v0) lkX2_65 ⟨by decide, by decide⟩ (hP.sub (ws' := []) [] rfl) (hD.sub (ws' := []) [] (by decide) rfl) rfl hl.1 (rest := []) rfl (Nat.le_of_ble_eq_true rfl) dX2_leftAtWorst_12 ⟨by decide, by decide⟩) hP hD hS hA [] [0, 1, 2, 3, 4] (wr := [(cl, .inr (2, [.ref ac, .ref cw])), (cw, .inl (t 1, 9, .inl u_1)), (ac, .inr (0, [.ref hh, .ref p1, .ref p2, .ref p3, .ref p4])), (p1, .inl (t 1, 420, .inl q1)), (hh, .inr (5, [.int hli, .int hro, .int hse, .int hla, .int hpl, .int hex, .long hsi, .ref ha1, .ref ha2, .ref ha3, .ref ha4, .ref ha5, .ref ha6, .ref ha7, .ref ha8, .ref hc]))]) rfl rfl (by decide) (by decide) (fun r_8 u H locs h_9 hP hD hS => ?_)
    have hP : va_P G vwCl [(cl, .inr (2, [.ref ac, .ref cw])), (cw, .inl (t 1, 9, .inl u_1)), (ac, .inr (0, [.ref hh, .ref p1, .ref p2, .ref p3, .ref p4])), (p1, .inl (t 1, 420, .inl q1)), (hh, .inr (5, [.int hli, .int hro, .int hse, .int hla, .int hpl, .int hex, .long hsi, .ref ha1, .ref ha2, .ref ha3, .ref ha4, .ref ha5, .ref ha6, .ref ha7, .ref ha8, .ref hc]))] H := hP
    have hD : va_D A [(cl, .inr (2, [.ref ac, .ref cw])), (cw, .inl (t 1, 9, .inl u_1)), (ac, .inr (0, [.ref hh, .ref p1, .ref p2, .ref p3, .ref p4])), (p1, .inl (t 1, 420, .inl q1)), (hh, .inr (5, [.int hli, .int hro, .int hse, .int hla, .int hpl, .int hex, .long hsi, .ref ha1, .ref ha2, .ref ha3, .ref ha4, .ref ha5, .ref ha6, .ref ha7, .ref ha8, .ref hc]))] := hD
    refine W.widen (k := 0) (n := 0) (Nat.le_of_ble_eq_true rfl) (Nat.le_of_ble_eq_true rfl) ?_
    refine lv_goto (tgt := 24) hx hb dX2_leftAtWorst_15 (by decide) ?_
    exact rtI hx hb hr hlocks hS u_1 (trivial) (hP.sub [0, 1, 2, 3, 4] rfl) (hD.sub [0, 1, 2, 3, 4] (by decide) rfl) dX2_leftAtWorst_24

set_option maxHeartbeats 4000000 in
set_option maxRecDepth 100000 in
theorem x_onlyPlace (l : Launch) (G : va_G) (t : Nat → ClassId) (cl : Nat) (a0 : Int32) (v0 : Int64) (ac : Nat) (cw : Nat) (hh : Nat) (p1 : Nat) (p2 : Nat) (p3 : Nat) (p4 : Nat) (q1 : Nat → Int32) : Ct l G t yX2_onlyPlace cX2_onlyPlace 7 (some .int) ({ frames := 1, cells := 0, slots := 0, locals := 22 }) [.ref cl, .int a0, .long v0] [(cl, .inr (2, [.ref ac, .ref cw])), (ac, .inr (0, [.ref hh, .ref p1, .ref p2, .ref p3, .ref p4])), (p1, .inl (t 1, 420, .inl q1))] (QI G (fun r (u : Unit) => True) (fun (u : Unit) => [(cl, .inr (2, [.ref ac, .ref cw])), (ac, .inr (0, [.ref hh, .ref p1, .ref p2, .ref p3, .ref p4])), (p1, .inl (t 1, 420, .inl q1))])) := by
  refine ent (by decide) (Nat.le_of_ble_eq_true rfl) ?_
  intro p e s m args below meth c hx hb hr hml hts hown hlocks hin A hA hK hO hP hD hS ls hl
  have hown : s.vm.findClass RX2 = some m.cls := hown
  have hl : lv_has ls 7 [(0, .ref cl), (1, .int a0), (2, .long v0)] := hl
  have C0 : Cx p s m args c cX2_onlyPlace 7 RX2 G t := ⟨hx, hb, hml, hown, hts, hK, hO⟩
  have := zrng a0
  refine lv_iconst (v := (-1)) hx hb dX2_onlyPlace_0 (by decide) ?_
  refine lv_istore (lv' := [(4, .int (-1)), (0, .ref cl), (1, .int a0), (2, .long v0)]) hx hb dX2_onlyPlace_1 hl (by decide) rfl (fun ls hl => ?_)
  refine lv_iconst (v := 0) hx hb dX2_onlyPlace_3 (by decide) ?_
  refine lv_istore (lv' := [(5, .int 0), (4, .int (-1)), (0, .ref cl), (1, .int a0), (2, .long v0)]) hx hb dX2_onlyPlace_4 hl (by decide) rfl (fun ls hl => ?_)
  have LP_7 : ∀ (n : Nat) (g_4 : Int32) (g_6 : Int32) (b_5 : 0 ≤ g_4.toInt) (H : Heap) (locs : List Loc) (ls : Array Slot), lv_has ls 7 [(5, .int g_4), (4, .int g_6), (0, .ref cl), (1, .int a0), (2, .long v0)] → va_P G vwCl [(cl, .inr (2, [.ref ac, .ref cw])), (ac, .inr (0, [.ref hh, .ref p1, .ref p2, .ref p3, .ref p4])), (p1, .inl (t 1, 420, .inl q1))] H → va_D A [(cl, .inr (2, [.ref ac, .ref cw])), (ac, .inr (0, [.ref hh, .ref p1, .ref p2, .ref p3, .ref p4])), (p1, .inl (t 1, 420, .inl q1))] → va_S A s.heap H locs → Int.toNat (60 - g_4.toInt) = n → W p l e ({ frames := 1, cells := 0, slots := 0, locals := 22 }) s m args below meth c H locs 0 0 (MQ below ((QI G (fun r (u : Unit) => True) (fun (u : Unit) => [(cl, .inr (2, [.ref ac, .ref cw])), (ac, .inr (0, [.ref hh, .ref p1, .ref p2, .ref p3, .ref p4])), (p1, .inl (t 1, 420, .inl q1))])) A) args s 0 0 A) (F0 m 6 ls []) := by
    intro n
    induction n using Nat.strongRecOn with
    | ind n ih_6 =>
      intro g_4 g_6 b_5 H locs ls hl hP hD hS hmu
      have := zrng g_4
      have := zrng g_6
      refine lv_iload hx hb dX2_onlyPlace_6 (lv_at hl 0 rfl) ?_
      refine lv_bipush (v := 60) hx hb dX2_onlyPlace_8 (by decide) ?_
      refine bI_ge (tgt := 61) hx hb dX2_onlyPlace_10 (by decide) g_4.toInt 60 rfl rfl (fun c_8 => ?_) (fun c_8 => ?_)
      · refine lv_iload hx hb dX2_onlyPlace_61 (lv_at hl 1 rfl) ?_
        exact rtI hx hb hr hlocks hS () (trivial) (hP.sub [0, 1, 2] rfl) (hD.sub [0, 1, 2] (by decide) rfl) dX2_onlyPlace_63
      · refine lv_lload_n hx hb dX2_onlyPlace_13 rfl (lv_at hl 4 rfl) ?_
        refine lv_iload hx hb dX2_onlyPlace_14 (lv_at hl 0 rfl) ?_
        refine lv_lshr hx hb dX2_onlyPlace_16 rfl (gnL (fun v_9 => ?_))
        refine lv_lconst (v := 1) hx hb dX2_onlyPlace_17 (by decide) ?_
        refine lv_land hx hb dX2_onlyPlace_18 (gnL (fun v_10 => ?_))
        refine lv_lconst (v := 1) hx hb dX2_onlyPlace_19 (by decide) ?_
        refine bL_ne (tgt := 55) hx hb dX2_onlyPlace_20 dX2_onlyPlace_21 (by decide) v_10.toInt 1 rfl rfl (fun c_11 => ?_) (fun c_11 => ?_)
        · first | refine incZ hx hb dX2_onlyPlace_55 hl (k := 0) rfl g_4.toInt rfl (by have := zrng g_4; omega) (by decide) (fun v_12 zv_12 ls hl => ?_) | refine incU hx hb dX2_onlyPlace_55 hl (k := 0) rfl (by decide) (fun v_12 ls hl => ?_)
          have hl : lv_has ls 7 [(5, .int v_12), (4, .int g_6), (0, .ref cl), (1, .int a0), (2, .long v0)] := hl
          refine lv_goto (tgt := 6) hx hb dX2_onlyPlace_58 (by decide) ?_
          exact ih_6 (Int.toNat (60 - v_12.toInt)) (by omega) v_12 g_6 (by omega) _ _ _ (lv_sub hl [0, 1, 2, 3, 4] rfl) (hP.sub [0, 1, 2] rfl) (hD.sub [0, 1, 2] (by decide) rfl) hS rfl
        · refine lv_aload_n hx hb dX2_onlyPlace_24 rfl (lv_at hl 2 rfl) ?_
          refine gf hx hb hts hown hK hP 0 inT2 rfl rfl 0 (by decide) tw2_27 rfl dX2_onlyPlace_25 ?_
          refine lv_iload_n hx hb dX2_onlyPlace_28 rfl (lv_at hl 3 rfl) ?_
          refine lv_iload hx hb dX2_onlyPlace_29 (lv_at hl 0 rfl) ?_
          refine goI (rnV C0 (x_placeOf l G t ac a0 g_4 hh p1 p2 p3 p4 q1) lkX2_53 ⟨by decide, by decide⟩ (hP.sub (ws' := [(ac, .inr (0, [.ref hh, .ref p1, .ref p2, .ref p3, .ref p4])), (p1, .inl (t 1, 420, .inl q1))]) [1, 2] rfl) (hD.sub (ws' := [(ac, .inr (0, [.ref hh, .ref p1, .ref p2, .ref p3, .ref p4])), (p1, .inl (t 1, 420, .inl q1))]) [1, 2] (by decide) rfl) 0 0 rfl rfl rfl rfl hl.1 (rest := []) rfl (Nat.le_of_ble_eq_true rfl) dX2_onlyPlace_31 ⟨by decide, by decide⟩) hP hD hS hA [1, 2] [0] (wr := [(cl, .inr (2, [.ref ac, .ref cw]))]) rfl rfl (by decide) (by decide) (fun r_13 u H locs h_14 hP hD hS => ?_)
          have hP : va_P G vwCl [(cl, .inr (2, [.ref ac, .ref cw])), (ac, .inr (0, [.ref hh, .ref p1, .ref p2, .ref p3, .ref p4])), (p1, .inl (t 1, 420, .inl q1))] H := hP
          have hD : va_D A [(cl, .inr (2, [.ref ac, .ref cw])), (ac, .inr (0, [.ref hh, .ref p1, .ref p2, .ref p3, .ref p4])), (p1, .inl (t 1, 420, .inl q1))] := hD
          refine W.widen (k := 0) (n := 0) (Nat.le_of_ble_eq_true rfl) (Nat.le_of_ble_eq_true rfl) ?_
          refine lv_istore (lv' := [(6, .int r_13), (5, .int g_4), (4, .int g_6), (0, .ref cl), (1, .int a0), (2, .long v0)]) hx hb dX2_onlyPlace_34 hl (by decide) rfl (fun ls hl => ?_)
          refine lv_iload hx hb dX2_onlyPlace_36 (lv_at hl 2 rfl) ?_
          refine lv_iconst (v := (-1)) hx hb dX2_onlyPlace_38 (by decide) ?_
          refine bI_eq (tgt := 51) hx hb dX2_onlyPlace_39 (by decide) g_6.toInt (-1) rfl rfl (fun c_15 => ?_) (fun c_15 => ?_)
          · refine lv_iload hx hb dX2_onlyPlace_51 (lv_at hl 0 rfl) ?_
            refine lv_istore (lv' := [(4, .int r_13), (6, .int r_13), (5, .int g_4), (0, .ref cl), (1, .int a0), (2, .long v0)]) hx hb dX2_onlyPlace_53 hl (by decide) rfl (fun ls hl => ?_)
            first | refine incZ hx hb dX2_onlyPlace_55 hl (k := 2) rfl g_4.toInt rfl (by have := zrng g_4; omega) (by decide) (fun v_16 zv_16 ls hl => ?_) | refine incU hx hb dX2_onlyPlace_55 hl (k := 2) rfl (by decide) (fun v_16 ls hl => ?_)
            have hl : lv_has ls 7 [(5, .int v_16), (4, .int r_13), (6, .int r_13), (0, .ref cl), (1, .int a0), (2, .long v0)] := hl
            refine lv_goto (tgt := 6) hx hb dX2_onlyPlace_58 (by decide) ?_
            exact ih_6 (Int.toNat (60 - v_16.toInt)) (by omega) v_16 r_13 (by omega) _ _ _ (lv_sub hl [0, 1, 3, 4, 5] rfl) (hP.sub [0, 1, 2] rfl) (hD.sub [0, 1, 2] (by decide) rfl) hS rfl
          · refine lv_iload hx hb dX2_onlyPlace_42 (lv_at hl 2 rfl) ?_
            refine lv_iload hx hb dX2_onlyPlace_44 (lv_at hl 0 rfl) ?_
            refine bI_eq (tgt := 51) hx hb dX2_onlyPlace_46 (by decide) g_6.toInt r_13.toInt rfl rfl (fun c_17 => ?_) (fun c_17 => ?_)
            · refine lv_iload hx hb dX2_onlyPlace_51 (lv_at hl 0 rfl) ?_
              refine lv_istore (lv' := [(4, .int r_13), (6, .int r_13), (5, .int g_4), (0, .ref cl), (1, .int a0), (2, .long v0)]) hx hb dX2_onlyPlace_53 hl (by decide) rfl (fun ls hl => ?_)
              first | refine incZ hx hb dX2_onlyPlace_55 hl (k := 2) rfl g_4.toInt rfl (by have := zrng g_4; omega) (by decide) (fun v_18 zv_18 ls hl => ?_) | refine incU hx hb dX2_onlyPlace_55 hl (k := 2) rfl (by decide) (fun v_18 ls hl => ?_)
              have hl : lv_has ls 7 [(5, .int v_18), (4, .int r_13), (6, .int r_13), (0, .ref cl), (1, .int a0), (2, .long v0)] := hl
              refine lv_goto (tgt := 6) hx hb dX2_onlyPlace_58 (by decide) ?_
              exact ih_6 (Int.toNat (60 - v_18.toInt)) (by omega) v_18 r_13 (by omega) _ _ _ (lv_sub hl [0, 1, 3, 4, 5] rfl) (hP.sub [0, 1, 2] rfl) (hD.sub [0, 1, 2] (by decide) rfl) hS rfl
            · refine lv_iconst (v := (-1)) hx hb dX2_onlyPlace_49 (by decide) ?_
              exact rtI hx hb hr hlocks hS () (trivial) (hP.sub [0, 1, 2] rfl) (hD.sub [0, 1, 2] (by decide) rfl) dX2_onlyPlace_50
  exact LP_7 (Int.toNat (60 - 0)) 0 (-1) (by have : (0 : Int32).toInt = 0 := rfl; omega) _ _ _ (lv_sub hl [0, 1, 2, 3, 4] rfl) (hP.sub [0, 1, 2] rfl) (hD.sub [0, 1, 2] (by decide) rfl) hS rfl

set_option maxHeartbeats 4000000 in
set_option maxRecDepth 100000 in
theorem x_stepsKnowing (l : Launch) (G : va_G) (t : Nat → ClassId) (hb0 : Nat) (a0 : Int32) (b0 : Int32) (ac : Nat) (ga : Nat) (hh : Nat) (p1 : Nat) (p2 : Nat) (p3 : Nat) (p4 : Nat) (q1 : Nat → Int32) (q2 : Nat → Int32) (q3 : Nat → Int32) (q4 : Nat → Int32) (hli : Int32) (hro : Int32) (hse : Int32) (hla : Int32) (hpl : Int32) (hex : Int32) (hsi : Int64) (ha1 : Nat) (ha2 : Nat) (ha3 : Nat) (ha4 : Nat) (ha5 : Nat) (ha6 : Nat) (ha7 : Nat) (ha8 : Nat) (hc : Nat) (hf1 : Nat → Int32) (hf2 : Nat → Int32) (hf3 : Nat → Int32) (h_hro : 0 ≤ hro.toInt ∧ hro.toInt ≤ 6) (h_hse : 0 ≤ hse.toInt ∧ hse.toInt ≤ 6) (h_hpl : 0 ≤ hpl.toInt ∧ hpl.toInt ≤ 9) (h_hex : 0 ≤ hex.toInt ∧ hex.toInt ≤ 7) (h_hf1 : Rp (fun _ v => 0 ≤ v ∧ v ≤ 5) 9 hf1) (h_hf2 : Rp (fun _ v => 0 ≤ v ∧ v ≤ 5) 9 hf2) : Ct l G t yX4_stepsKnowing cX4_stepsKnowing 6 (some .int) ({ frames := 5, cells := 0, slots := 0, locals := 119 }) [.ref hb0, .int a0, .int b0] [(hb0, .inr (4, [.ref ac, .ref ga])), (ac, .inr (0, [.ref hh, .ref p1, .ref p2, .ref p3, .ref p4])), (p1, .inl (t 1, 420, .inl q1)), (p2, .inl (t 3, 60, .inl q2)), (p3, .inl (t 1, 2160, .inl q3)), (p4, .inl (t 1, 2160, .inl q4)), (hh, .inr (5, [.int hli, .int hro, .int hse, .int hla, .int hpl, .int hex, .long hsi, .ref ha1, .ref ha2, .ref ha3, .ref ha4, .ref ha5, .ref ha6, .ref ha7, .ref ha8, .ref hc])), (ha1, .inl (t 1, 9, .inl hf1)), (ha2, .inl (t 1, 9, .inl hf2)), (ha3, .inl (t 1, 9, .inl hf3))] (QI G (fun r (u : (Nat → Int32) × (Nat → Int32) × (Nat → Int32)) => True) (fun (u : (Nat → Int32) × (Nat → Int32) × (Nat → Int32)) => [(hb0, .inr (4, [.ref ac, .ref ga])), (ac, .inr (0, [.ref hh, .ref p1, .ref p2, .ref p3, .ref p4])), (p1, .inl (t 1, 420, .inl q1)), (p2, .inl (t 3, 60, .inl u.1)), (p3, .inl (t 1, 2160, .inl u.2.1)), (p4, .inl (t 1, 2160, .inl u.2.2)), (hh, .inr (5, [.int hli, .int hro, .int hse, .int hla, .int hpl, .int hex, .long hsi, .ref ha1, .ref ha2, .ref ha3, .ref ha4, .ref ha5, .ref ha6, .ref ha7, .ref ha8, .ref hc])), (ha1, .inl (t 1, 9, .inl hf1)), (ha2, .inl (t 1, 9, .inl hf2)), (ha3, .inl (t 1, 9, .inl hf3))])) := by
  refine ent (by decide) (Nat.le_of_ble_eq_true rfl) ?_
  intro p e s m args below meth c hx hb hr hml hts hown hlocks hin A hA hK hO hP hD hS ls hl
  have hown : s.vm.findClass RX4 = some m.cls := hown
  have hl : lv_has ls 6 [(0, .ref hb0), (1, .int a0), (2, .int b0)] := hl
  have C0 : Cx p s m args c cX4_stepsKnowing 6 RX4 G t := ⟨hx, hb, hml, hown, hts, hK, hO⟩
  have := zrng a0
  have := zrng b0
  refine lv_iconst (v := 0) hx hb dX4_stepsKnowing_0 (by decide) ?_
  refine lv_istore_n (lv' := [(3, .int 0), (0, .ref hb0), (1, .int a0), (2, .int b0)]) hx hb dX4_stepsKnowing_1 rfl hl (by decide) rfl (fun ls hl => ?_)
  refine lv_iconst (v := 0) hx hb dX4_stepsKnowing_2 (by decide) ?_
  refine lv_istore (lv' := [(4, .int 0), (3, .int 0), (0, .ref hb0), (1, .int a0), (2, .int b0)]) hx hb dX4_stepsKnowing_3 hl (by decide) rfl (fun ls hl => ?_)
  have LP_13 : ∀ (n : Nat) (g_7 : Int32) (g_9 : Int32) (f_10 : Nat → Int32) (f_11 : Nat → Int32) (f_12 : Nat → Int32) (b_8 : 0 ≤ g_7.toInt) (H : Heap) (locs : List Loc) (ls : Array Slot), lv_has ls 6 [(4, .int g_7), (3, .int g_9), (0, .ref hb0), (1, .int a0), (2, .int b0)] → va_P G vwCl [(hb0, .inr (4, [.ref ac, .ref ga])), (ac, .inr (0, [.ref hh, .ref p1, .ref p2, .ref p3, .ref p4])), (p1, .inl (t 1, 420, .inl q1)), (p2, .inl (t 3, 60, .inl f_10)), (p3, .inl (t 1, 2160, .inl f_11)), (p4, .inl (t 1, 2160, .inl f_12)), (hh, .inr (5, [.int hli, .int hro, .int hse, .int hla, .int hpl, .int hex, .long hsi, .ref ha1, .ref ha2, .ref ha3, .ref ha4, .ref ha5, .ref ha6, .ref ha7, .ref ha8, .ref hc])), (ha1, .inl (t 1, 9, .inl hf1)), (ha2, .inl (t 1, 9, .inl hf2)), (ha3, .inl (t 1, 9, .inl hf3))] H → va_D A [(hb0, .inr (4, [.ref ac, .ref ga])), (ac, .inr (0, [.ref hh, .ref p1, .ref p2, .ref p3, .ref p4])), (p1, .inl (t 1, 420, .inl q1)), (p2, .inl (t 3, 60, .inl f_10)), (p3, .inl (t 1, 2160, .inl f_11)), (p4, .inl (t 1, 2160, .inl f_12)), (hh, .inr (5, [.int hli, .int hro, .int hse, .int hla, .int hpl, .int hex, .long hsi, .ref ha1, .ref ha2, .ref ha3, .ref ha4, .ref ha5, .ref ha6, .ref ha7, .ref ha8, .ref hc])), (ha1, .inl (t 1, 9, .inl hf1)), (ha2, .inl (t 1, 9, .inl hf2)), (ha3, .inl (t 1, 9, .inl hf3))] → va_S A s.heap H locs → Int.toNat (b0.toInt - g_7.toInt) = n → W p l e ({ frames := 5, cells := 0, slots := 0, locals := 119 }) s m args below meth c H locs 0 0 (MQ below ((QI G (fun r (u : (Nat → Int32) × (Nat → Int32) × (Nat → Int32)) => True) (fun (u : (Nat → Int32) × (Nat → Int32) × (Nat → Int32)) => [(hb0, .inr (4, [.ref ac, .ref ga])), (ac, .inr (0, [.ref hh, .ref p1, .ref p2, .ref p3, .ref p4])), (p1, .inl (t 1, 420, .inl q1)), (p2, .inl (t 3, 60, .inl u.1)), (p3, .inl (t 1, 2160, .inl u.2.1)), (p4, .inl (t 1, 2160, .inl u.2.2)), (hh, .inr (5, [.int hli, .int hro, .int hse, .int hla, .int hpl, .int hex, .long hsi, .ref ha1, .ref ha2, .ref ha3, .ref ha4, .ref ha5, .ref ha6, .ref ha7, .ref ha8, .ref hc])), (ha1, .inl (t 1, 9, .inl hf1)), (ha2, .inl (t 1, 9, .inl hf2)), (ha3, .inl (t 1, 9, .inl hf3))])) A) args s 0 0 A) (F0 m 5 ls []) := by
    intro n
    induction n using Nat.strongRecOn with
    | ind n ih_5 =>
      intro g_7 g_9 f_10 f_11 f_12 b_8 H locs ls hl hP hD hS hmu
      have := zrng g_7
      have := zrng g_9
      refine lv_iload hx hb dX4_stepsKnowing_5 (lv_at hl 0 rfl) ?_
      refine lv_iload_n hx hb dX4_stepsKnowing_7 rfl (lv_at hl 4 rfl) ?_
      refine bI_ge (tgt := 45) hx hb dX4_stepsKnowing_8 (by decide) g_7.toInt b0.toInt rfl rfl (fun c_14 => ?_) (fun c_14 => ?_)
      · refine lv_iload_n hx hb dX4_stepsKnowing_45 rfl (lv_at hl 1 rfl) ?_
        exact rtI hx hb hr hlocks hS (f_10, f_11, f_12) (trivial) (hP.sub [0, 1, 2, 3, 4, 5, 6, 7, 8, 9] rfl) (hD.sub [0, 1, 2, 3, 4, 5, 6, 7, 8, 9] (by decide) rfl) dX4_stepsKnowing_46
      · refine lv_aload_n hx hb dX4_stepsKnowing_11 rfl (lv_at hl 2 rfl) ?_
        refine gf hx hb hts hown hK hP 0 inT4 rfl rfl 0 (by decide) tw2_40 rfl dX4_stepsKnowing_12 ?_
        refine lv_iload_n hx hb dX4_stepsKnowing_15 rfl (lv_at hl 3 rfl) ?_
        refine lv_iload hx hb dX4_stepsKnowing_16 (lv_at hl 0 rfl) ?_
        refine goI (rnV C0 (x_stepsOut l G t ac a0 g_7 hh p1 p2 p3 p4 q1 f_10 f_11 f_12 hli hro hse hla hpl hex hsi ha1 ha2 ha3 ha4 ha5 ha6 ha7 ha8 hc hf1 hf2 hf3 (by omega) (by omega) (by omega) (by omega) h_hf1 h_hf2) lkX4_19 ⟨by decide, by decide⟩ (hP.sub (ws' := [(ac, .inr (0, [.ref hh, .ref p1, .ref p2, .ref p3, .ref p4])), (p1, .inl (t 1, 420, .inl q1)), (p2, .inl (t 3, 60, .inl f_10)), (p3, .inl (t 1, 2160, .inl f_11)), (p4, .inl (t 1, 2160, .inl f_12)), (hh, .inr (5, [.int hli, .int hro, .int hse, .int hla, .int hpl, .int hex, .long hsi, .ref ha1, .ref ha2, .ref ha3, .ref ha4, .ref ha5, .ref ha6, .ref ha7, .ref ha8, .ref hc])), (ha1, .inl (t 1, 9, .inl hf1)), (ha2, .inl (t 1, 9, .inl hf2)), (ha3, .inl (t 1, 9, .inl hf3))]) [1, 2, 3, 4, 5, 6, 7, 8, 9] rfl) (hD.sub (ws' := [(ac, .inr (0, [.ref hh, .ref p1, .ref p2, .ref p3, .ref p4])), (p1, .inl (t 1, 420, .inl q1)), (p2, .inl (t 3, 60, .inl f_10)), (p3, .inl (t 1, 2160, .inl f_11)), (p4, .inl (t 1, 2160, .inl f_12)), (hh, .inr (5, [.int hli, .int hro, .int hse, .int hla, .int hpl, .int hex, .long hsi, .ref ha1, .ref ha2, .ref ha3, .ref ha4, .ref ha5, .ref ha6, .ref ha7, .ref ha8, .ref hc])), (ha1, .inl (t 1, 9, .inl hf1)), (ha2, .inl (t 1, 9, .inl hf2)), (ha3, .inl (t 1, 9, .inl hf3))]) [1, 2, 3, 4, 5, 6, 7, 8, 9] (by decide) rfl) 0 0 rfl rfl rfl rfl hl.1 (rest := []) rfl (Nat.le_of_ble_eq_true rfl) dX4_stepsKnowing_18 ⟨by decide, by decide⟩) hP hD hS hA [1, 2, 3, 4, 5, 6, 7, 8, 9] [0] (wr := [(hb0, .inr (4, [.ref ac, .ref ga]))]) rfl rfl (by decide) (by decide) (fun r_18 u H locs h_19 hP hD hS => ?_)
        obtain ⟨u_15, u_16, u_17⟩ := u
        have hP : va_P G vwCl [(hb0, .inr (4, [.ref ac, .ref ga])), (ac, .inr (0, [.ref hh, .ref p1, .ref p2, .ref p3, .ref p4])), (p1, .inl (t 1, 420, .inl q1)), (p2, .inl (t 3, 60, .inl u_15)), (p3, .inl (t 1, 2160, .inl u_16)), (p4, .inl (t 1, 2160, .inl u_17)), (hh, .inr (5, [.int hli, .int hro, .int hse, .int hla, .int hpl, .int hex, .long hsi, .ref ha1, .ref ha2, .ref ha3, .ref ha4, .ref ha5, .ref ha6, .ref ha7, .ref ha8, .ref hc])), (ha1, .inl (t 1, 9, .inl hf1)), (ha2, .inl (t 1, 9, .inl hf2)), (ha3, .inl (t 1, 9, .inl hf3))] H := hP
        have hD : va_D A [(hb0, .inr (4, [.ref ac, .ref ga])), (ac, .inr (0, [.ref hh, .ref p1, .ref p2, .ref p3, .ref p4])), (p1, .inl (t 1, 420, .inl q1)), (p2, .inl (t 3, 60, .inl u_15)), (p3, .inl (t 1, 2160, .inl u_16)), (p4, .inl (t 1, 2160, .inl u_17)), (hh, .inr (5, [.int hli, .int hro, .int hse, .int hla, .int hpl, .int hex, .long hsi, .ref ha1, .ref ha2, .ref ha3, .ref ha4, .ref ha5, .ref ha6, .ref ha7, .ref ha8, .ref hc])), (ha1, .inl (t 1, 9, .inl hf1)), (ha2, .inl (t 1, 9, .inl hf2)), (ha3, .inl (t 1, 9, .inl hf3))] := hD
        refine W.widen (k := 0) (n := 0) (Nat.le_of_ble_eq_true rfl) (Nat.le_of_ble_eq_true rfl) ?_
        refine lv_istore (lv' := [(5, .int r_18), (4, .int g_7), (3, .int g_9), (0, .ref hb0), (1, .int a0), (2, .int b0)]) hx hb dX4_stepsKnowing_21 hl (by decide) rfl (fun ls hl => ?_)
        refine lv_iload_n hx hb dX4_stepsKnowing_23 rfl (lv_at hl 2 rfl) ?_
        refine lv_iload hx hb dX4_stepsKnowing_24 (lv_at hl 0 rfl) ?_
        refine lv_iconst (v := (-1)) hx hb dX4_stepsKnowing_26 (by decide) ?_
        refine bI_ne (tgt := 35) hx hb dX4_stepsKnowing_27 (by decide) r_18.toInt (-1) rfl rfl (fun c_20 => ?_) (fun c_20 => ?_)
        · refine lv_iload hx hb dX4_stepsKnowing_35 (lv_at hl 0 rfl) ?_
          first | refine adZ hx hb dX4_stepsKnowing_37 g_9.toInt r_18.toInt rfl rfl (by have := zrng g_9; have := zrng r_18; omega) (fun v_21 zv_21 => ?_) | refine lv_iadd hx hb dX4_stepsKnowing_37 (gnI (fun v_21 => ?_))
          refine lv_istore_n (lv' := [(3, .int v_21), (5, .int r_18), (4, .int g_7), (0, .ref hb0), (1, .int a0), (2, .int b0)]) hx hb dX4_stepsKnowing_38 rfl hl (by decide) rfl (fun ls hl => ?_)
          first | refine incZ hx hb dX4_stepsKnowing_39 hl (k := 2) rfl g_7.toInt rfl (by have := zrng g_7; omega) (by decide) (fun v_22 zv_22 ls hl => ?_) | refine incU hx hb dX4_stepsKnowing_39 hl (k := 2) rfl (by decide) (fun v_22 ls hl => ?_)
          have hl : lv_has ls 6 [(4, .int v_22), (3, .int v_21), (5, .int r_18), (0, .ref hb0), (1, .int a0), (2, .int b0)] := hl
          refine lv_goto (tgt := 5) hx hb dX4_stepsKnowing_42 (by decide) ?_
          exact ih_5 (Int.toNat (b0.toInt - v_22.toInt)) (by omega) v_22 v_21 u_15 u_16 u_17 (by omega) _ _ _ (lv_sub hl [0, 1, 3, 4, 5] rfl) (hP.sub [0, 1, 2, 3, 4, 5, 6, 7, 8, 9] rfl) (hD.sub [0, 1, 2, 3, 4, 5, 6, 7, 8, 9] (by decide) rfl) hS rfl
        · refine lv_bipush (v := 50) hx hb dX4_stepsKnowing_30 (by decide) ?_
          refine lv_goto (tgt := 37) hx hb dX4_stepsKnowing_32 (by decide) ?_
          first | refine adZ hx hb dX4_stepsKnowing_37 g_9.toInt 50 rfl rfl (by have := zrng g_9; omega) (fun v_23 zv_23 => ?_) | refine lv_iadd hx hb dX4_stepsKnowing_37 (gnI (fun v_23 => ?_))
          refine lv_istore_n (lv' := [(3, .int v_23), (5, .int r_18), (4, .int g_7), (0, .ref hb0), (1, .int a0), (2, .int b0)]) hx hb dX4_stepsKnowing_38 rfl hl (by decide) rfl (fun ls hl => ?_)
          first | refine incZ hx hb dX4_stepsKnowing_39 hl (k := 2) rfl g_7.toInt rfl (by have := zrng g_7; omega) (by decide) (fun v_24 zv_24 ls hl => ?_) | refine incU hx hb dX4_stepsKnowing_39 hl (k := 2) rfl (by decide) (fun v_24 ls hl => ?_)
          have hl : lv_has ls 6 [(4, .int v_24), (3, .int v_23), (5, .int r_18), (0, .ref hb0), (1, .int a0), (2, .int b0)] := hl
          refine lv_goto (tgt := 5) hx hb dX4_stepsKnowing_42 (by decide) ?_
          exact ih_5 (Int.toNat (b0.toInt - v_24.toInt)) (by omega) v_24 v_23 u_15 u_16 u_17 (by omega) _ _ _ (lv_sub hl [0, 1, 3, 4, 5] rfl) (hP.sub [0, 1, 2, 3, 4, 5, 6, 7, 8, 9] rfl) (hD.sub [0, 1, 2, 3, 4, 5, 6, 7, 8, 9] (by decide) rfl) hS rfl
  exact LP_13 (Int.toNat (b0.toInt - 0)) 0 0 q2 q3 q4 (by have : (0 : Int32).toInt = 0 := rfl; omega) _ _ _ (lv_sub hl [0, 1, 2, 3, 4] rfl) (hP.sub [0, 1, 2, 3, 4, 5, 6, 7, 8, 9] rfl) (hD.sub [0, 1, 2, 3, 4, 5, 6, 7, 8, 9] (by decide) rfl) hS rfl

set_option maxHeartbeats 4000000 in
set_option maxRecDepth 100000 in
theorem x_countGoodActs (l : Launch) (G : va_G) (t : Nat → ClassId) (hb0 : Nat) (a0 : Int32) (ac : Nat) (ga : Nat) (gaf : Nat → Int32) (hh : Nat) (p1 : Nat) (p2 : Nat) (p3 : Nat) (p4 : Nat) (q1 : Nat → Int32) (hli : Int32) (hro : Int32) (hse : Int32) (hla : Int32) (hpl : Int32) (hex : Int32) (hsi : Int64) (ha1 : Nat) (ha2 : Nat) (ha3 : Nat) (ha4 : Nat) (ha5 : Nat) (ha6 : Nat) (ha7 : Nat) (ha8 : Nat) (hc : Nat) (hf3 : Nat → Int32) (h_hro : 0 ≤ hro.toInt ∧ hro.toInt ≤ 6) (h_hse : 0 ≤ hse.toInt ∧ hse.toInt ≤ 6) (h_hpl : 0 ≤ hpl.toInt ∧ hpl.toInt ≤ 9) (h_hex : 0 ≤ hex.toInt ∧ hex.toInt ≤ 7) : Ct l G t yX4_countGoodActs cX4_countGoodActs 4 none ({ frames := 2, cells := 0, slots := 0, locals := 46 }) [.ref hb0, .int a0] [(hb0, .inr (4, [.ref ac, .ref ga])), (ga, .inl (t 1, 9, .inl gaf)), (ac, .inr (0, [.ref hh, .ref p1, .ref p2, .ref p3, .ref p4])), (p1, .inl (t 1, 420, .inl q1)), (hh, .inr (5, [.int hli, .int hro, .int hse, .int hla, .int hpl, .int hex, .long hsi, .ref ha1, .ref ha2, .ref ha3, .ref ha4, .ref ha5, .ref ha6, .ref ha7, .ref ha8, .ref hc])), (ha3, .inl (t 1, 9, .inl hf3))] (QV G (fun (u : (Nat → Int32)) => True) (fun (u : (Nat → Int32)) => [(hb0, .inr (4, [.ref ac, .ref ga])), (ga, .inl (t 1, 9, .inl u)), (ac, .inr (0, [.ref hh, .ref p1, .ref p2, .ref p3, .ref p4])), (p1, .inl (t 1, 420, .inl q1)), (hh, .inr (5, [.int hli, .int hro, .int hse, .int hla, .int hpl, .int hex, .long hsi, .ref ha1, .ref ha2, .ref ha3, .ref ha4, .ref ha5, .ref ha6, .ref ha7, .ref ha8, .ref hc])), (ha3, .inl (t 1, 9, .inl hf3))])) := by
  refine ent (by decide) (Nat.le_of_ble_eq_true rfl) ?_
  intro p e s m args below meth c hx hb hr hml hts hown hlocks hin A hA hK hO hP hD hS ls hl
  have hown : s.vm.findClass RX4 = some m.cls := hown
  have hl : lv_has ls 4 [(0, .ref hb0), (1, .int a0)] := hl
  have C0 : Cx p s m args c cX4_countGoodActs 4 RX4 G t := ⟨hx, hb, hml, hown, hts, hK, hO⟩
  have := zrng a0
  refine lv_iconst (v := 0) hx hb dX4_countGoodActs_0 (by decide) ?_
  refine lv_istore_n (lv' := [(2, .int 0), (0, .ref hb0), (1, .int a0)]) hx hb dX4_countGoodActs_1 rfl hl (by decide) rfl (fun ls hl => ?_)
  have LP_7 : ∀ (n : Nat) (g_4 : Int32) (f_6 : Nat → Int32) (b_5 : 0 ≤ g_4.toInt) (H : Heap) (locs : List Loc) (ls : Array Slot), lv_has ls 4 [(2, .int g_4), (0, .ref hb0), (1, .int a0)] → va_P G vwCl [(hb0, .inr (4, [.ref ac, .ref ga])), (ga, .inl (t 1, 9, .inl f_6)), (ac, .inr (0, [.ref hh, .ref p1, .ref p2, .ref p3, .ref p4])), (p1, .inl (t 1, 420, .inl q1)), (hh, .inr (5, [.int hli, .int hro, .int hse, .int hla, .int hpl, .int hex, .long hsi, .ref ha1, .ref ha2, .ref ha3, .ref ha4, .ref ha5, .ref ha6, .ref ha7, .ref ha8, .ref hc])), (ha3, .inl (t 1, 9, .inl hf3))] H → va_D A [(hb0, .inr (4, [.ref ac, .ref ga])), (ga, .inl (t 1, 9, .inl f_6)), (ac, .inr (0, [.ref hh, .ref p1, .ref p2, .ref p3, .ref p4])), (p1, .inl (t 1, 420, .inl q1)), (hh, .inr (5, [.int hli, .int hro, .int hse, .int hla, .int hpl, .int hex, .long hsi, .ref ha1, .ref ha2, .ref ha3, .ref ha4, .ref ha5, .ref ha6, .ref ha7, .ref ha8, .ref hc])), (ha3, .inl (t 1, 9, .inl hf3))] → va_S A s.heap H locs → Int.toNat (9 - g_4.toInt) = n → W p l e ({ frames := 2, cells := 0, slots := 0, locals := 46 }) s m args below meth c H locs 0 0 (MQ below ((QV G (fun (u : (Nat → Int32)) => True) (fun (u : (Nat → Int32)) => [(hb0, .inr (4, [.ref ac, .ref ga])), (ga, .inl (t 1, 9, .inl u)), (ac, .inr (0, [.ref hh, .ref p1, .ref p2, .ref p3, .ref p4])), (p1, .inl (t 1, 420, .inl q1)), (hh, .inr (5, [.int hli, .int hro, .int hse, .int hla, .int hpl, .int hex, .long hsi, .ref ha1, .ref ha2, .ref ha3, .ref ha4, .ref ha5, .ref ha6, .ref ha7, .ref ha8, .ref hc])), (ha3, .inl (t 1, 9, .inl hf3))])) A) args s 0 0 A) (F0 m 2 ls []) := by
    intro n
    induction n using Nat.strongRecOn with
    | ind n ih_2 =>
      intro g_4 f_6 b_5 H locs ls hl hP hD hS hmu
      have := zrng g_4
      refine lv_iload_n hx hb dX4_countGoodActs_2 rfl (lv_at hl 0 rfl) ?_
      refine lv_bipush (v := 9) hx hb dX4_countGoodActs_3 (by decide) ?_
      refine bI_ge (tgt := 70) hx hb dX4_countGoodActs_5 (by decide) g_4.toInt 9 rfl rfl (fun c_8 => ?_) (fun c_8 => ?_)
      · exact rtV hx hb hr hlocks hS f_6 (trivial) (hP.sub [0, 1, 2, 3, 4, 5] rfl) (hD.sub [0, 1, 2, 3, 4, 5] (by decide) rfl) dX4_countGoodActs_70
      · refine lv_aload_n hx hb dX4_countGoodActs_8 rfl (lv_at hl 1 rfl) ?_
        refine gf hx hb hts hown hK hP 0 inT4 rfl rfl 1 (by decide) tw2_41 rfl dX4_countGoodActs_9 ?_
        refine lv_iload_n hx hb dX4_countGoodActs_12 rfl (lv_at hl 0 rfl) ?_
        refine lv_iconst (v := 0) hx hb dX4_countGoodActs_13 (by decide) ?_
        refine saI hx hb hK hP hD hS 1 rfl g_4.toInt rfl (by omega) dX4_countGoodActs_14 (fun f_9 ef_9 H locs hP hD hS => ?_)
        have hP : va_P G vwCl [(hb0, .inr (4, [.ref ac, .ref ga])), (ga, .inl (t 1, 9, .inl f_9)), (ac, .inr (0, [.ref hh, .ref p1, .ref p2, .ref p3, .ref p4])), (p1, .inl (t 1, 420, .inl q1)), (hh, .inr (5, [.int hli, .int hro, .int hse, .int hla, .int hpl, .int hex, .long hsi, .ref ha1, .ref ha2, .ref ha3, .ref ha4, .ref ha5, .ref ha6, .ref ha7, .ref ha8, .ref hc])), (ha3, .inl (t 1, 9, .inl hf3))] H := hP
        have hD : va_D A [(hb0, .inr (4, [.ref ac, .ref ga])), (ga, .inl (t 1, 9, .inl f_9)), (ac, .inr (0, [.ref hh, .ref p1, .ref p2, .ref p3, .ref p4])), (p1, .inl (t 1, 420, .inl q1)), (hh, .inr (5, [.int hli, .int hro, .int hse, .int hla, .int hpl, .int hex, .long hsi, .ref ha1, .ref ha2, .ref ha3, .ref ha4, .ref ha5, .ref ha6, .ref ha7, .ref ha8, .ref hc])), (ha3, .inl (t 1, 9, .inl hf3))] := hD
        refine lv_iconst (v := 0) hx hb dX4_countGoodActs_15 (by decide) ?_
        refine lv_istore_n (lv' := [(3, .int 0), (2, .int g_4), (0, .ref hb0), (1, .int a0)]) hx hb dX4_countGoodActs_16 rfl hl (by decide) rfl (fun ls hl => ?_)
        have LP_16 : ∀ (n : Nat) (g_13 : Int32) (f_15 : Nat → Int32) (b_14 : 0 ≤ g_13.toInt) (H : Heap) (locs : List Loc) (ls : Array Slot), lv_has ls 4 [(3, .int g_13), (2, .int g_4), (0, .ref hb0), (1, .int a0)] → va_P G vwCl [(hb0, .inr (4, [.ref ac, .ref ga])), (ga, .inl (t 1, 9, .inl f_15)), (ac, .inr (0, [.ref hh, .ref p1, .ref p2, .ref p3, .ref p4])), (p1, .inl (t 1, 420, .inl q1)), (hh, .inr (5, [.int hli, .int hro, .int hse, .int hla, .int hpl, .int hex, .long hsi, .ref ha1, .ref ha2, .ref ha3, .ref ha4, .ref ha5, .ref ha6, .ref ha7, .ref ha8, .ref hc])), (ha3, .inl (t 1, 9, .inl hf3))] H → va_D A [(hb0, .inr (4, [.ref ac, .ref ga])), (ga, .inl (t 1, 9, .inl f_15)), (ac, .inr (0, [.ref hh, .ref p1, .ref p2, .ref p3, .ref p4])), (p1, .inl (t 1, 420, .inl q1)), (hh, .inr (5, [.int hli, .int hro, .int hse, .int hla, .int hpl, .int hex, .long hsi, .ref ha1, .ref ha2, .ref ha3, .ref ha4, .ref ha5, .ref ha6, .ref ha7, .ref ha8, .ref hc])), (ha3, .inl (t 1, 9, .inl hf3))] → va_S A s.heap H locs → Int.toNat (a0.toInt - g_13.toInt) = n → W p l e ({ frames := 2, cells := 0, slots := 0, locals := 46 }) s m args below meth c H locs 0 0 (MQ below ((QV G (fun (u : (Nat → Int32)) => True) (fun (u : (Nat → Int32)) => [(hb0, .inr (4, [.ref ac, .ref ga])), (ga, .inl (t 1, 9, .inl u)), (ac, .inr (0, [.ref hh, .ref p1, .ref p2, .ref p3, .ref p4])), (p1, .inl (t 1, 420, .inl q1)), (hh, .inr (5, [.int hli, .int hro, .int hse, .int hla, .int hpl, .int hex, .long hsi, .ref ha1, .ref ha2, .ref ha3, .ref ha4, .ref ha5, .ref ha6, .ref ha7, .ref ha8, .ref hc])), (ha3, .inl (t 1, 9, .inl hf3))])) A) args s 0 0 A) (F0 m 17 ls []) := by
          intro n
          induction n using Nat.strongRecOn with
          | ind n ih_17 =>
            intro g_13 f_15 b_14 H locs ls hl hP hD hS hmu
            have := zrng g_13
            refine lv_iload_n hx hb dX4_countGoodActs_17 rfl (lv_at hl 0 rfl) ?_
            refine lv_iload_n hx hb dX4_countGoodActs_18 rfl (lv_at hl 3 rfl) ?_
            refine bI_ge (tgt := 64) hx hb dX4_countGoodActs_19 (by decide) g_13.toInt a0.toInt rfl rfl (fun c_17 => ?_) (fun c_17 => ?_)
            · first | refine incZ hx hb dX4_countGoodActs_64 hl (k := 1) rfl g_4.toInt rfl (by have := zrng g_4; omega) (by decide) (fun v_18 zv_18 ls hl => ?_) | refine incU hx hb dX4_countGoodActs_64 hl (k := 1) rfl (by decide) (fun v_18 ls hl => ?_)
              have hl : lv_has ls 4 [(2, .int v_18), (3, .int g_13), (0, .ref hb0), (1, .int a0)] := hl
              refine lv_goto (tgt := 2) hx hb dX4_countGoodActs_67 (by decide) ?_
              exact ih_2 (Int.toNat (9 - v_18.toInt)) (by omega) v_18 f_15 (by omega) _ _ _ (lv_sub hl [0, 2, 3] rfl) (hP.sub [0, 1, 2, 3, 4, 5] rfl) (hD.sub [0, 1, 2, 3, 4, 5] (by decide) rfl) hS rfl
            · refine lv_aload_n hx hb dX4_countGoodActs_22 rfl (lv_at hl 2 rfl) ?_
              refine gf hx hb hts hown hK hP 0 inT4 rfl rfl 0 (by decide) tw2_40 rfl dX4_countGoodActs_23 ?_
              refine gf hx hb hts hown hK hP 2 inT0 rfl rfl 0 (by decide) tw2_5 rfl dX4_countGoodActs_26 ?_
              refine lv_iload_n hx hb dX4_countGoodActs_29 rfl (lv_at hl 1 rfl) ?_
              refine goI (rnV C0 (x_isGood l G t hh g_4 hli hro hse hla hpl hex hsi ha1 ha2 ha3 ha4 ha5 ha6 ha7 ha8 hc hf3 (by omega) (by omega) (by omega) (by omega)) lkX4_29 ⟨by decide, by decide⟩ (hP.sub (ws' := [(hh, .inr (5, [.int hli, .int hro, .int hse, .int hla, .int hpl, .int hex, .long hsi, .ref ha1, .ref ha2, .ref ha3, .ref ha4, .ref ha5, .ref ha6, .ref ha7, .ref ha8, .ref hc])), (ha3, .inl (t 1, 9, .inl hf3))]) [4, 5] rfl) (hD.sub (ws' := [(hh, .inr (5, [.int hli, .int hro, .int hse, .int hla, .int hpl, .int hex, .long hsi, .ref ha1, .ref ha2, .ref ha3, .ref ha4, .ref ha5, .ref ha6, .ref ha7, .ref ha8, .ref hc])), (ha3, .inl (t 1, 9, .inl hf3))]) [4, 5] (by decide) rfl) 0 5 rfl rfl rfl rfl hl.1 (rest := []) rfl (Nat.le_of_ble_eq_true rfl) dX4_countGoodActs_30 ⟨by decide, by decide⟩) hP hD hS hA [4, 5] [0, 1, 2, 3] (wr := [(hb0, .inr (4, [.ref ac, .ref ga])), (ga, .inl (t 1, 9, .inl f_15)), (ac, .inr (0, [.ref hh, .ref p1, .ref p2, .ref p3, .ref p4])), (p1, .inl (t 1, 420, .inl q1))]) rfl rfl (by decide) (by decide) (fun r_19 u H locs h_20 hP hD hS => ?_)
              have h_20 : (r_19.toInt = 0 ∨ (r_19.toInt = 1 ∧ 0 ≤ g_4.toInt ∧ g_4.toInt ≤ 8)) := h_20
              have b_21 := h_20
              have hP : va_P G vwCl [(hb0, .inr (4, [.ref ac, .ref ga])), (ga, .inl (t 1, 9, .inl f_15)), (ac, .inr (0, [.ref hh, .ref p1, .ref p2, .ref p3, .ref p4])), (p1, .inl (t 1, 420, .inl q1)), (hh, .inr (5, [.int hli, .int hro, .int hse, .int hla, .int hpl, .int hex, .long hsi, .ref ha1, .ref ha2, .ref ha3, .ref ha4, .ref ha5, .ref ha6, .ref ha7, .ref ha8, .ref hc])), (ha3, .inl (t 1, 9, .inl hf3))] H := hP
              have hD : va_D A [(hb0, .inr (4, [.ref ac, .ref ga])), (ga, .inl (t 1, 9, .inl f_15)), (ac, .inr (0, [.ref hh, .ref p1, .ref p2, .ref p3, .ref p4])), (p1, .inl (t 1, 420, .inl q1)), (hh, .inr (5, [.int hli, .int hro, .int hse, .int hla, .int hpl, .int hex, .long hsi, .ref ha1, .ref ha2, .ref ha3, .ref ha4, .ref ha5, .ref ha6, .ref ha7, .ref ha8, .ref hc])), (ha3, .inl (t 1, 9, .inl hf3))] := hD
              refine W.widen (k := 0) (n := 0) (Nat.le_of_ble_eq_true rfl) (Nat.le_of_ble_eq_true rfl) ?_
              refine bF_eq (tgt := 64) hx hb dX4_countGoodActs_33 (by decide) r_19.toInt rfl (fun c_22 => ?_) (fun c_22 => ?_)
              · first | refine incZ hx hb dX4_countGoodActs_64 hl (k := 1) rfl g_4.toInt rfl (by have := zrng g_4; omega) (by decide) (fun v_23 zv_23 ls hl => ?_) | refine incU hx hb dX4_countGoodActs_64 hl (k := 1) rfl (by decide) (fun v_23 ls hl => ?_)
                have hl : lv_has ls 4 [(2, .int v_23), (3, .int g_13), (0, .ref hb0), (1, .int a0)] := hl
                refine lv_goto (tgt := 2) hx hb dX4_countGoodActs_67 (by decide) ?_
                exact ih_2 (Int.toNat (9 - v_23.toInt)) (by omega) v_23 f_15 (by omega) _ _ _ (lv_sub hl [0, 2, 3] rfl) (hP.sub [0, 1, 2, 3, 4, 5] rfl) (hD.sub [0, 1, 2, 3, 4, 5] (by decide) rfl) hS rfl
              · refine lv_aload_n hx hb dX4_countGoodActs_36 rfl (lv_at hl 2 rfl) ?_
                refine gf hx hb hts hown hK hP 0 inT4 rfl rfl 0 (by decide) tw2_40 rfl dX4_countGoodActs_37 ?_
                refine lv_iload_n hx hb dX4_countGoodActs_40 rfl (lv_at hl 1 rfl) ?_
                refine lv_iload_n hx hb dX4_countGoodActs_41 rfl (lv_at hl 0 rfl) ?_
                refine goI (rnV C0 (x_exitsAt l G t ac g_4 g_13 hh p1 p2 p3 p4 q1 hli hro hse hla hpl hex hsi ha1 ha2 ha3 ha4 ha5 ha6 ha7 ha8 hc (by omega) (by omega) (by omega) (by omega)) lkX4_35 ⟨by decide, by decide⟩ (hP.sub (ws' := [(ac, .inr (0, [.ref hh, .ref p1, .ref p2, .ref p3, .ref p4])), (p1, .inl (t 1, 420, .inl q1)), (hh, .inr (5, [.int hli, .int hro, .int hse, .int hla, .int hpl, .int hex, .long hsi, .ref ha1, .ref ha2, .ref ha3, .ref ha4, .ref ha5, .ref ha6, .ref ha7, .ref ha8, .ref hc]))]) [2, 3, 4] rfl) (hD.sub (ws' := [(ac, .inr (0, [.ref hh, .ref p1, .ref p2, .ref p3, .ref p4])), (p1, .inl (t 1, 420, .inl q1)), (hh, .inr (5, [.int hli, .int hro, .int hse, .int hla, .int hpl, .int hex, .long hsi, .ref ha1, .ref ha2, .ref ha3, .ref ha4, .ref ha5, .ref ha6, .ref ha7, .ref ha8, .ref hc]))]) [2, 3, 4] (by decide) rfl) 0 0 rfl rfl rfl rfl hl.1 (rest := []) rfl (Nat.le_of_ble_eq_true rfl) dX4_countGoodActs_42 ⟨by decide, by decide⟩) hP hD hS hA [2, 3, 4] [0, 1, 5] (wr := [(hb0, .inr (4, [.ref ac, .ref ga])), (ga, .inl (t 1, 9, .inl f_15)), (ha3, .inl (t 1, 9, .inl hf3))]) rfl rfl (by decide) (by decide) (fun r_24 u H locs h_25 hP hD hS => ?_)
                have hP : va_P G vwCl [(hb0, .inr (4, [.ref ac, .ref ga])), (ga, .inl (t 1, 9, .inl f_15)), (ha3, .inl (t 1, 9, .inl hf3)), (ac, .inr (0, [.ref hh, .ref p1, .ref p2, .ref p3, .ref p4])), (p1, .inl (t 1, 420, .inl q1)), (hh, .inr (5, [.int hli, .int hro, .int hse, .int hla, .int hpl, .int hex, .long hsi, .ref ha1, .ref ha2, .ref ha3, .ref ha4, .ref ha5, .ref ha6, .ref ha7, .ref ha8, .ref hc]))] H := hP
                have hD : va_D A [(hb0, .inr (4, [.ref ac, .ref ga])), (ga, .inl (t 1, 9, .inl f_15)), (ha3, .inl (t 1, 9, .inl hf3)), (ac, .inr (0, [.ref hh, .ref p1, .ref p2, .ref p3, .ref p4])), (p1, .inl (t 1, 420, .inl q1)), (hh, .inr (5, [.int hli, .int hro, .int hse, .int hla, .int hpl, .int hex, .long hsi, .ref ha1, .ref ha2, .ref ha3, .ref ha4, .ref ha5, .ref ha6, .ref ha7, .ref ha8, .ref hc]))] := hD
                refine W.widen (k := 0) (n := 0) (Nat.le_of_ble_eq_true rfl) (Nat.le_of_ble_eq_true rfl) ?_
                refine bF_eq (tgt := 58) hx hb dX4_countGoodActs_45 (by decide) r_24.toInt rfl (fun c_26 => ?_) (fun c_26 => ?_)
                · first | refine incZ hx hb dX4_countGoodActs_58 hl (k := 0) rfl g_13.toInt rfl (by have := zrng g_13; omega) (by decide) (fun v_27 zv_27 ls hl => ?_) | refine incU hx hb dX4_countGoodActs_58 hl (k := 0) rfl (by decide) (fun v_27 ls hl => ?_)
                  have hl : lv_has ls 4 [(3, .int v_27), (2, .int g_4), (0, .ref hb0), (1, .int a0)] := hl
                  refine lv_goto (tgt := 17) hx hb dX4_countGoodActs_61 (by decide) ?_
                  exact ih_17 (Int.toNat (a0.toInt - v_27.toInt)) (by omega) v_27 f_15 (by omega) _ _ _ (lv_sub hl [0, 1, 2, 3] rfl) (hP.sub [0, 1, 3, 4, 5, 2] rfl) (hD.sub [0, 1, 3, 4, 5, 2] (by decide) rfl) hS rfl
                · refine lv_aload_n hx hb dX4_countGoodActs_48 rfl (lv_at hl 2 rfl) ?_
                  refine gf hx hb hts hown hK hP 0 inT4 rfl rfl 1 (by decide) tw2_41 rfl dX4_countGoodActs_49 ?_
                  refine lv_iload_n hx hb dX4_countGoodActs_52 rfl (lv_at hl 1 rfl) ?_
                  refine lv_dup2_11 hx hb dX4_countGoodActs_53 rfl rfl ?_
                  refine laI hx hb hK hP 1 rfl g_4.toInt rfl (by omega) dX4_countGoodActs_54 (fun v_28 ev_28 => ?_)
                  refine lv_iconst (v := 1) hx hb dX4_countGoodActs_55 (by decide) ?_
                  first | refine adZ hx hb dX4_countGoodActs_56 v_28.toInt 1 rfl rfl (by have := zrng v_28; omega) (fun v_29 zv_29 => ?_) | refine lv_iadd hx hb dX4_countGoodActs_56 (gnI (fun v_29 => ?_))
                  refine saI hx hb hK hP hD hS 1 rfl g_4.toInt rfl (by omega) dX4_countGoodActs_57 (fun f_30 ef_30 H locs hP hD hS => ?_)
                  have hP : va_P G vwCl [(hb0, .inr (4, [.ref ac, .ref ga])), (ga, .inl (t 1, 9, .inl f_30)), (ha3, .inl (t 1, 9, .inl hf3)), (ac, .inr (0, [.ref hh, .ref p1, .ref p2, .ref p3, .ref p4])), (p1, .inl (t 1, 420, .inl q1)), (hh, .inr (5, [.int hli, .int hro, .int hse, .int hla, .int hpl, .int hex, .long hsi, .ref ha1, .ref ha2, .ref ha3, .ref ha4, .ref ha5, .ref ha6, .ref ha7, .ref ha8, .ref hc]))] H := hP
                  have hD : va_D A [(hb0, .inr (4, [.ref ac, .ref ga])), (ga, .inl (t 1, 9, .inl f_30)), (ha3, .inl (t 1, 9, .inl hf3)), (ac, .inr (0, [.ref hh, .ref p1, .ref p2, .ref p3, .ref p4])), (p1, .inl (t 1, 420, .inl q1)), (hh, .inr (5, [.int hli, .int hro, .int hse, .int hla, .int hpl, .int hex, .long hsi, .ref ha1, .ref ha2, .ref ha3, .ref ha4, .ref ha5, .ref ha6, .ref ha7, .ref ha8, .ref hc]))] := hD
                  first | refine incZ hx hb dX4_countGoodActs_58 hl (k := 0) rfl g_13.toInt rfl (by have := zrng g_13; omega) (by decide) (fun v_31 zv_31 ls hl => ?_) | refine incU hx hb dX4_countGoodActs_58 hl (k := 0) rfl (by decide) (fun v_31 ls hl => ?_)
                  have hl : lv_has ls 4 [(3, .int v_31), (2, .int g_4), (0, .ref hb0), (1, .int a0)] := hl
                  refine lv_goto (tgt := 17) hx hb dX4_countGoodActs_61 (by decide) ?_
                  exact ih_17 (Int.toNat (a0.toInt - v_31.toInt)) (by omega) v_31 f_30 (by omega) _ _ _ (lv_sub hl [0, 1, 2, 3] rfl) (hP.sub [0, 1, 3, 4, 5, 2] rfl) (hD.sub [0, 1, 3, 4, 5, 2] (by decide) rfl) hS rfl
        exact LP_16 (Int.toNat (a0.toInt - 0)) 0 f_9 (by have : (0 : Int32).toInt = 0 := rfl; omega) _ _ _ (lv_sub hl [0, 1, 2, 3] rfl) (hP.sub [0, 1, 2, 3, 4, 5] rfl) (hD.sub [0, 1, 2, 3, 4, 5] (by decide) rfl) hS rfl
  exact LP_7 (Int.toNat (9 - 0)) 0 gaf (by have : (0 : Int32).toInt = 0 := rfl; omega) _ _ _ (lv_sub hl [0, 1, 2] rfl) (hP.sub [0, 1, 2, 3, 4, 5] rfl) (hD.sub [0, 1, 2, 3, 4, 5] (by decide) rfl) hS rfl

set_option maxHeartbeats 4000000 in
set_option maxRecDepth 100000 in
theorem x_stepsBlind (l : Launch) (G : va_G) (t : Nat → ClassId) (hb0 : Nat) (a0 : Int32) (b0 : Int32) (c0 : Int32) (ac : Nat) (ga : Nat) (gaf : Nat → Int32) (hh : Nat) (p1 : Nat) (p2 : Nat) (p3 : Nat) (p4 : Nat) (hli : Int32) (hro : Int32) (hse : Int32) (hla : Int32) (hpl : Int32) (hex : Int32) (hsi : Int64) (ha1 : Nat) (ha2 : Nat) (ha3 : Nat) (ha4 : Nat) (ha5 : Nat) (ha6 : Nat) (ha7 : Nat) (ha8 : Nat) (hc : Nat) (hf1 : Nat → Int32) (hf2 : Nat → Int32) (h_hro : 0 ≤ hro.toInt ∧ hro.toInt ≤ 6) (h_hse : 0 ≤ hse.toInt ∧ hse.toInt ≤ 6) (h_hpl : 0 ≤ hpl.toInt ∧ hpl.toInt ≤ 9) (h_hex : 0 ≤ hex.toInt ∧ hex.toInt ≤ 7) (h_hf1 : Rp (fun _ v => 0 ≤ v ∧ v ≤ 5) 9 hf1) (h_hf2 : Rp (fun _ v => 0 ≤ v ∧ v ≤ 5) 9 hf2) : Ct l G t yX4_stepsBlind cX4_stepsBlind 5 (some .int) ({ frames := 2, cells := 0, slots := 0, locals := 36 }) [.ref hb0, .int a0, .int b0, .int c0] [(hb0, .inr (4, [.ref ac, .ref ga])), (ga, .inl (t 1, 9, .inl gaf)), (ac, .inr (0, [.ref hh, .ref p1, .ref p2, .ref p3, .ref p4])), (hh, .inr (5, [.int hli, .int hro, .int hse, .int hla, .int hpl, .int hex, .long hsi, .ref ha1, .ref ha2, .ref ha3, .ref ha4, .ref ha5, .ref ha6, .ref ha7, .ref ha8, .ref hc])), (ha1, .inl (t 1, 9, .inl hf1)), (ha2, .inl (t 1, 9, .inl hf2))] (QI G (fun r (u : Unit) => True) (fun (u : Unit) => [(hb0, .inr (4, [.ref ac, .ref ga])), (ga, .inl (t 1, 9, .inl gaf)), (ac, .inr (0, [.ref hh, .ref p1, .ref p2, .ref p3, .ref p4])), (hh, .inr (5, [.int hli, .int hro, .int hse, .int hla, .int hpl, .int hex, .long hsi, .ref ha1, .ref ha2, .ref ha3, .ref ha4, .ref ha5, .ref ha6, .ref ha7, .ref ha8, .ref hc])), (ha1, .inl (t 1, 9, .inl hf1)), (ha2, .inl (t 1, 9, .inl hf2))])) := by
  refine ent (by decide) (Nat.le_of_ble_eq_true rfl) ?_
  intro p e s m args below meth c hx hb hr hml hts hown hlocks hin A hA hK hO hP hD hS ls hl
  have hown : s.vm.findClass RX4 = some m.cls := hown
  have hl : lv_has ls 5 [(0, .ref hb0), (1, .int a0), (2, .int b0), (3, .int c0)] := hl
  have C0 : Cx p s m args c cX4_stepsBlind 5 RX4 G t := ⟨hx, hb, hml, hown, hts, hK, hO⟩
  have := zrng a0
  have := zrng b0
  have := zrng c0
  refine lv_aload_n hx hb dX4_stepsBlind_0 rfl (lv_at hl 0 rfl) ?_
  refine gf hx hb hts hown hK hP 0 inT4 rfl rfl 0 (by decide) tw2_40 rfl dX4_stepsBlind_1 ?_
  refine gf hx hb hts hown hK hP 2 inT0 rfl rfl 0 (by decide) tw2_5 rfl dX4_stepsBlind_4 ?_
  refine lv_iload_n hx hb dX4_stepsBlind_7 rfl (lv_at hl 2 rfl) ?_
  refine goI (rnV C0 (x_hasPlace l G t hh b0 hli hro hse hla hpl hex hsi ha1 ha2 ha3 ha4 ha5 ha6 ha7 ha8 hc (by omega) (by omega) (by omega) (by omega)) lkX4_38 ⟨by decide, by decide⟩ (hP.sub (ws' := [(hh, .inr (5, [.int hli, .int hro, .int hse, .int hla, .int hpl, .int hex, .long hsi, .ref ha1, .ref ha2, .ref ha3, .ref ha4, .ref ha5, .ref ha6, .ref ha7, .ref ha8, .ref hc]))]) [3] rfl) (hD.sub (ws' := [(hh, .inr (5, [.int hli, .int hro, .int hse, .int hla, .int hpl, .int hex, .long hsi, .ref ha1, .ref ha2, .ref ha3, .ref ha4, .ref ha5, .ref ha6, .ref ha7, .ref ha8, .ref hc]))]) [3] (by decide) rfl) 0 5 rfl rfl rfl rfl hl.1 (rest := []) rfl (Nat.le_of_ble_eq_true rfl) dX4_stepsBlind_8 ⟨by decide, by decide⟩) hP hD hS hA [3] [0, 1, 2, 4, 5] (wr := [(hb0, .inr (4, [.ref ac, .ref ga])), (ga, .inl (t 1, 9, .inl gaf)), (ac, .inr (0, [.ref hh, .ref p1, .ref p2, .ref p3, .ref p4])), (ha1, .inl (t 1, 9, .inl hf1)), (ha2, .inl (t 1, 9, .inl hf2))]) rfl rfl (by decide) (by decide) (fun r_1 u H locs h_2 hP hD hS => ?_)
  have h_2 : (r_1.toInt = 0 ∨ (r_1.toInt = 1 ∧ 0 ≤ b0.toInt ∧ b0.toInt < hpl.toInt ∧ b0.toInt ≤ 8)) := h_2
  have b_3 := h_2
  have hP : va_P G vwCl [(hb0, .inr (4, [.ref ac, .ref ga])), (ga, .inl (t 1, 9, .inl gaf)), (ac, .inr (0, [.ref hh, .ref p1, .ref p2, .ref p3, .ref p4])), (ha1, .inl (t 1, 9, .inl hf1)), (ha2, .inl (t 1, 9, .inl hf2)), (hh, .inr (5, [.int hli, .int hro, .int hse, .int hla, .int hpl, .int hex, .long hsi, .ref ha1, .ref ha2, .ref ha3, .ref ha4, .ref ha5, .ref ha6, .ref ha7, .ref ha8, .ref hc]))] H := hP
  have hD : va_D A [(hb0, .inr (4, [.ref ac, .ref ga])), (ga, .inl (t 1, 9, .inl gaf)), (ac, .inr (0, [.ref hh, .ref p1, .ref p2, .ref p3, .ref p4])), (ha1, .inl (t 1, 9, .inl hf1)), (ha2, .inl (t 1, 9, .inl hf2)), (hh, .inr (5, [.int hli, .int hro, .int hse, .int hla, .int hpl, .int hex, .long hsi, .ref ha1, .ref ha2, .ref ha3, .ref ha4, .ref ha5, .ref ha6, .ref ha7, .ref ha8, .ref hc]))] := hD
  refine W.widen (k := 0) (n := 0) (Nat.le_of_ble_eq_true rfl) (Nat.le_of_ble_eq_true rfl) ?_
  refine bF_ne (tgt := 19) hx hb dX4_stepsBlind_11 (by decide) r_1.toInt rfl (fun c_4 => ?_) (fun c_4 => ?_)
  · refine lv_aload_n hx hb dX4_stepsBlind_19 rfl (lv_at hl 0 rfl) ?_
    refine gf hx hb hts hown hK hP 0 inT4 rfl rfl 1 (by decide) tw2_41 rfl dX4_stepsBlind_20 ?_
    refine lv_iload_n hx hb dX4_stepsBlind_23 rfl (lv_at hl 2 rfl) ?_
    refine laI hx hb hK hP 1 rfl b0.toInt rfl (by omega) dX4_stepsBlind_24 (fun v_5 ev_5 => ?_)
    refine lv_istore (lv' := [(4, .int v_5), (0, .ref hb0), (1, .int a0), (2, .int b0), (3, .int c0)]) hx hb dX4_stepsBlind_25 hl (by decide) rfl (fun ls hl => ?_)
    refine lv_iload hx hb dX4_stepsBlind_27 (lv_at hl 0 rfl) ?_
    refine lv_aload_n hx hb dX4_stepsBlind_29 rfl (lv_at hl 1 rfl) ?_
    refine gf hx hb hts hown hK hP 0 inT4 rfl rfl 0 (by decide) tw2_40 rfl dX4_stepsBlind_30 ?_
    refine gf hx hb hts hown hK hP 2 inT0 rfl rfl 0 (by decide) tw2_5 rfl dX4_stepsBlind_33 ?_
    refine lv_iload_n hx hb dX4_stepsBlind_36 rfl (lv_at hl 2 rfl) ?_
    refine lv_iload_n hx hb dX4_stepsBlind_37 rfl (lv_at hl 3 rfl) ?_
    refine goI (rnV C0 (x_stepsBy l G t hh a0 b0 hli hro hse hla hpl hex hsi ha1 ha2 ha3 ha4 ha5 ha6 ha7 ha8 hc hf1 hf2 (by omega) (by omega) (by omega) (by omega) h_hf1 h_hf2) lkX4_41 ⟨by decide, by decide⟩ (hP.sub (ws' := [(hh, .inr (5, [.int hli, .int hro, .int hse, .int hla, .int hpl, .int hex, .long hsi, .ref ha1, .ref ha2, .ref ha3, .ref ha4, .ref ha5, .ref ha6, .ref ha7, .ref ha8, .ref hc])), (ha1, .inl (t 1, 9, .inl hf1)), (ha2, .inl (t 1, 9, .inl hf2))]) [5, 3, 4] rfl) (hD.sub (ws' := [(hh, .inr (5, [.int hli, .int hro, .int hse, .int hla, .int hpl, .int hex, .long hsi, .ref ha1, .ref ha2, .ref ha3, .ref ha4, .ref ha5, .ref ha6, .ref ha7, .ref ha8, .ref hc])), (ha1, .inl (t 1, 9, .inl hf1)), (ha2, .inl (t 1, 9, .inl hf2))]) [5, 3, 4] (by decide) rfl) 0 5 rfl rfl rfl rfl hl.1 (rest := [.int v_5]) rfl (Nat.le_of_ble_eq_true rfl) dX4_stepsBlind_38 ⟨by decide, by decide⟩) hP hD hS hA [5, 3, 4] [0, 1, 2] (wr := [(hb0, .inr (4, [.ref ac, .ref ga])), (ga, .inl (t 1, 9, .inl gaf)), (ac, .inr (0, [.ref hh, .ref p1, .ref p2, .ref p3, .ref p4]))]) rfl rfl (by decide) (by decide) (fun r_6 u H locs h_7 hP hD hS => ?_)
    have hP : va_P G vwCl [(hb0, .inr (4, [.ref ac, .ref ga])), (ga, .inl (t 1, 9, .inl gaf)), (ac, .inr (0, [.ref hh, .ref p1, .ref p2, .ref p3, .ref p4])), (hh, .inr (5, [.int hli, .int hro, .int hse, .int hla, .int hpl, .int hex, .long hsi, .ref ha1, .ref ha2, .ref ha3, .ref ha4, .ref ha5, .ref ha6, .ref ha7, .ref ha8, .ref hc])), (ha1, .inl (t 1, 9, .inl hf1)), (ha2, .inl (t 1, 9, .inl hf2))] H := hP
    have hD : va_D A [(hb0, .inr (4, [.ref ac, .ref ga])), (ga, .inl (t 1, 9, .inl gaf)), (ac, .inr (0, [.ref hh, .ref p1, .ref p2, .ref p3, .ref p4])), (hh, .inr (5, [.int hli, .int hro, .int hse, .int hla, .int hpl, .int hex, .long hsi, .ref ha1, .ref ha2, .ref ha3, .ref ha4, .ref ha5, .ref ha6, .ref ha7, .ref ha8, .ref hc])), (ha1, .inl (t 1, 9, .inl hf1)), (ha2, .inl (t 1, 9, .inl hf2))] := hD
    refine W.widen (k := 0) (n := 0) (Nat.le_of_ble_eq_true rfl) (Nat.le_of_ble_eq_true rfl) ?_
    refine lv_imul hx hb dX4_stepsBlind_41 (gnI (fun v_8 => ?_))
    refine lv_iload_n hx hb dX4_stepsBlind_42 rfl (lv_at hl 4 rfl) ?_
    refine lv_iload hx hb dX4_stepsBlind_43 (lv_at hl 0 rfl) ?_
    first | refine sbZ hx hb dX4_stepsBlind_45 c0.toInt v_5.toInt rfl rfl (by have := zrng c0; have := zrng v_5; omega) (fun v_9 zv_9 => ?_) | refine lv_isub hx hb dX4_stepsBlind_45 (gnI (fun v_9 => ?_))
    refine lv_bipush (v := 50) hx hb dX4_stepsBlind_46 (by decide) ?_
    first | refine muZ hx hb dX4_stepsBlind_48 v_9.toInt 50 rfl rfl (by have := zrng v_9; omega) (fun v_10 zv_10 => ?_) | refine lv_imul hx hb dX4_stepsBlind_48 (gnI (fun v_10 => ?_))
    first | refine adZ hx hb dX4_stepsBlind_49 v_8.toInt v_10.toInt rfl rfl (by have := zrng v_8; have := zrng v_10; omega) (fun v_11 zv_11 => ?_) | refine lv_iadd hx hb dX4_stepsBlind_49 (gnI (fun v_11 => ?_))
    exact rtI hx hb hr hlocks hS () (trivial) (hP.sub [0, 1, 2, 3, 4, 5] rfl) (hD.sub [0, 1, 2, 3, 4, 5] (by decide) rfl) dX4_stepsBlind_50
  · refine lv_iload_n hx hb dX4_stepsBlind_14 rfl (lv_at hl 3 rfl) ?_
    refine lv_bipush (v := 50) hx hb dX4_stepsBlind_15 (by decide) ?_
    first | refine muZ hx hb dX4_stepsBlind_17 c0.toInt 50 rfl rfl (by have := zrng c0; omega) (fun v_12 zv_12 => ?_) | refine lv_imul hx hb dX4_stepsBlind_17 (gnI (fun v_12 => ?_))
    exact rtI hx hb hr hlocks hS () (trivial) (hP.sub [0, 1, 2, 5, 3, 4] rfl) (hD.sub [0, 1, 2, 5, 3, 4] (by decide) rfl) dX4_stepsBlind_18

set_option maxHeartbeats 4000000 in
set_option maxRecDepth 100000 in
theorem x_bestPlace (l : Launch) (G : va_G) (t : Nat → ClassId) (hb0 : Nat) (a0 : Int32) (b0 : Int32) (ac : Nat) (ga : Nat) (gaf : Nat → Int32) (hh : Nat) (p1 : Nat) (p2 : Nat) (p3 : Nat) (p4 : Nat) (hli : Int32) (hro : Int32) (hse : Int32) (hla : Int32) (hpl : Int32) (hex : Int32) (hsi : Int64) (ha1 : Nat) (ha2 : Nat) (ha3 : Nat) (ha4 : Nat) (ha5 : Nat) (ha6 : Nat) (ha7 : Nat) (ha8 : Nat) (hc : Nat) (hf1 : Nat → Int32) (hf2 : Nat → Int32) (h_hro : 0 ≤ hro.toInt ∧ hro.toInt ≤ 6) (h_hse : 0 ≤ hse.toInt ∧ hse.toInt ≤ 6) (h_hpl : 0 ≤ hpl.toInt ∧ hpl.toInt ≤ 9) (h_hex : 0 ≤ hex.toInt ∧ hex.toInt ≤ 7) (h_hf1 : Rp (fun _ v => 0 ≤ v ∧ v ≤ 5) 9 hf1) (h_hf2 : Rp (fun _ v => 0 ≤ v ∧ v ≤ 5) 9 hf2) : Ct l G t yX4_bestPlace cX4_bestPlace 5 (some .int) ({ frames := 3, cells := 0, slots := 0, locals := 60 }) [.ref hb0, .int a0, .int b0] [(hb0, .inr (4, [.ref ac, .ref ga])), (ga, .inl (t 1, 9, .inl gaf)), (ac, .inr (0, [.ref hh, .ref p1, .ref p2, .ref p3, .ref p4])), (hh, .inr (5, [.int hli, .int hro, .int hse, .int hla, .int hpl, .int hex, .long hsi, .ref ha1, .ref ha2, .ref ha3, .ref ha4, .ref ha5, .ref ha6, .ref ha7, .ref ha8, .ref hc])), (ha1, .inl (t 1, 9, .inl hf1)), (ha2, .inl (t 1, 9, .inl hf2))] (QI G (fun r (u : Unit) => True) (fun (u : Unit) => [(hb0, .inr (4, [.ref ac, .ref ga])), (ga, .inl (t 1, 9, .inl gaf)), (ac, .inr (0, [.ref hh, .ref p1, .ref p2, .ref p3, .ref p4])), (hh, .inr (5, [.int hli, .int hro, .int hse, .int hla, .int hpl, .int hex, .long hsi, .ref ha1, .ref ha2, .ref ha3, .ref ha4, .ref ha5, .ref ha6, .ref ha7, .ref ha8, .ref hc])), (ha1, .inl (t 1, 9, .inl hf1)), (ha2, .inl (t 1, 9, .inl hf2))])) := by
  refine ent (by decide) (Nat.le_of_ble_eq_true rfl) ?_
  intro p e s m args below meth c hx hb hr hml hts hown hlocks hin A hA hK hO hP hD hS ls hl
  have hown : s.vm.findClass RX4 = some m.cls := hown
  have hl : lv_has ls 5 [(0, .ref hb0), (1, .int a0), (2, .int b0)] := hl
  have C0 : Cx p s m args c cX4_bestPlace 5 RX4 G t := ⟨hx, hb, hml, hown, hts, hK, hO⟩
  have := zrng a0
  have := zrng b0
  refine lv_iconst (v := 0) hx hb dX4_bestPlace_0 (by decide) ?_
  refine lv_istore_n (lv' := [(3, .int 0), (0, .ref hb0), (1, .int a0), (2, .int b0)]) hx hb dX4_bestPlace_1 rfl hl (by decide) rfl (fun ls hl => ?_)
  refine lv_iconst (v := 1) hx hb dX4_bestPlace_2 (by decide) ?_
  refine lv_istore (lv' := [(4, .int 1), (3, .int 0), (0, .ref hb0), (1, .int a0), (2, .int b0)]) hx hb dX4_bestPlace_3 hl (by decide) rfl (fun ls hl => ?_)
  have LP_7 : ∀ (n : Nat) (g_4 : Int32) (g_6 : Int32) (b_5 : 1 ≤ g_4.toInt) (H : Heap) (locs : List Loc) (ls : Array Slot), lv_has ls 5 [(4, .int g_4), (3, .int g_6), (0, .ref hb0), (1, .int a0), (2, .int b0)] → va_P G vwCl [(hb0, .inr (4, [.ref ac, .ref ga])), (ga, .inl (t 1, 9, .inl gaf)), (ac, .inr (0, [.ref hh, .ref p1, .ref p2, .ref p3, .ref p4])), (hh, .inr (5, [.int hli, .int hro, .int hse, .int hla, .int hpl, .int hex, .long hsi, .ref ha1, .ref ha2, .ref ha3, .ref ha4, .ref ha5, .ref ha6, .ref ha7, .ref ha8, .ref hc])), (ha1, .inl (t 1, 9, .inl hf1)), (ha2, .inl (t 1, 9, .inl hf2))] H → va_D A [(hb0, .inr (4, [.ref ac, .ref ga])), (ga, .inl (t 1, 9, .inl gaf)), (ac, .inr (0, [.ref hh, .ref p1, .ref p2, .ref p3, .ref p4])), (hh, .inr (5, [.int hli, .int hro, .int hse, .int hla, .int hpl, .int hex, .long hsi, .ref ha1, .ref ha2, .ref ha3, .ref ha4, .ref ha5, .ref ha6, .ref ha7, .ref ha8, .ref hc])), (ha1, .inl (t 1, 9, .inl hf1)), (ha2, .inl (t 1, 9, .inl hf2))] → va_S A s.heap H locs → Int.toNat (hpl.toInt - g_4.toInt) = n → W p l e ({ frames := 3, cells := 0, slots := 0, locals := 60 }) s m args below meth c H locs 0 0 (MQ below ((QI G (fun r (u : Unit) => True) (fun (u : Unit) => [(hb0, .inr (4, [.ref ac, .ref ga])), (ga, .inl (t 1, 9, .inl gaf)), (ac, .inr (0, [.ref hh, .ref p1, .ref p2, .ref p3, .ref p4])), (hh, .inr (5, [.int hli, .int hro, .int hse, .int hla, .int hpl, .int hex, .long hsi, .ref ha1, .ref ha2, .ref ha3, .ref ha4, .ref ha5, .ref ha6, .ref ha7, .ref ha8, .ref hc])), (ha1, .inl (t 1, 9, .inl hf1)), (ha2, .inl (t 1, 9, .inl hf2))])) A) args s 0 0 A) (F0 m 5 ls []) := by
    intro n
    induction n using Nat.strongRecOn with
    | ind n ih_5 =>
      intro g_4 g_6 b_5 H locs ls hl hP hD hS hmu
      have := zrng g_4
      have := zrng g_6
      refine lv_iload hx hb dX4_bestPlace_5 (lv_at hl 0 rfl) ?_
      refine lv_aload_n hx hb dX4_bestPlace_7 rfl (lv_at hl 2 rfl) ?_
      refine gf hx hb hts hown hK hP 0 inT4 rfl rfl 0 (by decide) tw2_40 rfl dX4_bestPlace_8 ?_
      refine gf hx hb hts hown hK hP 2 inT0 rfl rfl 0 (by decide) tw2_5 rfl dX4_bestPlace_11 ?_
      refine gf hx hb hts hown hK hP 3 inT5 rfl rfl 4 (by decide) tw1_100 rfl dX4_bestPlace_14 ?_
      refine bI_ge (tgt := 47) hx hb dX4_bestPlace_17 (by decide) g_4.toInt hpl.toInt rfl rfl (fun c_8 => ?_) (fun c_8 => ?_)
      · refine lv_iload_n hx hb dX4_bestPlace_47 rfl (lv_at hl 1 rfl) ?_
        exact rtI hx hb hr hlocks hS () (trivial) (hP.sub [0, 1, 2, 3, 4, 5] rfl) (hD.sub [0, 1, 2, 3, 4, 5] (by decide) rfl) dX4_bestPlace_48
      · refine lv_aload_n hx hb dX4_bestPlace_20 rfl (lv_at hl 2 rfl) ?_
        refine lv_iload_n hx hb dX4_bestPlace_21 rfl (lv_at hl 3 rfl) ?_
        refine lv_iload hx hb dX4_bestPlace_22 (lv_at hl 0 rfl) ?_
        refine lv_iload_n hx hb dX4_bestPlace_24 rfl (lv_at hl 4 rfl) ?_
        refine goI (rnV C0 (x_stepsBlind l G t hb0 a0 g_4 b0 ac ga gaf hh p1 p2 p3 p4 hli hro hse hla hpl hex hsi ha1 ha2 ha3 ha4 ha5 ha6 ha7 ha8 hc hf1 hf2 (by omega) (by omega) (by omega) (by omega) h_hf1 h_hf2) lkX4_48 ⟨by decide, by decide⟩ (hP.sub (ws' := [(hb0, .inr (4, [.ref ac, .ref ga])), (ga, .inl (t 1, 9, .inl gaf)), (ac, .inr (0, [.ref hh, .ref p1, .ref p2, .ref p3, .ref p4])), (hh, .inr (5, [.int hli, .int hro, .int hse, .int hla, .int hpl, .int hex, .long hsi, .ref ha1, .ref ha2, .ref ha3, .ref ha4, .ref ha5, .ref ha6, .ref ha7, .ref ha8, .ref hc])), (ha1, .inl (t 1, 9, .inl hf1)), (ha2, .inl (t 1, 9, .inl hf2))]) [0, 1, 2, 3, 4, 5] rfl) (hD.sub (ws' := [(hb0, .inr (4, [.ref ac, .ref ga])), (ga, .inl (t 1, 9, .inl gaf)), (ac, .inr (0, [.ref hh, .ref p1, .ref p2, .ref p3, .ref p4])), (hh, .inr (5, [.int hli, .int hro, .int hse, .int hla, .int hpl, .int hex, .long hsi, .ref ha1, .ref ha2, .ref ha3, .ref ha4, .ref ha5, .ref ha6, .ref ha7, .ref ha8, .ref hc])), (ha1, .inl (t 1, 9, .inl hf1)), (ha2, .inl (t 1, 9, .inl hf2))]) [0, 1, 2, 3, 4, 5] (by decide) rfl) 0 4 rfl rfl rfl rfl hl.1 (rest := []) rfl (Nat.le_of_ble_eq_true rfl) dX4_bestPlace_25 ⟨by decide, by decide⟩) hP hD hS hA [0, 1, 2, 3, 4, 5] [] (wr := []) rfl rfl (by decide) (by decide) (fun r_9 u H locs h_10 hP hD hS => ?_)
        have hP : va_P G vwCl [(hb0, .inr (4, [.ref ac, .ref ga])), (ga, .inl (t 1, 9, .inl gaf)), (ac, .inr (0, [.ref hh, .ref p1, .ref p2, .ref p3, .ref p4])), (hh, .inr (5, [.int hli, .int hro, .int hse, .int hla, .int hpl, .int hex, .long hsi, .ref ha1, .ref ha2, .ref ha3, .ref ha4, .ref ha5, .ref ha6, .ref ha7, .ref ha8, .ref hc])), (ha1, .inl (t 1, 9, .inl hf1)), (ha2, .inl (t 1, 9, .inl hf2))] H := hP
        have hD : va_D A [(hb0, .inr (4, [.ref ac, .ref ga])), (ga, .inl (t 1, 9, .inl gaf)), (ac, .inr (0, [.ref hh, .ref p1, .ref p2, .ref p3, .ref p4])), (hh, .inr (5, [.int hli, .int hro, .int hse, .int hla, .int hpl, .int hex, .long hsi, .ref ha1, .ref ha2, .ref ha3, .ref ha4, .ref ha5, .ref ha6, .ref ha7, .ref ha8, .ref hc])), (ha1, .inl (t 1, 9, .inl hf1)), (ha2, .inl (t 1, 9, .inl hf2))] := hD
        refine W.widen (k := 0) (n := 0) (Nat.le_of_ble_eq_true rfl) (Nat.le_of_ble_eq_true rfl) ?_
        refine lv_aload_n hx hb dX4_bestPlace_28 rfl (lv_at hl 2 rfl) ?_
        refine lv_iload_n hx hb dX4_bestPlace_29 rfl (lv_at hl 3 rfl) ?_
        refine lv_iload_n hx hb dX4_bestPlace_30 rfl (lv_at hl 1 rfl) ?_
        refine lv_iload_n hx hb dX4_bestPlace_31 rfl (lv_at hl 4 rfl) ?_
        refine goI (rnV C0 (x_stepsBlind l G t hb0 a0 g_6 b0 ac ga gaf hh p1 p2 p3 p4 hli hro hse hla hpl hex hsi ha1 ha2 ha3 ha4 ha5 ha6 ha7 ha8 hc hf1 hf2 (by omega) (by omega) (by omega) (by omega) h_hf1 h_hf2) lkX4_48 ⟨by decide, by decide⟩ (hP.sub (ws' := [(hb0, .inr (4, [.ref ac, .ref ga])), (ga, .inl (t 1, 9, .inl gaf)), (ac, .inr (0, [.ref hh, .ref p1, .ref p2, .ref p3, .ref p4])), (hh, .inr (5, [.int hli, .int hro, .int hse, .int hla, .int hpl, .int hex, .long hsi, .ref ha1, .ref ha2, .ref ha3, .ref ha4, .ref ha5, .ref ha6, .ref ha7, .ref ha8, .ref hc])), (ha1, .inl (t 1, 9, .inl hf1)), (ha2, .inl (t 1, 9, .inl hf2))]) [0, 1, 2, 3, 4, 5] rfl) (hD.sub (ws' := [(hb0, .inr (4, [.ref ac, .ref ga])), (ga, .inl (t 1, 9, .inl gaf)), (ac, .inr (0, [.ref hh, .ref p1, .ref p2, .ref p3, .ref p4])), (hh, .inr (5, [.int hli, .int hro, .int hse, .int hla, .int hpl, .int hex, .long hsi, .ref ha1, .ref ha2, .ref ha3, .ref ha4, .ref ha5, .ref ha6, .ref ha7, .ref ha8, .ref hc])), (ha1, .inl (t 1, 9, .inl hf1)), (ha2, .inl (t 1, 9, .inl hf2))]) [0, 1, 2, 3, 4, 5] (by decide) rfl) 0 4 rfl rfl rfl rfl hl.1 (rest := [.int r_9]) rfl (Nat.le_of_ble_eq_true rfl) dX4_bestPlace_32 ⟨by decide, by decide⟩) hP hD hS hA [0, 1, 2, 3, 4, 5] [] (wr := []) rfl rfl (by decide) (by decide) (fun r_11 u H locs h_12 hP hD hS => ?_)
        have hP : va_P G vwCl [(hb0, .inr (4, [.ref ac, .ref ga])), (ga, .inl (t 1, 9, .inl gaf)), (ac, .inr (0, [.ref hh, .ref p1, .ref p2, .ref p3, .ref p4])), (hh, .inr (5, [.int hli, .int hro, .int hse, .int hla, .int hpl, .int hex, .long hsi, .ref ha1, .ref ha2, .ref ha3, .ref ha4, .ref ha5, .ref ha6, .ref ha7, .ref ha8, .ref hc])), (ha1, .inl (t 1, 9, .inl hf1)), (ha2, .inl (t 1, 9, .inl hf2))] H := hP
        have hD : va_D A [(hb0, .inr (4, [.ref ac, .ref ga])), (ga, .inl (t 1, 9, .inl gaf)), (ac, .inr (0, [.ref hh, .ref p1, .ref p2, .ref p3, .ref p4])), (hh, .inr (5, [.int hli, .int hro, .int hse, .int hla, .int hpl, .int hex, .long hsi, .ref ha1, .ref ha2, .ref ha3, .ref ha4, .ref ha5, .ref ha6, .ref ha7, .ref ha8, .ref hc])), (ha1, .inl (t 1, 9, .inl hf1)), (ha2, .inl (t 1, 9, .inl hf2))] := hD
        refine W.widen (k := 0) (n := 0) (Nat.le_of_ble_eq_true rfl) (Nat.le_of_ble_eq_true rfl) ?_
        refine bI_ge (tgt := 41) hx hb dX4_bestPlace_35 (by decide) r_9.toInt r_11.toInt rfl rfl (fun c_13 => ?_) (fun c_13 => ?_)
        · first | refine incZ hx hb dX4_bestPlace_41 hl (k := 0) rfl g_4.toInt rfl (by have := zrng g_4; omega) (by decide) (fun v_14 zv_14 ls hl => ?_) | refine incU hx hb dX4_bestPlace_41 hl (k := 0) rfl (by decide) (fun v_14 ls hl => ?_)
          have hl : lv_has ls 5 [(4, .int v_14), (3, .int g_6), (0, .ref hb0), (1, .int a0), (2, .int b0)] := hl
          refine lv_goto (tgt := 5) hx hb dX4_bestPlace_44 (by decide) ?_
          exact ih_5 (Int.toNat (hpl.toInt - v_14.toInt)) (by omega) v_14 g_6 (by omega) _ _ _ (lv_sub hl [0, 1, 2, 3, 4] rfl) (hP.sub [0, 1, 2, 3, 4, 5] rfl) (hD.sub [0, 1, 2, 3, 4, 5] (by decide) rfl) hS rfl
        · refine lv_iload hx hb dX4_bestPlace_38 (lv_at hl 0 rfl) ?_
          refine lv_istore_n (lv' := [(3, .int g_4), (4, .int g_4), (0, .ref hb0), (1, .int a0), (2, .int b0)]) hx hb dX4_bestPlace_40 rfl hl (by decide) rfl (fun ls hl => ?_)
          first | refine incZ hx hb dX4_bestPlace_41 hl (k := 1) rfl g_4.toInt rfl (by have := zrng g_4; omega) (by decide) (fun v_15 zv_15 ls hl => ?_) | refine incU hx hb dX4_bestPlace_41 hl (k := 1) rfl (by decide) (fun v_15 ls hl => ?_)
          have hl : lv_has ls 5 [(4, .int v_15), (3, .int g_4), (0, .ref hb0), (1, .int a0), (2, .int b0)] := hl
          refine lv_goto (tgt := 5) hx hb dX4_bestPlace_44 (by decide) ?_
          exact ih_5 (Int.toNat (hpl.toInt - v_15.toInt)) (by omega) v_15 g_4 (by omega) _ _ _ (lv_sub hl [0, 1, 2, 3, 4] rfl) (hP.sub [0, 1, 2, 3, 4, 5] rfl) (hD.sub [0, 1, 2, 3, 4, 5] (by decide) rfl) hS rfl
  exact LP_7 (Int.toNat (hpl.toInt - 1)) 1 0 (by have : (1 : Int32).toInt = 1 := rfl; omega) _ _ _ (lv_sub hl [0, 1, 2, 3, 4] rfl) (hP.sub [0, 1, 2, 3, 4, 5] rfl) (hD.sub [0, 1, 2, 3, 4, 5] (by decide) rfl) hS rfl

set_option maxHeartbeats 4000000 in
set_option maxRecDepth 100000 in
theorem x_spotsWithin (l : Launch) (G : va_G) (t : Nat → ClassId) (hh : Nat) (a0 : Int32) (b0 : Int32) (hli : Int32) (hro : Int32) (hse : Int32) (hla : Int32) (hpl : Int32) (hex : Int32) (hsi : Int64) (ha1 : Nat) (ha2 : Nat) (ha3 : Nat) (ha4 : Nat) (ha5 : Nat) (ha6 : Nat) (ha7 : Nat) (ha8 : Nat) (hc : Nat) (hf1 : Nat → Int32) (hf2 : Nat → Int32) (h_hro : 0 ≤ hro.toInt ∧ hro.toInt ≤ 6) (h_hse : 0 ≤ hse.toInt ∧ hse.toInt ≤ 6) (h_hpl : 0 ≤ hpl.toInt ∧ hpl.toInt ≤ 9) (h_hex : 0 ≤ hex.toInt ∧ hex.toInt ≤ 7) (h_hf1 : Rp (fun _ v => 0 ≤ v ∧ v ≤ 5) 9 hf1) (h_hf2 : Rp (fun _ v => 0 ≤ v ∧ v ≤ 5) 9 hf2) : Ct l G t yX9_spotsWithin cX9_spotsWithin 8 (some .long) ({ frames := 2, cells := 0, slots := 0, locals := 36 }) [.ref hh, .int a0, .int b0] [(hh, .inr (5, [.int hli, .int hro, .int hse, .int hla, .int hpl, .int hex, .long hsi, .ref ha1, .ref ha2, .ref ha3, .ref ha4, .ref ha5, .ref ha6, .ref ha7, .ref ha8, .ref hc])), (ha1, .inl (t 1, 9, .inl hf1)), (ha2, .inl (t 1, 9, .inl hf2))] (QL G (fun r (u : Unit) => True) (fun (u : Unit) => [(hh, .inr (5, [.int hli, .int hro, .int hse, .int hla, .int hpl, .int hex, .long hsi, .ref ha1, .ref ha2, .ref ha3, .ref ha4, .ref ha5, .ref ha6, .ref ha7, .ref ha8, .ref hc])), (ha1, .inl (t 1, 9, .inl hf1)), (ha2, .inl (t 1, 9, .inl hf2))])) := by
  refine ent (by decide) (Nat.le_of_ble_eq_true rfl) ?_
  intro p e s m args below meth c hx hb hr hml hts hown hlocks hin A hA hK hO hP hD hS ls hl
  have hown : s.vm.findClass RX9 = some m.cls := hown
  have hl : lv_has ls 8 [(0, .ref hh), (1, .int a0), (2, .int b0)] := hl
  have C0 : Cx p s m args c cX9_spotsWithin 8 RX9 G t := ⟨hx, hb, hml, hown, hts, hK, hO⟩
  have := zrng a0
  have := zrng b0
  refine lv_lconst (v := 0) hx hb dX9_spotsWithin_0 (by decide) ?_
  refine lv_lstore_n (lv' := [(3, .long 0), (0, .ref hh), (1, .int a0), (2, .int b0)]) hx hb dX9_spotsWithin_1 rfl hl (by decide) rfl (fun ls hl => ?_)
  refine lv_iconst (v := 0) hx hb dX9_spotsWithin_2 (by decide) ?_
  refine lv_istore (lv' := [(5, .int 0), (3, .long 0), (0, .ref hh), (1, .int a0), (2, .int b0)]) hx hb dX9_spotsWithin_3 hl (by decide) rfl (fun ls hl => ?_)
  have LP_7 : ∀ (n : Nat) (g_4 : Int32) (g_6 : Int64) (b_5 : 0 ≤ g_4.toInt) (H : Heap) (locs : List Loc) (ls : Array Slot), lv_has ls 8 [(5, .int g_4), (3, .long g_6), (0, .ref hh), (1, .int a0), (2, .int b0)] → va_P G vwCl [(hh, .inr (5, [.int hli, .int hro, .int hse, .int hla, .int hpl, .int hex, .long hsi, .ref ha1, .ref ha2, .ref ha3, .ref ha4, .ref ha5, .ref ha6, .ref ha7, .ref ha8, .ref hc])), (ha1, .inl (t 1, 9, .inl hf1)), (ha2, .inl (t 1, 9, .inl hf2))] H → va_D A [(hh, .inr (5, [.int hli, .int hro, .int hse, .int hla, .int hpl, .int hex, .long hsi, .ref ha1, .ref ha2, .ref ha3, .ref ha4, .ref ha5, .ref ha6, .ref ha7, .ref ha8, .ref hc])), (ha1, .inl (t 1, 9, .inl hf1)), (ha2, .inl (t 1, 9, .inl hf2))] → va_S A s.heap H locs → Int.toNat (hro.toInt - g_4.toInt) = n → W p l e ({ frames := 2, cells := 0, slots := 0, locals := 36 }) s m args below meth c H locs 0 0 (MQ below ((QL G (fun r (u : Unit) => True) (fun (u : Unit) => [(hh, .inr (5, [.int hli, .int hro, .int hse, .int hla, .int hpl, .int hex, .long hsi, .ref ha1, .ref ha2, .ref ha3, .ref ha4, .ref ha5, .ref ha6, .ref ha7, .ref ha8, .ref hc])), (ha1, .inl (t 1, 9, .inl hf1)), (ha2, .inl (t 1, 9, .inl hf2))])) A) args s 0 0 A) (F0 m 5 ls []) := by
    intro n
    induction n using Nat.strongRecOn with
    | ind n ih_5 =>
      intro g_4 g_6 b_5 H locs ls hl hP hD hS hmu
      have := zrng g_4
      refine lv_iload hx hb dX9_spotsWithin_5 (lv_at hl 0 rfl) ?_
      refine lv_aload_n hx hb dX9_spotsWithin_7 rfl (lv_at hl 2 rfl) ?_
      refine gf hx hb hts hown hK hP 0 inT5 rfl rfl 1 (by decide) tw1_85 rfl dX9_spotsWithin_8 ?_
      refine bI_ge (tgt := 71) hx hb dX9_spotsWithin_11 (by decide) g_4.toInt hro.toInt rfl rfl (fun c_8 => ?_) (fun c_8 => ?_)
      · refine lv_lload_n hx hb dX9_spotsWithin_71 rfl (lv_at hl 1 rfl) ?_
        exact rtL hx hb hr hlocks hS () (trivial) (hP.sub [0, 1, 2] rfl) (hD.sub [0, 1, 2] (by decide) rfl) dX9_spotsWithin_72
      · refine lv_iconst (v := 0) hx hb dX9_spotsWithin_14 (by decide) ?_
        refine lv_istore (lv' := [(6, .int 0), (5, .int g_4), (3, .long g_6), (0, .ref hh), (1, .int a0), (2, .int b0)]) hx hb dX9_spotsWithin_15 hl (by decide) rfl (fun ls hl => ?_)
        have LP_15 : ∀ (n : Nat) (g_12 : Int32) (g_14 : Int64) (b_13 : 0 ≤ g_12.toInt) (H : Heap) (locs : List Loc) (ls : Array Slot), lv_has ls 8 [(6, .int g_12), (5, .int g_4), (3, .long g_14), (0, .ref hh), (1, .int a0), (2, .int b0)] → va_P G vwCl [(hh, .inr (5, [.int hli, .int hro, .int hse, .int hla, .int hpl, .int hex, .long hsi, .ref ha1, .ref ha2, .ref ha3, .ref ha4, .ref ha5, .ref ha6, .ref ha7, .ref ha8, .ref hc])), (ha1, .inl (t 1, 9, .inl hf1)), (ha2, .inl (t 1, 9, .inl hf2))] H → va_D A [(hh, .inr (5, [.int hli, .int hro, .int hse, .int hla, .int hpl, .int hex, .long hsi, .ref ha1, .ref ha2, .ref ha3, .ref ha4, .ref ha5, .ref ha6, .ref ha7, .ref ha8, .ref hc])), (ha1, .inl (t 1, 9, .inl hf1)), (ha2, .inl (t 1, 9, .inl hf2))] → va_S A s.heap H locs → Int.toNat (hse.toInt - g_12.toInt) = n → W p l e ({ frames := 2, cells := 0, slots := 0, locals := 36 }) s m args below meth c H locs 0 0 (MQ below ((QL G (fun r (u : Unit) => True) (fun (u : Unit) => [(hh, .inr (5, [.int hli, .int hro, .int hse, .int hla, .int hpl, .int hex, .long hsi, .ref ha1, .ref ha2, .ref ha3, .ref ha4, .ref ha5, .ref ha6, .ref ha7, .ref ha8, .ref hc])), (ha1, .inl (t 1, 9, .inl hf1)), (ha2, .inl (t 1, 9, .inl hf2))])) A) args s 0 0 A) (F0 m 17 ls []) := by
          intro n
          induction n using Nat.strongRecOn with
          | ind n ih_17 =>
            intro g_12 g_14 b_13 H locs ls hl hP hD hS hmu
            have := zrng g_12
            refine lv_iload hx hb dX9_spotsWithin_17 (lv_at hl 0 rfl) ?_
            refine lv_aload_n hx hb dX9_spotsWithin_19 rfl (lv_at hl 3 rfl) ?_
            refine gf hx hb hts hown hK hP 0 inT5 rfl rfl 2 (by decide) tw1_90 rfl dX9_spotsWithin_20 ?_
            refine bI_ge (tgt := 65) hx hb dX9_spotsWithin_23 (by decide) g_12.toInt hse.toInt rfl rfl (fun c_16 => ?_) (fun c_16 => ?_)
            · first | refine incZ hx hb dX9_spotsWithin_65 hl (k := 1) rfl g_4.toInt rfl (by have := zrng g_4; omega) (by decide) (fun v_17 zv_17 ls hl => ?_) | refine incU hx hb dX9_spotsWithin_65 hl (k := 1) rfl (by decide) (fun v_17 ls hl => ?_)
              have hl : lv_has ls 8 [(5, .int v_17), (6, .int g_12), (3, .long g_14), (0, .ref hh), (1, .int a0), (2, .int b0)] := hl
              refine lv_goto (tgt := 5) hx hb dX9_spotsWithin_68 (by decide) ?_
              exact ih_5 (Int.toNat (hro.toInt - v_17.toInt)) (by omega) v_17 g_14 (by omega) _ _ _ (lv_sub hl [0, 2, 3, 4, 5] rfl) (hP.sub [0, 1, 2] rfl) (hD.sub [0, 1, 2] (by decide) rfl) hS rfl
            · refine lv_iload hx hb dX9_spotsWithin_26 (lv_at hl 1 rfl) ?_
              refine lv_iload hx hb dX9_spotsWithin_28 (lv_at hl 0 rfl) ?_
              refine goI (rnSN C0 (x_spotOf l G t g_4 g_12) lkX9_54 ⟨by decide, by decide⟩ (hP.sub (ws' := []) [] rfl) (hD.sub (ws' := []) [] (by decide) rfl) rfl hl.1 (rest := []) rfl (Nat.le_of_ble_eq_true rfl) dX9_spotsWithin_30 ⟨by decide, by decide⟩) hP hD hS hA [] [0, 1, 2] (wr := [(hh, .inr (5, [.int hli, .int hro, .int hse, .int hla, .int hpl, .int hex, .long hsi, .ref ha1, .ref ha2, .ref ha3, .ref ha4, .ref ha5, .ref ha6, .ref ha7, .ref ha8, .ref hc])), (ha1, .inl (t 1, 9, .inl hf1)), (ha2, .inl (t 1, 9, .inl hf2))]) rfl rfl (by decide) (by decide) (fun r_18 u H locs h_19 hP hD hS => ?_)
              have hP : va_P G vwCl [(hh, .inr (5, [.int hli, .int hro, .int hse, .int hla, .int hpl, .int hex, .long hsi, .ref ha1, .ref ha2, .ref ha3, .ref ha4, .ref ha5, .ref ha6, .ref ha7, .ref ha8, .ref hc])), (ha1, .inl (t 1, 9, .inl hf1)), (ha2, .inl (t 1, 9, .inl hf2))] H := hP
              have hD : va_D A [(hh, .inr (5, [.int hli, .int hro, .int hse, .int hla, .int hpl, .int hex, .long hsi, .ref ha1, .ref ha2, .ref ha3, .ref ha4, .ref ha5, .ref ha6, .ref ha7, .ref ha8, .ref hc])), (ha1, .inl (t 1, 9, .inl hf1)), (ha2, .inl (t 1, 9, .inl hf2))] := hD
              refine W.widen (k := 0) (n := 0) (Nat.le_of_ble_eq_true rfl) (Nat.le_of_ble_eq_true rfl) ?_
              refine lv_istore (lv' := [(7, .int r_18), (6, .int g_12), (5, .int g_4), (3, .long g_14), (0, .ref hh), (1, .int a0), (2, .int b0)]) hx hb dX9_spotsWithin_33 hl (by decide) rfl (fun ls hl => ?_)
              refine lv_iload_n hx hb dX9_spotsWithin_35 rfl (lv_at hl 5 rfl) ?_
              refine lv_iconst (v := (-1)) hx hb dX9_spotsWithin_36 (by decide) ?_
              refine bI_eq (tgt := 51) hx hb dX9_spotsWithin_37 (by decide) a0.toInt (-1) rfl rfl (fun c_20 => ?_) (fun c_20 => ?_)
              · refine lv_lload_n hx hb dX9_spotsWithin_51 rfl (lv_at hl 3 rfl) ?_
                refine lv_iload hx hb dX9_spotsWithin_52 (lv_at hl 0 rfl) ?_
                refine goL (rnSN C0 (x_spotBit l G t r_18) lkX9_60 ⟨by decide, by decide⟩ (hP.sub (ws' := []) [] rfl) (hD.sub (ws' := []) [] (by decide) rfl) rfl hl.1 (rest := [.long g_14]) rfl (Nat.le_of_ble_eq_true rfl) dX9_spotsWithin_54 ⟨by decide, by decide⟩) hP hD hS hA [] [0, 1, 2] (wr := [(hh, .inr (5, [.int hli, .int hro, .int hse, .int hla, .int hpl, .int hex, .long hsi, .ref ha1, .ref ha2, .ref ha3, .ref ha4, .ref ha5, .ref ha6, .ref ha7, .ref ha8, .ref hc])), (ha1, .inl (t 1, 9, .inl hf1)), (ha2, .inl (t 1, 9, .inl hf2))]) rfl rfl (by decide) (by decide) (fun r_21 u H locs h_22 hP hD hS => ?_)
                have hP : va_P G vwCl [(hh, .inr (5, [.int hli, .int hro, .int hse, .int hla, .int hpl, .int hex, .long hsi, .ref ha1, .ref ha2, .ref ha3, .ref ha4, .ref ha5, .ref ha6, .ref ha7, .ref ha8, .ref hc])), (ha1, .inl (t 1, 9, .inl hf1)), (ha2, .inl (t 1, 9, .inl hf2))] H := hP
                have hD : va_D A [(hh, .inr (5, [.int hli, .int hro, .int hse, .int hla, .int hpl, .int hex, .long hsi, .ref ha1, .ref ha2, .ref ha3, .ref ha4, .ref ha5, .ref ha6, .ref ha7, .ref ha8, .ref hc])), (ha1, .inl (t 1, 9, .inl hf1)), (ha2, .inl (t 1, 9, .inl hf2))] := hD
                refine W.widen (k := 0) (n := 0) (Nat.le_of_ble_eq_true rfl) (Nat.le_of_ble_eq_true rfl) ?_
                refine lv_lor hx hb dX9_spotsWithin_57 (gnL (fun v_23 => ?_))
                refine lv_lstore_n (lv' := [(3, .long v_23), (7, .int r_18), (6, .int g_12), (5, .int g_4), (0, .ref hh), (1, .int a0), (2, .int b0)]) hx hb dX9_spotsWithin_58 rfl hl (by decide) rfl (fun ls hl => ?_)
                first | refine incZ hx hb dX9_spotsWithin_59 hl (k := 2) rfl g_12.toInt rfl (by have := zrng g_12; omega) (by decide) (fun v_24 zv_24 ls hl => ?_) | refine incU hx hb dX9_spotsWithin_59 hl (k := 2) rfl (by decide) (fun v_24 ls hl => ?_)
                have hl : lv_has ls 8 [(6, .int v_24), (3, .long v_23), (7, .int r_18), (5, .int g_4), (0, .ref hh), (1, .int a0), (2, .int b0)] := hl
                refine lv_goto (tgt := 17) hx hb dX9_spotsWithin_62 (by decide) ?_
                exact ih_17 (Int.toNat (hse.toInt - v_24.toInt)) (by omega) v_24 v_23 (by omega) _ _ _ (lv_sub hl [0, 3, 1, 4, 5, 6] rfl) (hP.sub [0, 1, 2] rfl) (hD.sub [0, 1, 2] (by decide) rfl) hS rfl
              · refine lv_aload_n hx hb dX9_spotsWithin_40 rfl (lv_at hl 4 rfl) ?_
                refine lv_iload hx hb dX9_spotsWithin_41 (lv_at hl 0 rfl) ?_
                refine lv_iload_n hx hb dX9_spotsWithin_43 rfl (lv_at hl 5 rfl) ?_
                refine goI (rnV C0 (x_stepsBy l G t hh r_18 a0 hli hro hse hla hpl hex hsi ha1 ha2 ha3 ha4 ha5 ha6 ha7 ha8 hc hf1 hf2 (by omega) (by omega) (by omega) (by omega) h_hf1 h_hf2) lkX9_57 ⟨by decide, by decide⟩ (hP.sub (ws' := [(hh, .inr (5, [.int hli, .int hro, .int hse, .int hla, .int hpl, .int hex, .long hsi, .ref ha1, .ref ha2, .ref ha3, .ref ha4, .ref ha5, .ref ha6, .ref ha7, .ref ha8, .ref hc])), (ha1, .inl (t 1, 9, .inl hf1)), (ha2, .inl (t 1, 9, .inl hf2))]) [0, 1, 2] rfl) (hD.sub (ws' := [(hh, .inr (5, [.int hli, .int hro, .int hse, .int hla, .int hpl, .int hex, .long hsi, .ref ha1, .ref ha2, .ref ha3, .ref ha4, .ref ha5, .ref ha6, .ref ha7, .ref ha8, .ref hc])), (ha1, .inl (t 1, 9, .inl hf1)), (ha2, .inl (t 1, 9, .inl hf2))]) [0, 1, 2] (by decide) rfl) 0 5 rfl rfl rfl rfl hl.1 (rest := []) rfl (Nat.le_of_ble_eq_true rfl) dX9_spotsWithin_44 ⟨by decide, by decide⟩) hP hD hS hA [0, 1, 2] [] (wr := []) rfl rfl (by decide) (by decide) (fun r_25 u H locs h_26 hP hD hS => ?_)
                have hP : va_P G vwCl [(hh, .inr (5, [.int hli, .int hro, .int hse, .int hla, .int hpl, .int hex, .long hsi, .ref ha1, .ref ha2, .ref ha3, .ref ha4, .ref ha5, .ref ha6, .ref ha7, .ref ha8, .ref hc])), (ha1, .inl (t 1, 9, .inl hf1)), (ha2, .inl (t 1, 9, .inl hf2))] H := hP
                have hD : va_D A [(hh, .inr (5, [.int hli, .int hro, .int hse, .int hla, .int hpl, .int hex, .long hsi, .ref ha1, .ref ha2, .ref ha3, .ref ha4, .ref ha5, .ref ha6, .ref ha7, .ref ha8, .ref hc])), (ha1, .inl (t 1, 9, .inl hf1)), (ha2, .inl (t 1, 9, .inl hf2))] := hD
                refine W.widen (k := 0) (n := 0) (Nat.le_of_ble_eq_true rfl) (Nat.le_of_ble_eq_true rfl) ?_
                refine lv_iload_n hx hb dX9_spotsWithin_47 rfl (lv_at hl 6 rfl) ?_
                refine bI_gt (tgt := 59) hx hb dX9_spotsWithin_48 (by decide) r_25.toInt b0.toInt rfl rfl (fun c_27 => ?_) (fun c_27 => ?_)
                · first | refine incZ hx hb dX9_spotsWithin_59 hl (k := 1) rfl g_12.toInt rfl (by have := zrng g_12; omega) (by decide) (fun v_28 zv_28 ls hl => ?_) | refine incU hx hb dX9_spotsWithin_59 hl (k := 1) rfl (by decide) (fun v_28 ls hl => ?_)
                  have hl : lv_has ls 8 [(6, .int v_28), (7, .int r_18), (5, .int g_4), (3, .long g_14), (0, .ref hh), (1, .int a0), (2, .int b0)] := hl
                  refine lv_goto (tgt := 17) hx hb dX9_spotsWithin_62 (by decide) ?_
                  exact ih_17 (Int.toNat (hse.toInt - v_28.toInt)) (by omega) v_28 g_14 (by omega) _ _ _ (lv_sub hl [0, 2, 3, 4, 5, 6] rfl) (hP.sub [0, 1, 2] rfl) (hD.sub [0, 1, 2] (by decide) rfl) hS rfl
                · refine lv_lload_n hx hb dX9_spotsWithin_51 rfl (lv_at hl 3 rfl) ?_
                  refine lv_iload hx hb dX9_spotsWithin_52 (lv_at hl 0 rfl) ?_
                  refine goL (rnSN C0 (x_spotBit l G t r_18) lkX9_60 ⟨by decide, by decide⟩ (hP.sub (ws' := []) [] rfl) (hD.sub (ws' := []) [] (by decide) rfl) rfl hl.1 (rest := [.long g_14]) rfl (Nat.le_of_ble_eq_true rfl) dX9_spotsWithin_54 ⟨by decide, by decide⟩) hP hD hS hA [] [0, 1, 2] (wr := [(hh, .inr (5, [.int hli, .int hro, .int hse, .int hla, .int hpl, .int hex, .long hsi, .ref ha1, .ref ha2, .ref ha3, .ref ha4, .ref ha5, .ref ha6, .ref ha7, .ref ha8, .ref hc])), (ha1, .inl (t 1, 9, .inl hf1)), (ha2, .inl (t 1, 9, .inl hf2))]) rfl rfl (by decide) (by decide) (fun r_29 u H locs h_30 hP hD hS => ?_)
                  have hP : va_P G vwCl [(hh, .inr (5, [.int hli, .int hro, .int hse, .int hla, .int hpl, .int hex, .long hsi, .ref ha1, .ref ha2, .ref ha3, .ref ha4, .ref ha5, .ref ha6, .ref ha7, .ref ha8, .ref hc])), (ha1, .inl (t 1, 9, .inl hf1)), (ha2, .inl (t 1, 9, .inl hf2))] H := hP
                  have hD : va_D A [(hh, .inr (5, [.int hli, .int hro, .int hse, .int hla, .int hpl, .int hex, .long hsi, .ref ha1, .ref ha2, .ref ha3, .ref ha4, .ref ha5, .ref ha6, .ref ha7, .ref ha8, .ref hc])), (ha1, .inl (t 1, 9, .inl hf1)), (ha2, .inl (t 1, 9, .inl hf2))] := hD
                  refine W.widen (k := 0) (n := 0) (Nat.le_of_ble_eq_true rfl) (Nat.le_of_ble_eq_true rfl) ?_
                  refine lv_lor hx hb dX9_spotsWithin_57 (gnL (fun v_31 => ?_))
                  refine lv_lstore_n (lv' := [(3, .long v_31), (7, .int r_18), (6, .int g_12), (5, .int g_4), (0, .ref hh), (1, .int a0), (2, .int b0)]) hx hb dX9_spotsWithin_58 rfl hl (by decide) rfl (fun ls hl => ?_)
                  first | refine incZ hx hb dX9_spotsWithin_59 hl (k := 2) rfl g_12.toInt rfl (by have := zrng g_12; omega) (by decide) (fun v_32 zv_32 ls hl => ?_) | refine incU hx hb dX9_spotsWithin_59 hl (k := 2) rfl (by decide) (fun v_32 ls hl => ?_)
                  have hl : lv_has ls 8 [(6, .int v_32), (3, .long v_31), (7, .int r_18), (5, .int g_4), (0, .ref hh), (1, .int a0), (2, .int b0)] := hl
                  refine lv_goto (tgt := 17) hx hb dX9_spotsWithin_62 (by decide) ?_
                  exact ih_17 (Int.toNat (hse.toInt - v_32.toInt)) (by omega) v_32 v_31 (by omega) _ _ _ (lv_sub hl [0, 3, 1, 4, 5, 6] rfl) (hP.sub [0, 1, 2] rfl) (hD.sub [0, 1, 2] (by decide) rfl) hS rfl
        exact LP_15 (Int.toNat (hse.toInt - 0)) 0 g_6 (by have : (0 : Int32).toInt = 0 := rfl; omega) _ _ _ (lv_sub hl [0, 1, 2, 3, 4, 5] rfl) (hP.sub [0, 1, 2] rfl) (hD.sub [0, 1, 2] (by decide) rfl) hS rfl
  exact LP_7 (Int.toNat (hro.toInt - 0)) 0 0 (by have : (0 : Int32).toInt = 0 := rfl; omega) _ _ _ (lv_sub hl [0, 1, 2, 3, 4] rfl) (hP.sub [0, 1, 2] rfl) (hD.sub [0, 1, 2] (by decide) rfl) hS rfl

set_option maxHeartbeats 4000000 in
set_option maxRecDepth 100000 in
theorem x_sareGood (l : Launch) (G : va_G) (t : Nat → ClassId) (hh : Nat) (a0 : Int32) (hli : Int32) (hro : Int32) (hse : Int32) (hla : Int32) (hpl : Int32) (hex : Int32) (hsi : Int64) (ha1 : Nat) (ha2 : Nat) (ha3 : Nat) (ha4 : Nat) (ha5 : Nat) (ha6 : Nat) (ha7 : Nat) (ha8 : Nat) (hc : Nat) (hf3 : Nat → Int32) (h_hro : 0 ≤ hro.toInt ∧ hro.toInt ≤ 6) (h_hse : 0 ≤ hse.toInt ∧ hse.toInt ≤ 6) (h_hpl : 0 ≤ hpl.toInt ∧ hpl.toInt ≤ 9) (h_hex : 0 ≤ hex.toInt ∧ hex.toInt ≤ 7) : Ct l G t yX9_areGood cX9_areGood 3 (some .boolean) ({ frames := 2, cells := 0, slots := 0, locals := 42 }) [.ref hh, .int a0] [(hh, .inr (5, [.int hli, .int hro, .int hse, .int hla, .int hpl, .int hex, .long hsi, .ref ha1, .ref ha2, .ref ha3, .ref ha4, .ref ha5, .ref ha6, .ref ha7, .ref ha8, .ref hc])), (ha3, .inl (t 1, 9, .inl hf3))] (QI G (fun r (u : Unit) => True) (fun (u : Unit) => [(hh, .inr (5, [.int hli, .int hro, .int hse, .int hla, .int hpl, .int hex, .long hsi, .ref ha1, .ref ha2, .ref ha3, .ref ha4, .ref ha5, .ref ha6, .ref ha7, .ref ha8, .ref hc])), (ha3, .inl (t 1, 9, .inl hf3))])) := by
  refine ent (by decide) (Nat.le_of_ble_eq_true rfl) ?_
  intro p e s m args below meth c hx hb hr hml hts hown hlocks hin A hA hK hO hP hD hS ls hl
  have hown : s.vm.findClass RX9 = some m.cls := hown
  have hl : lv_has ls 3 [(0, .ref hh), (1, .int a0)] := hl
  have C0 : Cx p s m args c cX9_areGood 3 RX9 G t := ⟨hx, hb, hml, hown, hts, hK, hO⟩
  have := zrng a0
  refine lv_iconst (v := 0) hx hb dX9_areGood_0 (by decide) ?_
  refine lv_istore_n (lv' := [(2, .int 0), (0, .ref hh), (1, .int a0)]) hx hb dX9_areGood_1 rfl hl (by decide) rfl (fun ls hl => ?_)
  have LP_5 : ∀ (n : Nat) (g_3 : Int32) (b_4 : 0 ≤ g_3.toInt) (H : Heap) (locs : List Loc) (ls : Array Slot), lv_has ls 3 [(2, .int g_3), (0, .ref hh), (1, .int a0)] → va_P G vwCl [(hh, .inr (5, [.int hli, .int hro, .int hse, .int hla, .int hpl, .int hex, .long hsi, .ref ha1, .ref ha2, .ref ha3, .ref ha4, .ref ha5, .ref ha6, .ref ha7, .ref ha8, .ref hc])), (ha3, .inl (t 1, 9, .inl hf3))] H → va_D A [(hh, .inr (5, [.int hli, .int hro, .int hse, .int hla, .int hpl, .int hex, .long hsi, .ref ha1, .ref ha2, .ref ha3, .ref ha4, .ref ha5, .ref ha6, .ref ha7, .ref ha8, .ref hc])), (ha3, .inl (t 1, 9, .inl hf3))] → va_S A s.heap H locs → Int.toNat (hpl.toInt - g_3.toInt) = n → W p l e ({ frames := 2, cells := 0, slots := 0, locals := 42 }) s m args below meth c H locs 0 0 (MQ below ((QI G (fun r (u : Unit) => True) (fun (u : Unit) => [(hh, .inr (5, [.int hli, .int hro, .int hse, .int hla, .int hpl, .int hex, .long hsi, .ref ha1, .ref ha2, .ref ha3, .ref ha4, .ref ha5, .ref ha6, .ref ha7, .ref ha8, .ref hc])), (ha3, .inl (t 1, 9, .inl hf3))])) A) args s 0 0 A) (F0 m 2 ls []) := by
    intro n
    induction n using Nat.strongRecOn with
    | ind n ih_2 =>
      intro g_3 b_4 H locs ls hl hP hD hS hmu
      have := zrng g_3
      refine lv_iload_n hx hb dX9_areGood_2 rfl (lv_at hl 0 rfl) ?_
      refine lv_aload_n hx hb dX9_areGood_3 rfl (lv_at hl 1 rfl) ?_
      refine gf hx hb hts hown hK hP 0 inT5 rfl rfl 4 (by decide) tw1_98 rfl dX9_areGood_4 ?_
      refine bI_ge (tgt := 41) hx hb dX9_areGood_7 (by decide) g_3.toInt hpl.toInt rfl rfl (fun c_6 => ?_) (fun c_6 => ?_)
      · refine lv_iconst (v := 1) hx hb dX9_areGood_41 (by decide) ?_
        exact rtZ hx hb hr hlocks hS rfl () (trivial) (hP.sub [0, 1] rfl) (hD.sub [0, 1] (by decide) rfl) dX9_areGood_42
      · refine lv_iload_n hx hb dX9_areGood_10 rfl (lv_at hl 0 rfl) ?_
        refine lv_bipush (v := 9) hx hb dX9_areGood_11 (by decide) ?_
        refine bI_ge (tgt := 41) hx hb dX9_areGood_13 (by decide) g_3.toInt 9 rfl rfl (fun c_7 => ?_) (fun c_7 => ?_)
        · refine lv_iconst (v := 1) hx hb dX9_areGood_41 (by decide) ?_
          exact rtZ hx hb hr hlocks hS rfl () (trivial) (hP.sub [0, 1] rfl) (hD.sub [0, 1] (by decide) rfl) dX9_areGood_42
        · refine lv_iload_n hx hb dX9_areGood_16 rfl (lv_at hl 2 rfl) ?_
          refine lv_iload_n hx hb dX9_areGood_17 rfl (lv_at hl 0 rfl) ?_
          refine goI (rnSN C0 (x_bit l G t g_3) lkX9_64 ⟨by decide, by decide⟩ (hP.sub (ws' := []) [] rfl) (hD.sub (ws' := []) [] (by decide) rfl) rfl hl.1 (rest := [.int a0]) rfl (Nat.le_of_ble_eq_true rfl) dX9_areGood_18 ⟨by decide, by decide⟩) hP hD hS hA [] [0, 1] (wr := [(hh, .inr (5, [.int hli, .int hro, .int hse, .int hla, .int hpl, .int hex, .long hsi, .ref ha1, .ref ha2, .ref ha3, .ref ha4, .ref ha5, .ref ha6, .ref ha7, .ref ha8, .ref hc])), (ha3, .inl (t 1, 9, .inl hf3))]) rfl rfl (by decide) (by decide) (fun r_8 u H locs h_9 hP hD hS => ?_)
          have hP : va_P G vwCl [(hh, .inr (5, [.int hli, .int hro, .int hse, .int hla, .int hpl, .int hex, .long hsi, .ref ha1, .ref ha2, .ref ha3, .ref ha4, .ref ha5, .ref ha6, .ref ha7, .ref ha8, .ref hc])), (ha3, .inl (t 1, 9, .inl hf3))] H := hP
          have hD : va_D A [(hh, .inr (5, [.int hli, .int hro, .int hse, .int hla, .int hpl, .int hex, .long hsi, .ref ha1, .ref ha2, .ref ha3, .ref ha4, .ref ha5, .ref ha6, .ref ha7, .ref ha8, .ref hc])), (ha3, .inl (t 1, 9, .inl hf3))] := hD
          refine W.widen (k := 0) (n := 0) (Nat.le_of_ble_eq_true rfl) (Nat.le_of_ble_eq_true rfl) ?_
          refine lv_iand hx hb dX9_areGood_21 (gnI (fun v_10 => ?_))
          refine bF_eq (tgt := 35) hx hb dX9_areGood_22 (by decide) v_10.toInt rfl (fun c_11 => ?_) (fun c_11 => ?_)
          · first | refine incZ hx hb dX9_areGood_35 hl (k := 0) rfl g_3.toInt rfl (by have := zrng g_3; omega) (by decide) (fun v_12 zv_12 ls hl => ?_) | refine incU hx hb dX9_areGood_35 hl (k := 0) rfl (by decide) (fun v_12 ls hl => ?_)
            have hl : lv_has ls 3 [(2, .int v_12), (0, .ref hh), (1, .int a0)] := hl
            refine lv_goto (tgt := 2) hx hb dX9_areGood_38 (by decide) ?_
            exact ih_2 (Int.toNat (hpl.toInt - v_12.toInt)) (by omega) v_12 (by omega) _ _ _ (lv_sub hl [0, 1, 2] rfl) (hP.sub [0, 1] rfl) (hD.sub [0, 1] (by decide) rfl) hS rfl
          · refine lv_aload_n hx hb dX9_areGood_25 rfl (lv_at hl 1 rfl) ?_
            refine lv_iload_n hx hb dX9_areGood_26 rfl (lv_at hl 0 rfl) ?_
            refine goI (rnV C0 (x_isGood l G t hh g_3 hli hro hse hla hpl hex hsi ha1 ha2 ha3 ha4 ha5 ha6 ha7 ha8 hc hf3 (by omega) (by omega) (by omega) (by omega)) lkX9_67 ⟨by decide, by decide⟩ (hP.sub (ws' := [(hh, .inr (5, [.int hli, .int hro, .int hse, .int hla, .int hpl, .int hex, .long hsi, .ref ha1, .ref ha2, .ref ha3, .ref ha4, .ref ha5, .ref ha6, .ref ha7, .ref ha8, .ref hc])), (ha3, .inl (t 1, 9, .inl hf3))]) [0, 1] rfl) (hD.sub (ws' := [(hh, .inr (5, [.int hli, .int hro, .int hse, .int hla, .int hpl, .int hex, .long hsi, .ref ha1, .ref ha2, .ref ha3, .ref ha4, .ref ha5, .ref ha6, .ref ha7, .ref ha8, .ref hc])), (ha3, .inl (t 1, 9, .inl hf3))]) [0, 1] (by decide) rfl) 0 5 rfl rfl rfl rfl hl.1 (rest := []) rfl (Nat.le_of_ble_eq_true rfl) dX9_areGood_27 ⟨by decide, by decide⟩) hP hD hS hA [0, 1] [] (wr := []) rfl rfl (by decide) (by decide) (fun r_13 u H locs h_14 hP hD hS => ?_)
            have h_14 : (r_13.toInt = 0 ∨ (r_13.toInt = 1 ∧ 0 ≤ g_3.toInt ∧ g_3.toInt ≤ 8)) := h_14
            have b_15 := h_14
            have hP : va_P G vwCl [(hh, .inr (5, [.int hli, .int hro, .int hse, .int hla, .int hpl, .int hex, .long hsi, .ref ha1, .ref ha2, .ref ha3, .ref ha4, .ref ha5, .ref ha6, .ref ha7, .ref ha8, .ref hc])), (ha3, .inl (t 1, 9, .inl hf3))] H := hP
            have hD : va_D A [(hh, .inr (5, [.int hli, .int hro, .int hse, .int hla, .int hpl, .int hex, .long hsi, .ref ha1, .ref ha2, .ref ha3, .ref ha4, .ref ha5, .ref ha6, .ref ha7, .ref ha8, .ref hc])), (ha3, .inl (t 1, 9, .inl hf3))] := hD
            refine W.widen (k := 0) (n := 0) (Nat.le_of_ble_eq_true rfl) (Nat.le_of_ble_eq_true rfl) ?_
            refine bF_ne (tgt := 35) hx hb dX9_areGood_30 (by decide) r_13.toInt rfl (fun c_16 => ?_) (fun c_16 => ?_)
            · first | refine incZ hx hb dX9_areGood_35 hl (k := 0) rfl g_3.toInt rfl (by have := zrng g_3; omega) (by decide) (fun v_17 zv_17 ls hl => ?_) | refine incU hx hb dX9_areGood_35 hl (k := 0) rfl (by decide) (fun v_17 ls hl => ?_)
              have hl : lv_has ls 3 [(2, .int v_17), (0, .ref hh), (1, .int a0)] := hl
              refine lv_goto (tgt := 2) hx hb dX9_areGood_38 (by decide) ?_
              exact ih_2 (Int.toNat (hpl.toInt - v_17.toInt)) (by omega) v_17 (by omega) _ _ _ (lv_sub hl [0, 1, 2] rfl) (hP.sub [0, 1] rfl) (hD.sub [0, 1] (by decide) rfl) hS rfl
            · refine lv_iconst (v := 0) hx hb dX9_areGood_33 (by decide) ?_
              exact rtZ hx hb hr hlocks hS rfl () (trivial) (hP.sub [0, 1] rfl) (hD.sub [0, 1] (by decide) rfl) dX9_areGood_34
  exact LP_5 (Int.toNat (hpl.toInt - 0)) 0 (by have : (0 : Int32).toInt = 0 := rfl; omega) _ _ _ (lv_sub hl [0, 1, 2] rfl) (hP.sub [0, 1] rfl) (hD.sub [0, 1] (by decide) rfl) hS rfl

set_option maxHeartbeats 4000000 in
set_option maxRecDepth 100000 in
theorem x_leastSet (l : Launch) (G : va_G) (t : Nat → ClassId) (sd : Nat) (hh : Nat) (a0 : Int32) (b0 : Int32) (nr : Nat) (nrf : Nat → Int64) (hli : Int32) (hro : Int32) (hse : Int32) (hla : Int32) (hpl : Int32) (hex : Int32) (hsi : Int64) (ha1 : Nat) (ha2 : Nat) (ha3 : Nat) (ha4 : Nat) (ha5 : Nat) (ha6 : Nat) (ha7 : Nat) (ha8 : Nat) (hc : Nat) (hf1 : Nat → Int32) (hf2 : Nat → Int32) (hf3 : Nat → Int32) (h_hro : 0 ≤ hro.toInt ∧ hro.toInt ≤ 6) (h_hse : 0 ≤ hse.toInt ∧ hse.toInt ≤ 6) (h_hpl : 0 ≤ hpl.toInt ∧ hpl.toInt ≤ 9) (h_hex : 0 ≤ hex.toInt ∧ hex.toInt ≤ 7) (h_hf1 : Rp (fun _ v => 0 ≤ v ∧ v ≤ 5) 9 hf1) (h_hf2 : Rp (fun _ v => 0 ≤ v ∧ v ≤ 5) 9 hf2) : Ct l G t yX9_leastSet cX9_leastSet 9 (some .int) ({ frames := 3, cells := 0, slots := 0, locals := 64 }) [.ref sd, .ref hh, .int a0, .int b0] [(sd, .inr (9, [.ref nr])), (nr, .inl (t 2, 512, .inr (.inl nrf))), (hh, .inr (5, [.int hli, .int hro, .int hse, .int hla, .int hpl, .int hex, .long hsi, .ref ha1, .ref ha2, .ref ha3, .ref ha4, .ref ha5, .ref ha6, .ref ha7, .ref ha8, .ref hc])), (ha1, .inl (t 1, 9, .inl hf1)), (ha2, .inl (t 1, 9, .inl hf2)), (ha3, .inl (t 1, 9, .inl hf3))] (QI G (fun r (u : (Nat → Int64)) => True) (fun (u : (Nat → Int64)) => [(sd, .inr (9, [.ref nr])), (nr, .inl (t 2, 512, .inr (.inl u))), (hh, .inr (5, [.int hli, .int hro, .int hse, .int hla, .int hpl, .int hex, .long hsi, .ref ha1, .ref ha2, .ref ha3, .ref ha4, .ref ha5, .ref ha6, .ref ha7, .ref ha8, .ref hc])), (ha1, .inl (t 1, 9, .inl hf1)), (ha2, .inl (t 1, 9, .inl hf2)), (ha3, .inl (t 1, 9, .inl hf3))])) := by
  refine ent (by decide) (Nat.le_of_ble_eq_true rfl) ?_
  intro p e s m args below meth c hx hb hr hml hts hown hlocks hin A hA hK hO hP hD hS ls hl
  have hown : s.vm.findClass RX9 = some m.cls := hown
  have hl : lv_has ls 9 [(0, .ref sd), (1, .ref hh), (2, .int a0), (3, .int b0)] := hl
  have C0 : Cx p s m args c cX9_leastSet 9 RX9 G t := ⟨hx, hb, hml, hown, hts, hK, hO⟩
  have := zrng a0
  have := zrng b0
  refine lv_aload_n hx hb dX9_leastSet_0 rfl (lv_at hl 1 rfl) ?_
  refine lv_iconst (v := (-1)) hx hb dX9_leastSet_1 (by decide) ?_
  refine lv_iload_n hx hb dX9_leastSet_2 rfl (lv_at hl 3 rfl) ?_
  refine goL (rnS C0 (x_spotsWithin l G t hh (-1) b0 hli hro hse hla hpl hex hsi ha1 ha2 ha3 ha4 ha5 ha6 ha7 ha8 hc hf1 hf2 (by omega) (by omega) (by omega) (by omega) h_hf1 h_hf2) lkX9_19 ⟨by decide, by decide⟩ (hP.sub (ws' := [(hh, .inr (5, [.int hli, .int hro, .int hse, .int hla, .int hpl, .int hex, .long hsi, .ref ha1, .ref ha2, .ref ha3, .ref ha4, .ref ha5, .ref ha6, .ref ha7, .ref ha8, .ref hc])), (ha1, .inl (t 1, 9, .inl hf1)), (ha2, .inl (t 1, 9, .inl hf2))]) [2, 3, 4] rfl) (hD.sub (ws' := [(hh, .inr (5, [.int hli, .int hro, .int hse, .int hla, .int hpl, .int hex, .long hsi, .ref ha1, .ref ha2, .ref ha3, .ref ha4, .ref ha5, .ref ha6, .ref ha7, .ref ha8, .ref hc])), (ha1, .inl (t 1, 9, .inl hf1)), (ha2, .inl (t 1, 9, .inl hf2))]) [2, 3, 4] (by decide) rfl) rfl hl.1 (rest := []) rfl (Nat.le_of_ble_eq_true rfl) dX9_leastSet_3 ⟨by decide, by decide⟩) hP hD hS hA [2, 3, 4] [0, 1, 5] (wr := [(sd, .inr (9, [.ref nr])), (nr, .inl (t 2, 512, .inr (.inl nrf))), (ha3, .inl (t 1, 9, .inl hf3))]) rfl rfl (by decide) (by decide) (fun r_1 u H locs h_2 hP hD hS => ?_)
  have hP : va_P G vwCl [(sd, .inr (9, [.ref nr])), (nr, .inl (t 2, 512, .inr (.inl nrf))), (ha3, .inl (t 1, 9, .inl hf3)), (hh, .inr (5, [.int hli, .int hro, .int hse, .int hla, .int hpl, .int hex, .long hsi, .ref ha1, .ref ha2, .ref ha3, .ref ha4, .ref ha5, .ref ha6, .ref ha7, .ref ha8, .ref hc])), (ha1, .inl (t 1, 9, .inl hf1)), (ha2, .inl (t 1, 9, .inl hf2))] H := hP
  have hD : va_D A [(sd, .inr (9, [.ref nr])), (nr, .inl (t 2, 512, .inr (.inl nrf))), (ha3, .inl (t 1, 9, .inl hf3)), (hh, .inr (5, [.int hli, .int hro, .int hse, .int hla, .int hpl, .int hex, .long hsi, .ref ha1, .ref ha2, .ref ha3, .ref ha4, .ref ha5, .ref ha6, .ref ha7, .ref ha8, .ref hc])), (ha1, .inl (t 1, 9, .inl hf1)), (ha2, .inl (t 1, 9, .inl hf2))] := hD
  refine W.widen (k := 0) (n := 0) (Nat.le_of_ble_eq_true rfl) (Nat.le_of_ble_eq_true rfl) ?_
  refine lv_lstore (lv' := [(4, .long r_1), (0, .ref sd), (1, .ref hh), (2, .int a0), (3, .int b0)]) hx hb dX9_leastSet_6 hl (by decide) rfl (fun ls hl => ?_)
  refine lv_iconst (v := 1) hx hb dX9_leastSet_8 (by decide) ?_
  refine lv_iconst (v := 0) hx hb dX9_leastSet_9 (by decide) ?_
  refine lv_aload_n hx hb dX9_leastSet_10 rfl (lv_at hl 2 rfl) ?_
  refine gf hx hb hts hown hK hP 3 inT5 rfl rfl 4 (by decide) tw1_98 rfl dX9_leastSet_11 ?_
  refine lv_bipush (v := 9) hx hb dX9_leastSet_14 (by decide) ?_
  refine mminZ hx hb hml hl.1 hown hts tw4_140 tw2_209 tw1_14 tw2_210 (by decide) (Nat.le_of_ble_eq_true rfl) (by decide) (by decide) hpl.toInt 9 rfl rfl dX9_leastSet_16 (fun v_3 zv_3 => ?_)
  refine mmaxZ hx hb hml hl.1 hown hts tw4_141 tw4_1 tw1_14 tw4_2 (by decide) (Nat.le_of_ble_eq_true rfl) (by decide) (by decide) 0 v_3.toInt rfl rfl dX9_leastSet_19 (fun v_4 zv_4 => ?_)
  refine lv_ishl hx hb dX9_leastSet_22 (gnI (fun v_5 => ?_))
  refine lv_istore (lv' := [(6, .int v_5), (4, .long r_1), (0, .ref sd), (1, .ref hh), (2, .int a0), (3, .int b0)]) hx hb dX9_leastSet_23 hl (by decide) rfl (fun ls hl => ?_)
  refine lv_aload_n hx hb dX9_leastSet_25 rfl (lv_at hl 2 rfl) ?_
  refine gf hx hb hts hown hK hP 0 inT9 rfl rfl 0 (by decide) tw2_105 rfl dX9_leastSet_26 ?_
  refine lv_iconst (v := 0) hx hb dX9_leastSet_29 (by decide) ?_
  refine lv_lconst (v := 0) hx hb dX9_leastSet_30 (by decide) ?_
  refine saL hx hb hK hP hD hS 1 rfl 0 rfl (by decide) dX9_leastSet_31 (fun f_6 ef_6 H locs hP hD hS => ?_)
  have hP : va_P G vwCl [(sd, .inr (9, [.ref nr])), (nr, .inl (t 2, 512, .inr (.inl f_6))), (ha3, .inl (t 1, 9, .inl hf3)), (hh, .inr (5, [.int hli, .int hro, .int hse, .int hla, .int hpl, .int hex, .long hsi, .ref ha1, .ref ha2, .ref ha3, .ref ha4, .ref ha5, .ref ha6, .ref ha7, .ref ha8, .ref hc])), (ha1, .inl (t 1, 9, .inl hf1)), (ha2, .inl (t 1, 9, .inl hf2))] H := hP
  have hD : va_D A [(sd, .inr (9, [.ref nr])), (nr, .inl (t 2, 512, .inr (.inl f_6))), (ha3, .inl (t 1, 9, .inl hf3)), (hh, .inr (5, [.int hli, .int hro, .int hse, .int hla, .int hpl, .int hex, .long hsi, .ref ha1, .ref ha2, .ref ha3, .ref ha4, .ref ha5, .ref ha6, .ref ha7, .ref ha8, .ref hc])), (ha1, .inl (t 1, 9, .inl hf1)), (ha2, .inl (t 1, 9, .inl hf2))] := hD
  refine lv_iconst (v := 0) hx hb dX9_leastSet_32 (by decide) ?_
  refine lv_istore (lv' := [(7, .int 0), (6, .int v_5), (4, .long r_1), (0, .ref sd), (1, .ref hh), (2, .int a0), (3, .int b0)]) hx hb dX9_leastSet_33 hl (by decide) rfl (fun ls hl => ?_)
  have LP_13 : ∀ (n : Nat) (g_10 : Int32) (f_12 : Nat → Int64) (b_11 : 0 ≤ g_10.toInt) (H : Heap) (locs : List Loc) (ls : Array Slot), lv_has ls 9 [(7, .int g_10), (6, .int v_5), (4, .long r_1), (0, .ref sd), (1, .ref hh), (2, .int a0), (3, .int b0)] → va_P G vwCl [(sd, .inr (9, [.ref nr])), (nr, .inl (t 2, 512, .inr (.inl f_12))), (ha3, .inl (t 1, 9, .inl hf3)), (hh, .inr (5, [.int hli, .int hro, .int hse, .int hla, .int hpl, .int hex, .long hsi, .ref ha1, .ref ha2, .ref ha3, .ref ha4, .ref ha5, .ref ha6, .ref ha7, .ref ha8, .ref hc])), (ha1, .inl (t 1, 9, .inl hf1)), (ha2, .inl (t 1, 9, .inl hf2))] H → va_D A [(sd, .inr (9, [.ref nr])), (nr, .inl (t 2, 512, .inr (.inl f_12))), (ha3, .inl (t 1, 9, .inl hf3)), (hh, .inr (5, [.int hli, .int hro, .int hse, .int hla, .int hpl, .int hex, .long hsi, .ref ha1, .ref ha2, .ref ha3, .ref ha4, .ref ha5, .ref ha6, .ref ha7, .ref ha8, .ref hc])), (ha1, .inl (t 1, 9, .inl hf1)), (ha2, .inl (t 1, 9, .inl hf2))] → va_S A s.heap H locs → Int.toNat (hpl.toInt - g_10.toInt) = n → W p l e ({ frames := 3, cells := 0, slots := 0, locals := 64 }) s m args below meth c H locs 0 0 (MQ below ((QI G (fun r (u : (Nat → Int64)) => True) (fun (u : (Nat → Int64)) => [(sd, .inr (9, [.ref nr])), (nr, .inl (t 2, 512, .inr (.inl u))), (hh, .inr (5, [.int hli, .int hro, .int hse, .int hla, .int hpl, .int hex, .long hsi, .ref ha1, .ref ha2, .ref ha3, .ref ha4, .ref ha5, .ref ha6, .ref ha7, .ref ha8, .ref hc])), (ha1, .inl (t 1, 9, .inl hf1)), (ha2, .inl (t 1, 9, .inl hf2)), (ha3, .inl (t 1, 9, .inl hf3))])) A) args s 0 0 A) (F0 m 35 ls []) := by
    intro n
    induction n using Nat.strongRecOn with
    | ind n ih_35 =>
      intro g_10 f_12 b_11 H locs ls hl hP hD hS hmu
      have := zrng g_10
      refine lv_iload hx hb dX9_leastSet_35 (lv_at hl 0 rfl) ?_
      refine lv_aload_n hx hb dX9_leastSet_37 rfl (lv_at hl 4 rfl) ?_
      refine gf hx hb hts hown hK hP 3 inT5 rfl rfl 4 (by decide) tw1_98 rfl dX9_leastSet_38 ?_
      refine bI_ge (tgt := 73) hx hb dX9_leastSet_41 (by decide) g_10.toInt hpl.toInt rfl rfl (fun c_14 => ?_) (fun c_14 => ?_)
      · refine lv_iconst (v := 1) hx hb dX9_leastSet_73 (by decide) ?_
        refine lv_istore (lv' := [(7, .int 1), (6, .int v_5), (4, .long r_1), (0, .ref sd), (1, .ref hh), (2, .int a0), (3, .int b0)]) hx hb dX9_leastSet_74 hl (by decide) rfl (fun ls hl => ?_)
        have LP_21 : ∀ (n : Nat) (g_18 : Int32) (f_20 : Nat → Int64) (b_19 : 1 ≤ g_18.toInt) (H : Heap) (locs : List Loc) (ls : Array Slot), lv_has ls 9 [(7, .int g_18), (6, .int v_5), (4, .long r_1), (0, .ref sd), (1, .ref hh), (2, .int a0), (3, .int b0)] → va_P G vwCl [(sd, .inr (9, [.ref nr])), (nr, .inl (t 2, 512, .inr (.inl f_20))), (ha3, .inl (t 1, 9, .inl hf3)), (hh, .inr (5, [.int hli, .int hro, .int hse, .int hla, .int hpl, .int hex, .long hsi, .ref ha1, .ref ha2, .ref ha3, .ref ha4, .ref ha5, .ref ha6, .ref ha7, .ref ha8, .ref hc])), (ha1, .inl (t 1, 9, .inl hf1)), (ha2, .inl (t 1, 9, .inl hf2))] H → va_D A [(sd, .inr (9, [.ref nr])), (nr, .inl (t 2, 512, .inr (.inl f_20))), (ha3, .inl (t 1, 9, .inl hf3)), (hh, .inr (5, [.int hli, .int hro, .int hse, .int hla, .int hpl, .int hex, .long hsi, .ref ha1, .ref ha2, .ref ha3, .ref ha4, .ref ha5, .ref ha6, .ref ha7, .ref ha8, .ref hc])), (ha1, .inl (t 1, 9, .inl hf1)), (ha2, .inl (t 1, 9, .inl hf2))] → va_S A s.heap H locs → Int.toNat (v_5.toInt - g_18.toInt) = n → W p l e ({ frames := 3, cells := 0, slots := 0, locals := 64 }) s m args below meth c H locs 0 0 (MQ below ((QI G (fun r (u : (Nat → Int64)) => True) (fun (u : (Nat → Int64)) => [(sd, .inr (9, [.ref nr])), (nr, .inl (t 2, 512, .inr (.inl u))), (hh, .inr (5, [.int hli, .int hro, .int hse, .int hla, .int hpl, .int hex, .long hsi, .ref ha1, .ref ha2, .ref ha3, .ref ha4, .ref ha5, .ref ha6, .ref ha7, .ref ha8, .ref hc])), (ha1, .inl (t 1, 9, .inl hf1)), (ha2, .inl (t 1, 9, .inl hf2)), (ha3, .inl (t 1, 9, .inl hf3))])) A) args s 0 0 A) (F0 m 76 ls []) := by
          intro n
          induction n using Nat.strongRecOn with
          | ind n ih_76 =>
            intro g_18 f_20 b_19 H locs ls hl hP hD hS hmu
            have := zrng g_18
            refine lv_iload hx hb dX9_leastSet_76 (lv_at hl 0 rfl) ?_
            refine lv_iload hx hb dX9_leastSet_78 (lv_at hl 1 rfl) ?_
            refine bI_ge (tgt := 167) hx hb dX9_leastSet_80 (by decide) g_18.toInt v_5.toInt rfl rfl (fun c_22 => ?_) (fun c_22 => ?_)
            · refine lv_iconst (v := (-1)) hx hb dX9_leastSet_167 (by decide) ?_
              exact rtI hx hb hr hlocks hS f_20 (trivial) (hP.sub [0, 1, 3, 4, 5, 2] rfl) (hD.sub [0, 1, 3, 4, 5, 2] (by decide) rfl) dX9_leastSet_168
            · refine lv_iload hx hb dX9_leastSet_83 (lv_at hl 0 rfl) ?_
              refine lv_aload_n hx hb dX9_leastSet_85 rfl (lv_at hl 3 rfl) ?_
              refine gf hx hb hts hown hK hP 0 inT9 rfl rfl 0 (by decide) tw2_105 rfl dX9_leastSet_86 ?_
              refine va_alen hx hb hK hP 1 2 rfl rfl (v := 512) rfl dX9_leastSet_89 ?_
              refine bI_ge (tgt := 167) hx hb dX9_leastSet_90 (by decide) g_18.toInt 512 rfl rfl (fun c_23 => ?_) (fun c_23 => ?_)
              · refine lv_iconst (v := (-1)) hx hb dX9_leastSet_167 (by decide) ?_
                exact rtI hx hb hr hlocks hS f_20 (trivial) (hP.sub [0, 1, 3, 4, 5, 2] rfl) (hD.sub [0, 1, 3, 4, 5, 2] (by decide) rfl) dX9_leastSet_168
              · refine lv_iload hx hb dX9_leastSet_93 (lv_at hl 0 rfl) ?_
                refine lv_iload hx hb dX9_leastSet_95 (lv_at hl 0 rfl) ?_
                refine lv_iconst (v := 1) hx hb dX9_leastSet_97 (by decide) ?_
                first | refine sbZ hx hb dX9_leastSet_98 g_18.toInt 1 rfl rfl (by have := zrng g_18; omega) (fun v_24 zv_24 => ?_) | refine lv_isub hx hb dX9_leastSet_98 (gnI (fun v_24 => ?_))
                refine anZ hx hb dX9_leastSet_99 g_18.toInt v_24.toInt rfl rfl (by omega) (fun v_25 zv_25 => ?_)
                refine lv_istore (lv' := [(8, .int v_25), (7, .int g_18), (6, .int v_5), (4, .long r_1), (0, .ref sd), (1, .ref hh), (2, .int a0), (3, .int b0)]) hx hb dX9_leastSet_100 hl (by decide) rfl (fun ls hl => ?_)
                refine lv_aload_n hx hb dX9_leastSet_102 rfl (lv_at hl 4 rfl) ?_
                refine gf hx hb hts hown hK hP 0 inT9 rfl rfl 0 (by decide) tw2_105 rfl dX9_leastSet_103 ?_
                refine lv_iload hx hb dX9_leastSet_106 (lv_at hl 1 rfl) ?_
                refine lv_aload_n hx hb dX9_leastSet_108 rfl (lv_at hl 4 rfl) ?_
                refine gf hx hb hts hown hK hP 0 inT9 rfl rfl 0 (by decide) tw2_105 rfl dX9_leastSet_109 ?_
                refine lv_iload hx hb dX9_leastSet_112 (lv_at hl 0 rfl) ?_
                refine laL hx hb hK hP 1 rfl v_25.toInt rfl (by omega) dX9_leastSet_114 (fun v_26 ev_26 => ?_)
                refine lv_aload_n hx hb dX9_leastSet_115 rfl (lv_at hl 4 rfl) ?_
                refine gf hx hb hts hown hK hP 0 inT9 rfl rfl 0 (by decide) tw2_105 rfl dX9_leastSet_116 ?_
                refine lv_iload hx hb dX9_leastSet_119 (lv_at hl 1 rfl) ?_
                refine lv_iload hx hb dX9_leastSet_121 (lv_at hl 0 rfl) ?_
                first | refine sbZ hx hb dX9_leastSet_123 g_18.toInt v_25.toInt rfl rfl (by have := zrng g_18; have := zrng v_25; omega) (fun v_27 zv_27 => ?_) | refine lv_isub hx hb dX9_leastSet_123 (gnI (fun v_27 => ?_))
                refine laL hx hb hK hP 1 rfl v_27.toInt rfl (by omega) dX9_leastSet_124 (fun v_28 ev_28 => ?_)
                refine lv_lor hx hb dX9_leastSet_125 (gnL (fun v_29 => ?_))
                refine saL hx hb hK hP hD hS 1 rfl g_18.toInt rfl (by omega) dX9_leastSet_126 (fun f_30 ef_30 H locs hP hD hS => ?_)
                have hP : va_P G vwCl [(sd, .inr (9, [.ref nr])), (nr, .inl (t 2, 512, .inr (.inl f_30))), (ha3, .inl (t 1, 9, .inl hf3)), (hh, .inr (5, [.int hli, .int hro, .int hse, .int hla, .int hpl, .int hex, .long hsi, .ref ha1, .ref ha2, .ref ha3, .ref ha4, .ref ha5, .ref ha6, .ref ha7, .ref ha8, .ref hc])), (ha1, .inl (t 1, 9, .inl hf1)), (ha2, .inl (t 1, 9, .inl hf2))] H := hP
                have hD : va_D A [(sd, .inr (9, [.ref nr])), (nr, .inl (t 2, 512, .inr (.inl f_30))), (ha3, .inl (t 1, 9, .inl hf3)), (hh, .inr (5, [.int hli, .int hro, .int hse, .int hla, .int hpl, .int hex, .long hsi, .ref ha1, .ref ha2, .ref ha3, .ref ha4, .ref ha5, .ref ha6, .ref ha7, .ref ha8, .ref hc])), (ha1, .inl (t 1, 9, .inl hf1)), (ha2, .inl (t 1, 9, .inl hf2))] := hD
                refine lv_aload_n hx hb dX9_leastSet_127 rfl (lv_at hl 4 rfl) ?_
                refine gf hx hb hts hown hK hP 0 inT9 rfl rfl 0 (by decide) tw2_105 rfl dX9_leastSet_128 ?_
                refine lv_iload hx hb dX9_leastSet_131 (lv_at hl 1 rfl) ?_
                refine laL hx hb hK hP 1 rfl g_18.toInt rfl (by omega) dX9_leastSet_133 (fun v_31 ev_31 => ?_)
                refine lv_lload hx hb dX9_leastSet_134 (lv_at hl 3 rfl) ?_
                refine bL_ne (tgt := 161) hx hb dX9_leastSet_136 dX9_leastSet_137 (by decide) v_31.toInt r_1.toInt rfl rfl (fun c_32 => ?_) (fun c_32 => ?_)
                · first | refine incZ hx hb dX9_leastSet_161 hl (k := 1) rfl g_18.toInt rfl (by have := zrng g_18; omega) (by decide) (fun v_33 zv_33 ls hl => ?_) | refine incU hx hb dX9_leastSet_161 hl (k := 1) rfl (by decide) (fun v_33 ls hl => ?_)
                  have hl : lv_has ls 9 [(7, .int v_33), (8, .int v_25), (6, .int v_5), (4, .long r_1), (0, .ref sd), (1, .ref hh), (2, .int a0), (3, .int b0)] := hl
                  refine lv_goto (tgt := 76) hx hb dX9_leastSet_164 (by decide) ?_
                  exact ih_76 (Int.toNat (v_5.toInt - v_33.toInt)) (by omega) v_33 f_30 (by omega) _ _ _ (lv_sub hl [0, 2, 3, 4, 5, 6, 7] rfl) (hP.sub [0, 1, 2, 3, 4, 5] rfl) (hD.sub [0, 1, 2, 3, 4, 5] (by decide) rfl) hS rfl
                · refine lv_iload hx hb dX9_leastSet_140 (lv_at hl 1 rfl) ?_
                  refine goI (rnS C0 (j_ibc l G t g_18) lkX9_38 ⟨by decide, by decide⟩ (hP.sub (ws' := []) [] rfl) (hD.sub (ws' := []) [] (by decide) rfl) rfl hl.1 (rest := []) rfl (Nat.le_of_ble_eq_true rfl) dX9_leastSet_142 ⟨by decide, by decide⟩) hP hD hS hA [] [0, 1, 2, 3, 4, 5] (wr := [(sd, .inr (9, [.ref nr])), (nr, .inl (t 2, 512, .inr (.inl f_30))), (ha3, .inl (t 1, 9, .inl hf3)), (hh, .inr (5, [.int hli, .int hro, .int hse, .int hla, .int hpl, .int hex, .long hsi, .ref ha1, .ref ha2, .ref ha3, .ref ha4, .ref ha5, .ref ha6, .ref ha7, .ref ha8, .ref hc])), (ha1, .inl (t 1, 9, .inl hf1)), (ha2, .inl (t 1, 9, .inl hf2))]) rfl rfl (by decide) (by decide) (fun r_34 u H locs h_35 hP hD hS => ?_)
                  have hP : va_P G vwCl [(sd, .inr (9, [.ref nr])), (nr, .inl (t 2, 512, .inr (.inl f_30))), (ha3, .inl (t 1, 9, .inl hf3)), (hh, .inr (5, [.int hli, .int hro, .int hse, .int hla, .int hpl, .int hex, .long hsi, .ref ha1, .ref ha2, .ref ha3, .ref ha4, .ref ha5, .ref ha6, .ref ha7, .ref ha8, .ref hc])), (ha1, .inl (t 1, 9, .inl hf1)), (ha2, .inl (t 1, 9, .inl hf2))] H := hP
                  have hD : va_D A [(sd, .inr (9, [.ref nr])), (nr, .inl (t 2, 512, .inr (.inl f_30))), (ha3, .inl (t 1, 9, .inl hf3)), (hh, .inr (5, [.int hli, .int hro, .int hse, .int hla, .int hpl, .int hex, .long hsi, .ref ha1, .ref ha2, .ref ha3, .ref ha4, .ref ha5, .ref ha6, .ref ha7, .ref ha8, .ref hc])), (ha1, .inl (t 1, 9, .inl hf1)), (ha2, .inl (t 1, 9, .inl hf2))] := hD
                  refine W.widen (k := 0) (n := 0) (Nat.le_of_ble_eq_true rfl) (Nat.le_of_ble_eq_true rfl) ?_
                  refine lv_iload_n hx hb dX9_leastSet_145 rfl (lv_at hl 6 rfl) ?_
                  refine bI_gt (tgt := 161) hx hb dX9_leastSet_146 (by decide) r_34.toInt a0.toInt rfl rfl (fun c_36 => ?_) (fun c_36 => ?_)
                  · first | refine incZ hx hb dX9_leastSet_161 hl (k := 1) rfl g_18.toInt rfl (by have := zrng g_18; omega) (by decide) (fun v_37 zv_37 ls hl => ?_) | refine incU hx hb dX9_leastSet_161 hl (k := 1) rfl (by decide) (fun v_37 ls hl => ?_)
                    have hl : lv_has ls 9 [(7, .int v_37), (8, .int v_25), (6, .int v_5), (4, .long r_1), (0, .ref sd), (1, .ref hh), (2, .int a0), (3, .int b0)] := hl
                    refine lv_goto (tgt := 76) hx hb dX9_leastSet_164 (by decide) ?_
                    exact ih_76 (Int.toNat (v_5.toInt - v_37.toInt)) (by omega) v_37 f_30 (by omega) _ _ _ (lv_sub hl [0, 2, 3, 4, 5, 6, 7] rfl) (hP.sub [0, 1, 2, 3, 4, 5] rfl) (hD.sub [0, 1, 2, 3, 4, 5] (by decide) rfl) hS rfl
                  · refine lv_aload_n hx hb dX9_leastSet_149 rfl (lv_at hl 5 rfl) ?_
                    refine lv_iload hx hb dX9_leastSet_150 (lv_at hl 1 rfl) ?_
                    refine goI (rnS C0 (x_sareGood l G t hh g_18 hli hro hse hla hpl hex hsi ha1 ha2 ha3 ha4 ha5 ha6 ha7 ha8 hc hf3 (by omega) (by omega) (by omega) (by omega)) lkX9_44 ⟨by decide, by decide⟩ (hP.sub (ws' := [(hh, .inr (5, [.int hli, .int hro, .int hse, .int hla, .int hpl, .int hex, .long hsi, .ref ha1, .ref ha2, .ref ha3, .ref ha4, .ref ha5, .ref ha6, .ref ha7, .ref ha8, .ref hc])), (ha3, .inl (t 1, 9, .inl hf3))]) [3, 2] rfl) (hD.sub (ws' := [(hh, .inr (5, [.int hli, .int hro, .int hse, .int hla, .int hpl, .int hex, .long hsi, .ref ha1, .ref ha2, .ref ha3, .ref ha4, .ref ha5, .ref ha6, .ref ha7, .ref ha8, .ref hc])), (ha3, .inl (t 1, 9, .inl hf3))]) [3, 2] (by decide) rfl) rfl hl.1 (rest := []) rfl (Nat.le_of_ble_eq_true rfl) dX9_leastSet_152 ⟨by decide, by decide⟩) hP hD hS hA [3, 2] [0, 1, 4, 5] (wr := [(sd, .inr (9, [.ref nr])), (nr, .inl (t 2, 512, .inr (.inl f_30))), (ha1, .inl (t 1, 9, .inl hf1)), (ha2, .inl (t 1, 9, .inl hf2))]) rfl rfl (by decide) (by decide) (fun r_38 u H locs h_39 hP hD hS => ?_)
                    have hP : va_P G vwCl [(sd, .inr (9, [.ref nr])), (nr, .inl (t 2, 512, .inr (.inl f_30))), (ha1, .inl (t 1, 9, .inl hf1)), (ha2, .inl (t 1, 9, .inl hf2)), (hh, .inr (5, [.int hli, .int hro, .int hse, .int hla, .int hpl, .int hex, .long hsi, .ref ha1, .ref ha2, .ref ha3, .ref ha4, .ref ha5, .ref ha6, .ref ha7, .ref ha8, .ref hc])), (ha3, .inl (t 1, 9, .inl hf3))] H := hP
                    have hD : va_D A [(sd, .inr (9, [.ref nr])), (nr, .inl (t 2, 512, .inr (.inl f_30))), (ha1, .inl (t 1, 9, .inl hf1)), (ha2, .inl (t 1, 9, .inl hf2)), (hh, .inr (5, [.int hli, .int hro, .int hse, .int hla, .int hpl, .int hex, .long hsi, .ref ha1, .ref ha2, .ref ha3, .ref ha4, .ref ha5, .ref ha6, .ref ha7, .ref ha8, .ref hc])), (ha3, .inl (t 1, 9, .inl hf3))] := hD
                    refine W.widen (k := 0) (n := 0) (Nat.le_of_ble_eq_true rfl) (Nat.le_of_ble_eq_true rfl) ?_
                    refine bF_eq (tgt := 161) hx hb dX9_leastSet_155 (by decide) r_38.toInt rfl (fun c_40 => ?_) (fun c_40 => ?_)
                    · first | refine incZ hx hb dX9_leastSet_161 hl (k := 1) rfl g_18.toInt rfl (by have := zrng g_18; omega) (by decide) (fun v_41 zv_41 ls hl => ?_) | refine incU hx hb dX9_leastSet_161 hl (k := 1) rfl (by decide) (fun v_41 ls hl => ?_)
                      have hl : lv_has ls 9 [(7, .int v_41), (8, .int v_25), (6, .int v_5), (4, .long r_1), (0, .ref sd), (1, .ref hh), (2, .int a0), (3, .int b0)] := hl
                      refine lv_goto (tgt := 76) hx hb dX9_leastSet_164 (by decide) ?_
                      exact ih_76 (Int.toNat (v_5.toInt - v_41.toInt)) (by omega) v_41 f_30 (by omega) _ _ _ (lv_sub hl [0, 2, 3, 4, 5, 6, 7] rfl) (hP.sub [0, 1, 5, 4, 2, 3] rfl) (hD.sub [0, 1, 5, 4, 2, 3] (by decide) rfl) hS rfl
                    · refine lv_iload hx hb dX9_leastSet_158 (lv_at hl 1 rfl) ?_
                      exact rtI hx hb hr hlocks hS f_30 (trivial) (hP.sub [0, 1, 4, 2, 3, 5] rfl) (hD.sub [0, 1, 4, 2, 3, 5] (by decide) rfl) dX9_leastSet_160
        exact LP_21 (Int.toNat (v_5.toInt - 1)) 1 f_12 (by have : (1 : Int32).toInt = 1 := rfl; omega) _ _ _ (lv_sub hl [0, 1, 2, 3, 4, 5, 6] rfl) (hP.sub [0, 1, 2, 3, 4, 5] rfl) (hD.sub [0, 1, 2, 3, 4, 5] (by decide) rfl) hS rfl
      · refine lv_iload hx hb dX9_leastSet_44 (lv_at hl 0 rfl) ?_
        refine lv_bipush (v := 9) hx hb dX9_leastSet_46 (by decide) ?_
        refine bI_ge (tgt := 73) hx hb dX9_leastSet_48 (by decide) g_10.toInt 9 rfl rfl (fun c_42 => ?_) (fun c_42 => ?_)
        · refine lv_iconst (v := 1) hx hb dX9_leastSet_73 (by decide) ?_
          refine lv_istore (lv' := [(7, .int 1), (6, .int v_5), (4, .long r_1), (0, .ref sd), (1, .ref hh), (2, .int a0), (3, .int b0)]) hx hb dX9_leastSet_74 hl (by decide) rfl (fun ls hl => ?_)
          have LP_49 : ∀ (n : Nat) (g_46 : Int32) (f_48 : Nat → Int64) (b_47 : 1 ≤ g_46.toInt) (H : Heap) (locs : List Loc) (ls : Array Slot), lv_has ls 9 [(7, .int g_46), (6, .int v_5), (4, .long r_1), (0, .ref sd), (1, .ref hh), (2, .int a0), (3, .int b0)] → va_P G vwCl [(sd, .inr (9, [.ref nr])), (nr, .inl (t 2, 512, .inr (.inl f_48))), (ha3, .inl (t 1, 9, .inl hf3)), (hh, .inr (5, [.int hli, .int hro, .int hse, .int hla, .int hpl, .int hex, .long hsi, .ref ha1, .ref ha2, .ref ha3, .ref ha4, .ref ha5, .ref ha6, .ref ha7, .ref ha8, .ref hc])), (ha1, .inl (t 1, 9, .inl hf1)), (ha2, .inl (t 1, 9, .inl hf2))] H → va_D A [(sd, .inr (9, [.ref nr])), (nr, .inl (t 2, 512, .inr (.inl f_48))), (ha3, .inl (t 1, 9, .inl hf3)), (hh, .inr (5, [.int hli, .int hro, .int hse, .int hla, .int hpl, .int hex, .long hsi, .ref ha1, .ref ha2, .ref ha3, .ref ha4, .ref ha5, .ref ha6, .ref ha7, .ref ha8, .ref hc])), (ha1, .inl (t 1, 9, .inl hf1)), (ha2, .inl (t 1, 9, .inl hf2))] → va_S A s.heap H locs → Int.toNat (v_5.toInt - g_46.toInt) = n → W p l e ({ frames := 3, cells := 0, slots := 0, locals := 64 }) s m args below meth c H locs 0 0 (MQ below ((QI G (fun r (u : (Nat → Int64)) => True) (fun (u : (Nat → Int64)) => [(sd, .inr (9, [.ref nr])), (nr, .inl (t 2, 512, .inr (.inl u))), (hh, .inr (5, [.int hli, .int hro, .int hse, .int hla, .int hpl, .int hex, .long hsi, .ref ha1, .ref ha2, .ref ha3, .ref ha4, .ref ha5, .ref ha6, .ref ha7, .ref ha8, .ref hc])), (ha1, .inl (t 1, 9, .inl hf1)), (ha2, .inl (t 1, 9, .inl hf2)), (ha3, .inl (t 1, 9, .inl hf3))])) A) args s 0 0 A) (F0 m 76 ls []) := by
            intro n
            induction n using Nat.strongRecOn with
            | ind n ih_76 =>
              intro g_46 f_48 b_47 H locs ls hl hP hD hS hmu
              have := zrng g_46
              refine lv_iload hx hb dX9_leastSet_76 (lv_at hl 0 rfl) ?_
              refine lv_iload hx hb dX9_leastSet_78 (lv_at hl 1 rfl) ?_
              refine bI_ge (tgt := 167) hx hb dX9_leastSet_80 (by decide) g_46.toInt v_5.toInt rfl rfl (fun c_50 => ?_) (fun c_50 => ?_)
              · refine lv_iconst (v := (-1)) hx hb dX9_leastSet_167 (by decide) ?_
                exact rtI hx hb hr hlocks hS f_48 (trivial) (hP.sub [0, 1, 3, 4, 5, 2] rfl) (hD.sub [0, 1, 3, 4, 5, 2] (by decide) rfl) dX9_leastSet_168
              · refine lv_iload hx hb dX9_leastSet_83 (lv_at hl 0 rfl) ?_
                refine lv_aload_n hx hb dX9_leastSet_85 rfl (lv_at hl 3 rfl) ?_
                refine gf hx hb hts hown hK hP 0 inT9 rfl rfl 0 (by decide) tw2_105 rfl dX9_leastSet_86 ?_
                refine va_alen hx hb hK hP 1 2 rfl rfl (v := 512) rfl dX9_leastSet_89 ?_
                refine bI_ge (tgt := 167) hx hb dX9_leastSet_90 (by decide) g_46.toInt 512 rfl rfl (fun c_51 => ?_) (fun c_51 => ?_)
                · refine lv_iconst (v := (-1)) hx hb dX9_leastSet_167 (by decide) ?_
                  exact rtI hx hb hr hlocks hS f_48 (trivial) (hP.sub [0, 1, 3, 4, 5, 2] rfl) (hD.sub [0, 1, 3, 4, 5, 2] (by decide) rfl) dX9_leastSet_168
                · refine lv_iload hx hb dX9_leastSet_93 (lv_at hl 0 rfl) ?_
                  refine lv_iload hx hb dX9_leastSet_95 (lv_at hl 0 rfl) ?_
                  refine lv_iconst (v := 1) hx hb dX9_leastSet_97 (by decide) ?_
                  first | refine sbZ hx hb dX9_leastSet_98 g_46.toInt 1 rfl rfl (by have := zrng g_46; omega) (fun v_52 zv_52 => ?_) | refine lv_isub hx hb dX9_leastSet_98 (gnI (fun v_52 => ?_))
                  refine anZ hx hb dX9_leastSet_99 g_46.toInt v_52.toInt rfl rfl (by omega) (fun v_53 zv_53 => ?_)
                  refine lv_istore (lv' := [(8, .int v_53), (7, .int g_46), (6, .int v_5), (4, .long r_1), (0, .ref sd), (1, .ref hh), (2, .int a0), (3, .int b0)]) hx hb dX9_leastSet_100 hl (by decide) rfl (fun ls hl => ?_)
                  refine lv_aload_n hx hb dX9_leastSet_102 rfl (lv_at hl 4 rfl) ?_
                  refine gf hx hb hts hown hK hP 0 inT9 rfl rfl 0 (by decide) tw2_105 rfl dX9_leastSet_103 ?_
                  refine lv_iload hx hb dX9_leastSet_106 (lv_at hl 1 rfl) ?_
                  refine lv_aload_n hx hb dX9_leastSet_108 rfl (lv_at hl 4 rfl) ?_
                  refine gf hx hb hts hown hK hP 0 inT9 rfl rfl 0 (by decide) tw2_105 rfl dX9_leastSet_109 ?_
                  refine lv_iload hx hb dX9_leastSet_112 (lv_at hl 0 rfl) ?_
                  refine laL hx hb hK hP 1 rfl v_53.toInt rfl (by omega) dX9_leastSet_114 (fun v_54 ev_54 => ?_)
                  refine lv_aload_n hx hb dX9_leastSet_115 rfl (lv_at hl 4 rfl) ?_
                  refine gf hx hb hts hown hK hP 0 inT9 rfl rfl 0 (by decide) tw2_105 rfl dX9_leastSet_116 ?_
                  refine lv_iload hx hb dX9_leastSet_119 (lv_at hl 1 rfl) ?_
                  refine lv_iload hx hb dX9_leastSet_121 (lv_at hl 0 rfl) ?_
                  first | refine sbZ hx hb dX9_leastSet_123 g_46.toInt v_53.toInt rfl rfl (by have := zrng g_46; have := zrng v_53; omega) (fun v_55 zv_55 => ?_) | refine lv_isub hx hb dX9_leastSet_123 (gnI (fun v_55 => ?_))
                  refine laL hx hb hK hP 1 rfl v_55.toInt rfl (by omega) dX9_leastSet_124 (fun v_56 ev_56 => ?_)
                  refine lv_lor hx hb dX9_leastSet_125 (gnL (fun v_57 => ?_))
                  refine saL hx hb hK hP hD hS 1 rfl g_46.toInt rfl (by omega) dX9_leastSet_126 (fun f_58 ef_58 H locs hP hD hS => ?_)
                  have hP : va_P G vwCl [(sd, .inr (9, [.ref nr])), (nr, .inl (t 2, 512, .inr (.inl f_58))), (ha3, .inl (t 1, 9, .inl hf3)), (hh, .inr (5, [.int hli, .int hro, .int hse, .int hla, .int hpl, .int hex, .long hsi, .ref ha1, .ref ha2, .ref ha3, .ref ha4, .ref ha5, .ref ha6, .ref ha7, .ref ha8, .ref hc])), (ha1, .inl (t 1, 9, .inl hf1)), (ha2, .inl (t 1, 9, .inl hf2))] H := hP
                  have hD : va_D A [(sd, .inr (9, [.ref nr])), (nr, .inl (t 2, 512, .inr (.inl f_58))), (ha3, .inl (t 1, 9, .inl hf3)), (hh, .inr (5, [.int hli, .int hro, .int hse, .int hla, .int hpl, .int hex, .long hsi, .ref ha1, .ref ha2, .ref ha3, .ref ha4, .ref ha5, .ref ha6, .ref ha7, .ref ha8, .ref hc])), (ha1, .inl (t 1, 9, .inl hf1)), (ha2, .inl (t 1, 9, .inl hf2))] := hD
                  refine lv_aload_n hx hb dX9_leastSet_127 rfl (lv_at hl 4 rfl) ?_
                  refine gf hx hb hts hown hK hP 0 inT9 rfl rfl 0 (by decide) tw2_105 rfl dX9_leastSet_128 ?_
                  refine lv_iload hx hb dX9_leastSet_131 (lv_at hl 1 rfl) ?_
                  refine laL hx hb hK hP 1 rfl g_46.toInt rfl (by omega) dX9_leastSet_133 (fun v_59 ev_59 => ?_)
                  refine lv_lload hx hb dX9_leastSet_134 (lv_at hl 3 rfl) ?_
                  refine bL_ne (tgt := 161) hx hb dX9_leastSet_136 dX9_leastSet_137 (by decide) v_59.toInt r_1.toInt rfl rfl (fun c_60 => ?_) (fun c_60 => ?_)
                  · first | refine incZ hx hb dX9_leastSet_161 hl (k := 1) rfl g_46.toInt rfl (by have := zrng g_46; omega) (by decide) (fun v_61 zv_61 ls hl => ?_) | refine incU hx hb dX9_leastSet_161 hl (k := 1) rfl (by decide) (fun v_61 ls hl => ?_)
                    have hl : lv_has ls 9 [(7, .int v_61), (8, .int v_53), (6, .int v_5), (4, .long r_1), (0, .ref sd), (1, .ref hh), (2, .int a0), (3, .int b0)] := hl
                    refine lv_goto (tgt := 76) hx hb dX9_leastSet_164 (by decide) ?_
                    exact ih_76 (Int.toNat (v_5.toInt - v_61.toInt)) (by omega) v_61 f_58 (by omega) _ _ _ (lv_sub hl [0, 2, 3, 4, 5, 6, 7] rfl) (hP.sub [0, 1, 2, 3, 4, 5] rfl) (hD.sub [0, 1, 2, 3, 4, 5] (by decide) rfl) hS rfl
                  · refine lv_iload hx hb dX9_leastSet_140 (lv_at hl 1 rfl) ?_
                    refine goI (rnS C0 (j_ibc l G t g_46) lkX9_38 ⟨by decide, by decide⟩ (hP.sub (ws' := []) [] rfl) (hD.sub (ws' := []) [] (by decide) rfl) rfl hl.1 (rest := []) rfl (Nat.le_of_ble_eq_true rfl) dX9_leastSet_142 ⟨by decide, by decide⟩) hP hD hS hA [] [0, 1, 2, 3, 4, 5] (wr := [(sd, .inr (9, [.ref nr])), (nr, .inl (t 2, 512, .inr (.inl f_58))), (ha3, .inl (t 1, 9, .inl hf3)), (hh, .inr (5, [.int hli, .int hro, .int hse, .int hla, .int hpl, .int hex, .long hsi, .ref ha1, .ref ha2, .ref ha3, .ref ha4, .ref ha5, .ref ha6, .ref ha7, .ref ha8, .ref hc])), (ha1, .inl (t 1, 9, .inl hf1)), (ha2, .inl (t 1, 9, .inl hf2))]) rfl rfl (by decide) (by decide) (fun r_62 u H locs h_63 hP hD hS => ?_)
                    have hP : va_P G vwCl [(sd, .inr (9, [.ref nr])), (nr, .inl (t 2, 512, .inr (.inl f_58))), (ha3, .inl (t 1, 9, .inl hf3)), (hh, .inr (5, [.int hli, .int hro, .int hse, .int hla, .int hpl, .int hex, .long hsi, .ref ha1, .ref ha2, .ref ha3, .ref ha4, .ref ha5, .ref ha6, .ref ha7, .ref ha8, .ref hc])), (ha1, .inl (t 1, 9, .inl hf1)), (ha2, .inl (t 1, 9, .inl hf2))] H := hP
                    have hD : va_D A [(sd, .inr (9, [.ref nr])), (nr, .inl (t 2, 512, .inr (.inl f_58))), (ha3, .inl (t 1, 9, .inl hf3)), (hh, .inr (5, [.int hli, .int hro, .int hse, .int hla, .int hpl, .int hex, .long hsi, .ref ha1, .ref ha2, .ref ha3, .ref ha4, .ref ha5, .ref ha6, .ref ha7, .ref ha8, .ref hc])), (ha1, .inl (t 1, 9, .inl hf1)), (ha2, .inl (t 1, 9, .inl hf2))] := hD
                    refine W.widen (k := 0) (n := 0) (Nat.le_of_ble_eq_true rfl) (Nat.le_of_ble_eq_true rfl) ?_
                    refine lv_iload_n hx hb dX9_leastSet_145 rfl (lv_at hl 6 rfl) ?_
                    refine bI_gt (tgt := 161) hx hb dX9_leastSet_146 (by decide) r_62.toInt a0.toInt rfl rfl (fun c_64 => ?_) (fun c_64 => ?_)
                    · first | refine incZ hx hb dX9_leastSet_161 hl (k := 1) rfl g_46.toInt rfl (by have := zrng g_46; omega) (by decide) (fun v_65 zv_65 ls hl => ?_) | refine incU hx hb dX9_leastSet_161 hl (k := 1) rfl (by decide) (fun v_65 ls hl => ?_)
                      have hl : lv_has ls 9 [(7, .int v_65), (8, .int v_53), (6, .int v_5), (4, .long r_1), (0, .ref sd), (1, .ref hh), (2, .int a0), (3, .int b0)] := hl
                      refine lv_goto (tgt := 76) hx hb dX9_leastSet_164 (by decide) ?_
                      exact ih_76 (Int.toNat (v_5.toInt - v_65.toInt)) (by omega) v_65 f_58 (by omega) _ _ _ (lv_sub hl [0, 2, 3, 4, 5, 6, 7] rfl) (hP.sub [0, 1, 2, 3, 4, 5] rfl) (hD.sub [0, 1, 2, 3, 4, 5] (by decide) rfl) hS rfl
                    · refine lv_aload_n hx hb dX9_leastSet_149 rfl (lv_at hl 5 rfl) ?_
                      refine lv_iload hx hb dX9_leastSet_150 (lv_at hl 1 rfl) ?_
                      refine goI (rnS C0 (x_sareGood l G t hh g_46 hli hro hse hla hpl hex hsi ha1 ha2 ha3 ha4 ha5 ha6 ha7 ha8 hc hf3 (by omega) (by omega) (by omega) (by omega)) lkX9_44 ⟨by decide, by decide⟩ (hP.sub (ws' := [(hh, .inr (5, [.int hli, .int hro, .int hse, .int hla, .int hpl, .int hex, .long hsi, .ref ha1, .ref ha2, .ref ha3, .ref ha4, .ref ha5, .ref ha6, .ref ha7, .ref ha8, .ref hc])), (ha3, .inl (t 1, 9, .inl hf3))]) [3, 2] rfl) (hD.sub (ws' := [(hh, .inr (5, [.int hli, .int hro, .int hse, .int hla, .int hpl, .int hex, .long hsi, .ref ha1, .ref ha2, .ref ha3, .ref ha4, .ref ha5, .ref ha6, .ref ha7, .ref ha8, .ref hc])), (ha3, .inl (t 1, 9, .inl hf3))]) [3, 2] (by decide) rfl) rfl hl.1 (rest := []) rfl (Nat.le_of_ble_eq_true rfl) dX9_leastSet_152 ⟨by decide, by decide⟩) hP hD hS hA [3, 2] [0, 1, 4, 5] (wr := [(sd, .inr (9, [.ref nr])), (nr, .inl (t 2, 512, .inr (.inl f_58))), (ha1, .inl (t 1, 9, .inl hf1)), (ha2, .inl (t 1, 9, .inl hf2))]) rfl rfl (by decide) (by decide) (fun r_66 u H locs h_67 hP hD hS => ?_)
                      have hP : va_P G vwCl [(sd, .inr (9, [.ref nr])), (nr, .inl (t 2, 512, .inr (.inl f_58))), (ha1, .inl (t 1, 9, .inl hf1)), (ha2, .inl (t 1, 9, .inl hf2)), (hh, .inr (5, [.int hli, .int hro, .int hse, .int hla, .int hpl, .int hex, .long hsi, .ref ha1, .ref ha2, .ref ha3, .ref ha4, .ref ha5, .ref ha6, .ref ha7, .ref ha8, .ref hc])), (ha3, .inl (t 1, 9, .inl hf3))] H := hP
                      have hD : va_D A [(sd, .inr (9, [.ref nr])), (nr, .inl (t 2, 512, .inr (.inl f_58))), (ha1, .inl (t 1, 9, .inl hf1)), (ha2, .inl (t 1, 9, .inl hf2)), (hh, .inr (5, [.int hli, .int hro, .int hse, .int hla, .int hpl, .int hex, .long hsi, .ref ha1, .ref ha2, .ref ha3, .ref ha4, .ref ha5, .ref ha6, .ref ha7, .ref ha8, .ref hc])), (ha3, .inl (t 1, 9, .inl hf3))] := hD
                      refine W.widen (k := 0) (n := 0) (Nat.le_of_ble_eq_true rfl) (Nat.le_of_ble_eq_true rfl) ?_
                      refine bF_eq (tgt := 161) hx hb dX9_leastSet_155 (by decide) r_66.toInt rfl (fun c_68 => ?_) (fun c_68 => ?_)
                      · first | refine incZ hx hb dX9_leastSet_161 hl (k := 1) rfl g_46.toInt rfl (by have := zrng g_46; omega) (by decide) (fun v_69 zv_69 ls hl => ?_) | refine incU hx hb dX9_leastSet_161 hl (k := 1) rfl (by decide) (fun v_69 ls hl => ?_)
                        have hl : lv_has ls 9 [(7, .int v_69), (8, .int v_53), (6, .int v_5), (4, .long r_1), (0, .ref sd), (1, .ref hh), (2, .int a0), (3, .int b0)] := hl
                        refine lv_goto (tgt := 76) hx hb dX9_leastSet_164 (by decide) ?_
                        exact ih_76 (Int.toNat (v_5.toInt - v_69.toInt)) (by omega) v_69 f_58 (by omega) _ _ _ (lv_sub hl [0, 2, 3, 4, 5, 6, 7] rfl) (hP.sub [0, 1, 5, 4, 2, 3] rfl) (hD.sub [0, 1, 5, 4, 2, 3] (by decide) rfl) hS rfl
                      · refine lv_iload hx hb dX9_leastSet_158 (lv_at hl 1 rfl) ?_
                        exact rtI hx hb hr hlocks hS f_58 (trivial) (hP.sub [0, 1, 4, 2, 3, 5] rfl) (hD.sub [0, 1, 4, 2, 3, 5] (by decide) rfl) dX9_leastSet_160
          exact LP_49 (Int.toNat (v_5.toInt - 1)) 1 f_12 (by have : (1 : Int32).toInt = 1 := rfl; omega) _ _ _ (lv_sub hl [0, 1, 2, 3, 4, 5, 6] rfl) (hP.sub [0, 1, 2, 3, 4, 5] rfl) (hD.sub [0, 1, 2, 3, 4, 5] (by decide) rfl) hS rfl
        · refine lv_aload_n hx hb dX9_leastSet_51 rfl (lv_at hl 3 rfl) ?_
          refine gf hx hb hts hown hK hP 0 inT9 rfl rfl 0 (by decide) tw2_105 rfl dX9_leastSet_52 ?_
          refine lv_iconst (v := 1) hx hb dX9_leastSet_55 (by decide) ?_
          refine lv_iload hx hb dX9_leastSet_56 (lv_at hl 0 rfl) ?_
          refine sh1 hx hb dX9_leastSet_58 g_10.toInt rfl (by omega) (fun v_70 zv_70 => ?_)
          refine lv_aload_n hx hb dX9_leastSet_59 rfl (lv_at hl 4 rfl) ?_
          refine lv_iload hx hb dX9_leastSet_60 (lv_at hl 0 rfl) ?_
          refine lv_iload_n hx hb dX9_leastSet_62 rfl (lv_at hl 6 rfl) ?_
          refine goL (rnS C0 (x_spotsWithin l G t hh g_10 b0 hli hro hse hla hpl hex hsi ha1 ha2 ha3 ha4 ha5 ha6 ha7 ha8 hc hf1 hf2 (by omega) (by omega) (by omega) (by omega) h_hf1 h_hf2) lkX9_19 ⟨by decide, by decide⟩ (hP.sub (ws' := [(hh, .inr (5, [.int hli, .int hro, .int hse, .int hla, .int hpl, .int hex, .long hsi, .ref ha1, .ref ha2, .ref ha3, .ref ha4, .ref ha5, .ref ha6, .ref ha7, .ref ha8, .ref hc])), (ha1, .inl (t 1, 9, .inl hf1)), (ha2, .inl (t 1, 9, .inl hf2))]) [3, 4, 5] rfl) (hD.sub (ws' := [(hh, .inr (5, [.int hli, .int hro, .int hse, .int hla, .int hpl, .int hex, .long hsi, .ref ha1, .ref ha2, .ref ha3, .ref ha4, .ref ha5, .ref ha6, .ref ha7, .ref ha8, .ref hc])), (ha1, .inl (t 1, 9, .inl hf1)), (ha2, .inl (t 1, 9, .inl hf2))]) [3, 4, 5] (by decide) rfl) rfl hl.1 (rest := [.int v_70, .ref nr]) rfl (Nat.le_of_ble_eq_true rfl) dX9_leastSet_63 ⟨by decide, by decide⟩) hP hD hS hA [3, 4, 5] [0, 1, 2] (wr := [(sd, .inr (9, [.ref nr])), (nr, .inl (t 2, 512, .inr (.inl f_12))), (ha3, .inl (t 1, 9, .inl hf3))]) rfl rfl (by decide) (by decide) (fun r_71 u H locs h_72 hP hD hS => ?_)
          have hP : va_P G vwCl [(sd, .inr (9, [.ref nr])), (nr, .inl (t 2, 512, .inr (.inl f_12))), (ha3, .inl (t 1, 9, .inl hf3)), (hh, .inr (5, [.int hli, .int hro, .int hse, .int hla, .int hpl, .int hex, .long hsi, .ref ha1, .ref ha2, .ref ha3, .ref ha4, .ref ha5, .ref ha6, .ref ha7, .ref ha8, .ref hc])), (ha1, .inl (t 1, 9, .inl hf1)), (ha2, .inl (t 1, 9, .inl hf2))] H := hP
          have hD : va_D A [(sd, .inr (9, [.ref nr])), (nr, .inl (t 2, 512, .inr (.inl f_12))), (ha3, .inl (t 1, 9, .inl hf3)), (hh, .inr (5, [.int hli, .int hro, .int hse, .int hla, .int hpl, .int hex, .long hsi, .ref ha1, .ref ha2, .ref ha3, .ref ha4, .ref ha5, .ref ha6, .ref ha7, .ref ha8, .ref hc])), (ha1, .inl (t 1, 9, .inl hf1)), (ha2, .inl (t 1, 9, .inl hf2))] := hD
          refine W.widen (k := 0) (n := 0) (Nat.le_of_ble_eq_true rfl) (Nat.le_of_ble_eq_true rfl) ?_
          refine saL hx hb hK hP hD hS 1 rfl v_70.toInt rfl (by omega) dX9_leastSet_66 (fun f_73 ef_73 H locs hP hD hS => ?_)
          have hP : va_P G vwCl [(sd, .inr (9, [.ref nr])), (nr, .inl (t 2, 512, .inr (.inl f_73))), (ha3, .inl (t 1, 9, .inl hf3)), (hh, .inr (5, [.int hli, .int hro, .int hse, .int hla, .int hpl, .int hex, .long hsi, .ref ha1, .ref ha2, .ref ha3, .ref ha4, .ref ha5, .ref ha6, .ref ha7, .ref ha8, .ref hc])), (ha1, .inl (t 1, 9, .inl hf1)), (ha2, .inl (t 1, 9, .inl hf2))] H := hP
          have hD : va_D A [(sd, .inr (9, [.ref nr])), (nr, .inl (t 2, 512, .inr (.inl f_73))), (ha3, .inl (t 1, 9, .inl hf3)), (hh, .inr (5, [.int hli, .int hro, .int hse, .int hla, .int hpl, .int hex, .long hsi, .ref ha1, .ref ha2, .ref ha3, .ref ha4, .ref ha5, .ref ha6, .ref ha7, .ref ha8, .ref hc])), (ha1, .inl (t 1, 9, .inl hf1)), (ha2, .inl (t 1, 9, .inl hf2))] := hD
          first | refine incZ hx hb dX9_leastSet_67 hl (k := 0) rfl g_10.toInt rfl (by have := zrng g_10; omega) (by decide) (fun v_74 zv_74 ls hl => ?_) | refine incU hx hb dX9_leastSet_67 hl (k := 0) rfl (by decide) (fun v_74 ls hl => ?_)
          have hl : lv_has ls 9 [(7, .int v_74), (6, .int v_5), (4, .long r_1), (0, .ref sd), (1, .ref hh), (2, .int a0), (3, .int b0)] := hl
          refine lv_goto (tgt := 35) hx hb dX9_leastSet_70 (by decide) ?_
          exact ih_35 (Int.toNat (hpl.toInt - v_74.toInt)) (by omega) v_74 f_73 (by omega) _ _ _ (lv_sub hl [0, 1, 2, 3, 4, 5, 6] rfl) (hP.sub [0, 1, 2, 3, 4, 5] rfl) (hD.sub [0, 1, 2, 3, 4, 5] (by decide) rfl) hS rfl
  exact LP_13 (Int.toNat (hpl.toInt - 0)) 0 f_6 (by have : (0 : Int32).toInt = 0 := rfl; omega) _ _ _ (lv_sub hl [0, 1, 2, 3, 4, 5, 6] rfl) (hP.sub [0, 1, 2, 3, 4, 5] rfl) (hD.sub [0, 1, 2, 3, 4, 5] (by decide) rfl) hS rfl

set_option maxHeartbeats 4000000 in
set_option maxRecDepth 100000 in
theorem x_leastWorst (l : Launch) (G : va_G) (t : Nat → ClassId) (sd : Nat) (hh : Nat) (a0 : Int32) (nr : Nat) (nrf : Nat → Int64) (hli : Int32) (hro : Int32) (hse : Int32) (hla : Int32) (hpl : Int32) (hex : Int32) (hsi : Int64) (ha1 : Nat) (ha2 : Nat) (ha3 : Nat) (ha4 : Nat) (ha5 : Nat) (ha6 : Nat) (ha7 : Nat) (ha8 : Nat) (hc : Nat) (hf1 : Nat → Int32) (hf2 : Nat → Int32) (hf3 : Nat → Int32) (h_hro : 0 ≤ hro.toInt ∧ hro.toInt ≤ 6) (h_hse : 0 ≤ hse.toInt ∧ hse.toInt ≤ 6) (h_hpl : 0 ≤ hpl.toInt ∧ hpl.toInt ≤ 9) (h_hex : 0 ≤ hex.toInt ∧ hex.toInt ≤ 7) (h_hf1 : Rp (fun _ v => 0 ≤ v ∧ v ≤ 5) 9 hf1) (h_hf2 : Rp (fun _ v => 0 ≤ v ∧ v ≤ 5) 9 hf2) : Ct l G t yX9_leastWorst cX9_leastWorst 4 (some .int) ({ frames := 4, cells := 0, slots := 0, locals := 92 }) [.ref sd, .ref hh, .int a0] [(sd, .inr (9, [.ref nr])), (nr, .inl (t 2, 512, .inr (.inl nrf))), (hh, .inr (5, [.int hli, .int hro, .int hse, .int hla, .int hpl, .int hex, .long hsi, .ref ha1, .ref ha2, .ref ha3, .ref ha4, .ref ha5, .ref ha6, .ref ha7, .ref ha8, .ref hc])), (ha1, .inl (t 1, 9, .inl hf1)), (ha2, .inl (t 1, 9, .inl hf2)), (ha3, .inl (t 1, 9, .inl hf3))] (QI G (fun r (u : (Nat → Int64)) => True) (fun (u : (Nat → Int64)) => [(sd, .inr (9, [.ref nr])), (nr, .inl (t 2, 512, .inr (.inl u))), (hh, .inr (5, [.int hli, .int hro, .int hse, .int hla, .int hpl, .int hex, .long hsi, .ref ha1, .ref ha2, .ref ha3, .ref ha4, .ref ha5, .ref ha6, .ref ha7, .ref ha8, .ref hc])), (ha1, .inl (t 1, 9, .inl hf1)), (ha2, .inl (t 1, 9, .inl hf2)), (ha3, .inl (t 1, 9, .inl hf3))])) := by
  refine ent (by decide) (Nat.le_of_ble_eq_true rfl) ?_
  intro p e s m args below meth c hx hb hr hml hts hown hlocks hin A hA hK hO hP hD hS ls hl
  have hown : s.vm.findClass RX9 = some m.cls := hown
  have hl : lv_has ls 4 [(0, .ref sd), (1, .ref hh), (2, .int a0)] := hl
  have C0 : Cx p s m args c cX9_leastWorst 4 RX9 G t := ⟨hx, hb, hml, hown, hts, hK, hO⟩
  have := zrng a0
  refine lv_iconst (v := 1) hx hb dX9_leastWorst_0 (by decide) ?_
  refine lv_istore_n (lv' := [(3, .int 1), (0, .ref sd), (1, .ref hh), (2, .int a0)]) hx hb dX9_leastWorst_1 rfl hl (by decide) rfl (fun ls hl => ?_)
  have LP_7 : ∀ (n : Nat) (g_4 : Int32) (f_6 : Nat → Int64) (b_5 : 1 ≤ g_4.toInt) (H : Heap) (locs : List Loc) (ls : Array Slot), lv_has ls 4 [(3, .int g_4), (0, .ref sd), (1, .ref hh), (2, .int a0)] → va_P G vwCl [(sd, .inr (9, [.ref nr])), (nr, .inl (t 2, 512, .inr (.inl f_6))), (hh, .inr (5, [.int hli, .int hro, .int hse, .int hla, .int hpl, .int hex, .long hsi, .ref ha1, .ref ha2, .ref ha3, .ref ha4, .ref ha5, .ref ha6, .ref ha7, .ref ha8, .ref hc])), (ha1, .inl (t 1, 9, .inl hf1)), (ha2, .inl (t 1, 9, .inl hf2)), (ha3, .inl (t 1, 9, .inl hf3))] H → va_D A [(sd, .inr (9, [.ref nr])), (nr, .inl (t 2, 512, .inr (.inl f_6))), (hh, .inr (5, [.int hli, .int hro, .int hse, .int hla, .int hpl, .int hex, .long hsi, .ref ha1, .ref ha2, .ref ha3, .ref ha4, .ref ha5, .ref ha6, .ref ha7, .ref ha8, .ref hc])), (ha1, .inl (t 1, 9, .inl hf1)), (ha2, .inl (t 1, 9, .inl hf2)), (ha3, .inl (t 1, 9, .inl hf3))] → va_S A s.heap H locs → Int.toNat (11 - g_4.toInt + 1) = n → W p l e ({ frames := 4, cells := 0, slots := 0, locals := 92 }) s m args below meth c H locs 0 0 (MQ below ((QI G (fun r (u : (Nat → Int64)) => True) (fun (u : (Nat → Int64)) => [(sd, .inr (9, [.ref nr])), (nr, .inl (t 2, 512, .inr (.inl u))), (hh, .inr (5, [.int hli, .int hro, .int hse, .int hla, .int hpl, .int hex, .long hsi, .ref ha1, .ref ha2, .ref ha3, .ref ha4, .ref ha5, .ref ha6, .ref ha7, .ref ha8, .ref hc])), (ha1, .inl (t 1, 9, .inl hf1)), (ha2, .inl (t 1, 9, .inl hf2)), (ha3, .inl (t 1, 9, .inl hf3))])) A) args s 0 0 A) (F0 m 2 ls []) := by
    intro n
    induction n using Nat.strongRecOn with
    | ind n ih_2 =>
      intro g_4 f_6 b_5 H locs ls hl hP hD hS hmu
      have := zrng g_4
      refine lv_iload_n hx hb dX9_leastWorst_2 rfl (lv_at hl 0 rfl) ?_
      refine lv_bipush (v := 11) hx hb dX9_leastWorst_3 (by decide) ?_
      refine bI_gt (tgt := 27) hx hb dX9_leastWorst_5 (by decide) g_4.toInt 11 rfl rfl (fun c_8 => ?_) (fun c_8 => ?_)
      · refine lv_iconst (v := (-1)) hx hb dX9_leastWorst_27 (by decide) ?_
        exact rtI hx hb hr hlocks hS f_6 (trivial) (hP.sub [0, 1, 2, 3, 4, 5] rfl) (hD.sub [0, 1, 2, 3, 4, 5] (by decide) rfl) dX9_leastWorst_28
      · refine lv_aload_n hx hb dX9_leastWorst_8 rfl (lv_at hl 1 rfl) ?_
        refine lv_aload_n hx hb dX9_leastWorst_9 rfl (lv_at hl 2 rfl) ?_
        refine lv_iload_n hx hb dX9_leastWorst_10 rfl (lv_at hl 3 rfl) ?_
        refine lv_iload_n hx hb dX9_leastWorst_11 rfl (lv_at hl 0 rfl) ?_
        refine goI (rnV C0 (x_leastSet l G t sd hh a0 g_4 nr f_6 hli hro hse hla hpl hex hsi ha1 ha2 ha3 ha4 ha5 ha6 ha7 ha8 hc hf1 hf2 hf3 (by omega) (by omega) (by omega) (by omega) h_hf1 h_hf2) lkX9_15 ⟨by decide, by decide⟩ (hP.sub (ws' := [(sd, .inr (9, [.ref nr])), (nr, .inl (t 2, 512, .inr (.inl f_6))), (hh, .inr (5, [.int hli, .int hro, .int hse, .int hla, .int hpl, .int hex, .long hsi, .ref ha1, .ref ha2, .ref ha3, .ref ha4, .ref ha5, .ref ha6, .ref ha7, .ref ha8, .ref hc])), (ha1, .inl (t 1, 9, .inl hf1)), (ha2, .inl (t 1, 9, .inl hf2)), (ha3, .inl (t 1, 9, .inl hf3))]) [0, 1, 2, 3, 4, 5] rfl) (hD.sub (ws' := [(sd, .inr (9, [.ref nr])), (nr, .inl (t 2, 512, .inr (.inl f_6))), (hh, .inr (5, [.int hli, .int hro, .int hse, .int hla, .int hpl, .int hex, .long hsi, .ref ha1, .ref ha2, .ref ha3, .ref ha4, .ref ha5, .ref ha6, .ref ha7, .ref ha8, .ref hc])), (ha1, .inl (t 1, 9, .inl hf1)), (ha2, .inl (t 1, 9, .inl hf2)), (ha3, .inl (t 1, 9, .inl hf3))]) [0, 1, 2, 3, 4, 5] (by decide) rfl) 0 9 rfl rfl rfl rfl hl.1 (rest := []) rfl (Nat.le_of_ble_eq_true rfl) dX9_leastWorst_12 ⟨by decide, by decide⟩) hP hD hS hA [0, 1, 2, 3, 4, 5] [] (wr := []) rfl rfl (by decide) (by decide) (fun r_10 u H locs h_11 hP hD hS => ?_)
        obtain ⟨u_9, eu_9⟩ : ∃ z, z = u := ⟨_, rfl⟩
        subst eu_9
        have hP : va_P G vwCl [(sd, .inr (9, [.ref nr])), (nr, .inl (t 2, 512, .inr (.inl u_9))), (hh, .inr (5, [.int hli, .int hro, .int hse, .int hla, .int hpl, .int hex, .long hsi, .ref ha1, .ref ha2, .ref ha3, .ref ha4, .ref ha5, .ref ha6, .ref ha7, .ref ha8, .ref hc])), (ha1, .inl (t 1, 9, .inl hf1)), (ha2, .inl (t 1, 9, .inl hf2)), (ha3, .inl (t 1, 9, .inl hf3))] H := hP
        have hD : va_D A [(sd, .inr (9, [.ref nr])), (nr, .inl (t 2, 512, .inr (.inl u_9))), (hh, .inr (5, [.int hli, .int hro, .int hse, .int hla, .int hpl, .int hex, .long hsi, .ref ha1, .ref ha2, .ref ha3, .ref ha4, .ref ha5, .ref ha6, .ref ha7, .ref ha8, .ref hc])), (ha1, .inl (t 1, 9, .inl hf1)), (ha2, .inl (t 1, 9, .inl hf2)), (ha3, .inl (t 1, 9, .inl hf3))] := hD
        refine W.widen (k := 0) (n := 0) (Nat.le_of_ble_eq_true rfl) (Nat.le_of_ble_eq_true rfl) ?_
        refine lv_iconst (v := (-1)) hx hb dX9_leastWorst_15 (by decide) ?_
        refine bI_eq (tgt := 21) hx hb dX9_leastWorst_16 (by decide) r_10.toInt (-1) rfl rfl (fun c_12 => ?_) (fun c_12 => ?_)
        · first | refine incZ hx hb dX9_leastWorst_21 hl (k := 0) rfl g_4.toInt rfl (by have := zrng g_4; omega) (by decide) (fun v_13 zv_13 ls hl => ?_) | refine incU hx hb dX9_leastWorst_21 hl (k := 0) rfl (by decide) (fun v_13 ls hl => ?_)
          have hl : lv_has ls 4 [(3, .int v_13), (0, .ref sd), (1, .ref hh), (2, .int a0)] := hl
          refine lv_goto (tgt := 2) hx hb dX9_leastWorst_24 (by decide) ?_
          exact ih_2 (Int.toNat (11 - v_13.toInt + 1)) (by omega) v_13 u_9 (by omega) _ _ _ (lv_sub hl [0, 1, 2, 3] rfl) (hP.sub [0, 1, 2, 3, 4, 5] rfl) (hD.sub [0, 1, 2, 3, 4, 5] (by decide) rfl) hS rfl
        · refine lv_iload_n hx hb dX9_leastWorst_19 rfl (lv_at hl 0 rfl) ?_
          exact rtI hx hb hr hlocks hS u_9 (trivial) (hP.sub [0, 1, 2, 3, 4, 5] rfl) (hD.sub [0, 1, 2, 3, 4, 5] (by decide) rfl) dX9_leastWorst_20
  exact LP_7 (Int.toNat (11 - 1 + 1)) 1 nrf (by have : (1 : Int32).toInt = 1 := rfl; omega) _ _ _ (lv_sub hl [0, 1, 2, 3] rfl) (hP.sub [0, 1, 2, 3, 4, 5] rfl) (hD.sub [0, 1, 2, 3, 4, 5] (by decide) rfl) hS rfl

set_option maxHeartbeats 4000000 in
set_option maxRecDepth 100000 in
theorem x_cgoesOut (l : Launch) (G : va_G) (t : Nat → ClassId) (cr : Nat) (a0 : Int32) (b0 : Int32) (c0 : Int32) (cm : Nat) (cst : Int32) (ac : Nat) (cmf : Nat → Int32) (hh : Nat) (p1 : Nat) (p2 : Nat) (p3 : Nat) (p4 : Nat) (q1 : Nat → Int32) (hli : Int32) (hro : Int32) (hse : Int32) (hla : Int32) (hpl : Int32) (hex : Int32) (hsi : Int64) (ha1 : Nat) (ha2 : Nat) (ha3 : Nat) (ha4 : Nat) (ha5 : Nat) (ha6 : Nat) (ha7 : Nat) (ha8 : Nat) (hc : Nat) (hf1 : Nat → Int32) (hf2 : Nat → Int32) (hf3 : Nat → Int32) (h_hro : 0 ≤ hro.toInt ∧ hro.toInt ≤ 6) (h_hse : 0 ≤ hse.toInt ∧ hse.toInt ≤ 6) (h_hpl : 0 ≤ hpl.toInt ∧ hpl.toInt ≤ 9) (h_hex : 0 ≤ hex.toInt ∧ hex.toInt ≤ 7) (h_hf1 : Rp (fun _ v => 0 ≤ v ∧ v ≤ 5) 9 hf1) (h_hf2 : Rp (fun _ v => 0 ≤ v ∧ v ≤ 5) 9 hf2) : Ct l G t yX3_goesOut cX3_goesOut 5 none ({ frames := 2, cells := 0, slots := 0, locals := 45 }) [.ref cr, .int a0, .int b0, .int c0] [(cr, .inr (3, [.ref cm, .int cst, .ref ac])), (cm, .inl (t 1, 5, .inl cmf)), (ac, .inr (0, [.ref hh, .ref p1, .ref p2, .ref p3, .ref p4])), (p1, .inl (t 1, 420, .inl q1)), (hh, .inr (5, [.int hli, .int hro, .int hse, .int hla, .int hpl, .int hex, .long hsi, .ref ha1, .ref ha2, .ref ha3, .ref ha4, .ref ha5, .ref ha6, .ref ha7, .ref ha8, .ref hc])), (ha1, .inl (t 1, 9, .inl hf1)), (ha2, .inl (t 1, 9, .inl hf2)), (ha3, .inl (t 1, 9, .inl hf3))] (QV G (fun (u : (Int32) × (Nat → Int32)) => True) (fun (u : (Int32) × (Nat → Int32)) => [(cr, .inr (3, [.ref cm, .int u.1, .ref ac])), (cm, .inl (t 1, 5, .inl u.2)), (ac, .inr (0, [.ref hh, .ref p1, .ref p2, .ref p3, .ref p4])), (p1, .inl (t 1, 420, .inl q1)), (hh, .inr (5, [.int hli, .int hro, .int hse, .int hla, .int hpl, .int hex, .long hsi, .ref ha1, .ref ha2, .ref ha3, .ref ha4, .ref ha5, .ref ha6, .ref ha7, .ref ha8, .ref hc])), (ha1, .inl (t 1, 9, .inl hf1)), (ha2, .inl (t 1, 9, .inl hf2)), (ha3, .inl (t 1, 9, .inl hf3))])) := by
  refine ent (by decide) (Nat.le_of_ble_eq_true rfl) ?_
  intro p e s m args below meth c hx hb hr hml hts hown hlocks hin A hA hK hO hP hD hS ls hl
  have hown : s.vm.findClass RX3 = some m.cls := hown
  have hl : lv_has ls 5 [(0, .ref cr), (1, .int a0), (2, .int b0), (3, .int c0)] := hl
  have C0 : Cx p s m args c cX3_goesOut 5 RX3 G t := ⟨hx, hb, hml, hown, hts, hK, hO⟩
  have := zrng a0
  have := zrng b0
  have := zrng c0
  refine lv_aload_n hx hb dX3_goesOut_0 rfl (lv_at hl 0 rfl) ?_
  refine gf hx hb hts hown hK hP 0 inT3 rfl rfl 2 (by decide) tw2_119 rfl dX3_goesOut_1 ?_
  refine lv_iload_n hx hb dX3_goesOut_4 rfl (lv_at hl 2 rfl) ?_
  refine lv_iload_n hx hb dX3_goesOut_5 rfl (lv_at hl 3 rfl) ?_
  refine goI (rnV C0 (x_behindOf l G t ac b0 c0 hh p1 p2 p3 p4 q1 hli hro hse hla hpl hex hsi ha1 ha2 ha3 ha4 ha5 ha6 ha7 ha8 hc hf3 (by omega) (by omega) (by omega) (by omega)) lkX3_50 ⟨by decide, by decide⟩ (hP.sub (ws' := [(ac, .inr (0, [.ref hh, .ref p1, .ref p2, .ref p3, .ref p4])), (p1, .inl (t 1, 420, .inl q1)), (hh, .inr (5, [.int hli, .int hro, .int hse, .int hla, .int hpl, .int hex, .long hsi, .ref ha1, .ref ha2, .ref ha3, .ref ha4, .ref ha5, .ref ha6, .ref ha7, .ref ha8, .ref hc])), (ha3, .inl (t 1, 9, .inl hf3))]) [2, 3, 4, 7] rfl) (hD.sub (ws' := [(ac, .inr (0, [.ref hh, .ref p1, .ref p2, .ref p3, .ref p4])), (p1, .inl (t 1, 420, .inl q1)), (hh, .inr (5, [.int hli, .int hro, .int hse, .int hla, .int hpl, .int hex, .long hsi, .ref ha1, .ref ha2, .ref ha3, .ref ha4, .ref ha5, .ref ha6, .ref ha7, .ref ha8, .ref hc])), (ha3, .inl (t 1, 9, .inl hf3))]) [2, 3, 4, 7] (by decide) rfl) 0 0 rfl rfl rfl rfl hl.1 (rest := []) rfl (Nat.le_of_ble_eq_true rfl) dX3_goesOut_6 ⟨by decide, by decide⟩) hP hD hS hA [2, 3, 4, 7] [0, 1, 5, 6] (wr := [(cr, .inr (3, [.ref cm, .int cst, .ref ac])), (cm, .inl (t 1, 5, .inl cmf)), (ha1, .inl (t 1, 9, .inl hf1)), (ha2, .inl (t 1, 9, .inl hf2))]) rfl rfl (by decide) (by decide) (fun r_1 u H locs h_2 hP hD hS => ?_)
  have hP : va_P G vwCl [(cr, .inr (3, [.ref cm, .int cst, .ref ac])), (cm, .inl (t 1, 5, .inl cmf)), (ha1, .inl (t 1, 9, .inl hf1)), (ha2, .inl (t 1, 9, .inl hf2)), (ac, .inr (0, [.ref hh, .ref p1, .ref p2, .ref p3, .ref p4])), (p1, .inl (t 1, 420, .inl q1)), (hh, .inr (5, [.int hli, .int hro, .int hse, .int hla, .int hpl, .int hex, .long hsi, .ref ha1, .ref ha2, .ref ha3, .ref ha4, .ref ha5, .ref ha6, .ref ha7, .ref ha8, .ref hc])), (ha3, .inl (t 1, 9, .inl hf3))] H := hP
  have hD : va_D A [(cr, .inr (3, [.ref cm, .int cst, .ref ac])), (cm, .inl (t 1, 5, .inl cmf)), (ha1, .inl (t 1, 9, .inl hf1)), (ha2, .inl (t 1, 9, .inl hf2)), (ac, .inr (0, [.ref hh, .ref p1, .ref p2, .ref p3, .ref p4])), (p1, .inl (t 1, 420, .inl q1)), (hh, .inr (5, [.int hli, .int hro, .int hse, .int hla, .int hpl, .int hex, .long hsi, .ref ha1, .ref ha2, .ref ha3, .ref ha4, .ref ha5, .ref ha6, .ref ha7, .ref ha8, .ref hc])), (ha3, .inl (t 1, 9, .inl hf3))] := hD
  refine W.widen (k := 0) (n := 0) (Nat.le_of_ble_eq_true rfl) (Nat.le_of_ble_eq_true rfl) ?_
  refine lv_istore (lv' := [(4, .int r_1), (0, .ref cr), (1, .int a0), (2, .int b0), (3, .int c0)]) hx hb dX3_goesOut_9 hl (by decide) rfl (fun ls hl => ?_)
  refine lv_iload hx hb dX3_goesOut_11 (lv_at hl 0 rfl) ?_
  refine goI (rnSN C0 (x_isBehind l G t r_1) lkX3_54 ⟨by decide, by decide⟩ (hP.sub (ws' := []) [] rfl) (hD.sub (ws' := []) [] (by decide) rfl) rfl hl.1 (rest := []) rfl (Nat.le_of_ble_eq_true rfl) dX3_goesOut_13 ⟨by decide, by decide⟩) hP hD hS hA [] [0, 1, 2, 3, 4, 5, 6, 7] (wr := [(cr, .inr (3, [.ref cm, .int cst, .ref ac])), (cm, .inl (t 1, 5, .inl cmf)), (ha1, .inl (t 1, 9, .inl hf1)), (ha2, .inl (t 1, 9, .inl hf2)), (ac, .inr (0, [.ref hh, .ref p1, .ref p2, .ref p3, .ref p4])), (p1, .inl (t 1, 420, .inl q1)), (hh, .inr (5, [.int hli, .int hro, .int hse, .int hla, .int hpl, .int hex, .long hsi, .ref ha1, .ref ha2, .ref ha3, .ref ha4, .ref ha5, .ref ha6, .ref ha7, .ref ha8, .ref hc])), (ha3, .inl (t 1, 9, .inl hf3))]) rfl rfl (by decide) (by decide) (fun r_3 u H locs h_4 hP hD hS => ?_)
  have h_4 : (r_3.toInt = 0 ∨ (r_3.toInt = 1 ∧ 0 ≤ r_1.toInt ∧ r_1.toInt ≤ 4)) := h_4
  have b_5 := h_4
  have hP : va_P G vwCl [(cr, .inr (3, [.ref cm, .int cst, .ref ac])), (cm, .inl (t 1, 5, .inl cmf)), (ha1, .inl (t 1, 9, .inl hf1)), (ha2, .inl (t 1, 9, .inl hf2)), (ac, .inr (0, [.ref hh, .ref p1, .ref p2, .ref p3, .ref p4])), (p1, .inl (t 1, 420, .inl q1)), (hh, .inr (5, [.int hli, .int hro, .int hse, .int hla, .int hpl, .int hex, .long hsi, .ref ha1, .ref ha2, .ref ha3, .ref ha4, .ref ha5, .ref ha6, .ref ha7, .ref ha8, .ref hc])), (ha3, .inl (t 1, 9, .inl hf3))] H := hP
  have hD : va_D A [(cr, .inr (3, [.ref cm, .int cst, .ref ac])), (cm, .inl (t 1, 5, .inl cmf)), (ha1, .inl (t 1, 9, .inl hf1)), (ha2, .inl (t 1, 9, .inl hf2)), (ac, .inr (0, [.ref hh, .ref p1, .ref p2, .ref p3, .ref p4])), (p1, .inl (t 1, 420, .inl q1)), (hh, .inr (5, [.int hli, .int hro, .int hse, .int hla, .int hpl, .int hex, .long hsi, .ref ha1, .ref ha2, .ref ha3, .ref ha4, .ref ha5, .ref ha6, .ref ha7, .ref ha8, .ref hc])), (ha3, .inl (t 1, 9, .inl hf3))] := hD
  refine W.widen (k := 0) (n := 0) (Nat.le_of_ble_eq_true rfl) (Nat.le_of_ble_eq_true rfl) ?_
  refine bF_eq (tgt := 30) hx hb dX3_goesOut_16 (by decide) r_3.toInt rfl (fun c_6 => ?_) (fun c_6 => ?_)
  · refine lv_aload_n hx hb dX3_goesOut_30 rfl (lv_at hl 1 rfl) ?_
    refine lv_dup hx hb dX3_goesOut_31 rfl ?_
    refine gf hx hb hts hown hK hP 0 inT3 rfl rfl 1 (by decide) tw2_117 rfl dX3_goesOut_32 ?_
    refine lv_aload_n hx hb dX3_goesOut_35 rfl (lv_at hl 1 rfl) ?_
    refine gf hx hb hts hown hK hP 0 inT3 rfl rfl 2 (by decide) tw2_119 rfl dX3_goesOut_36 ?_
    refine gf hx hb hts hown hK hP 4 inT0 rfl rfl 0 (by decide) tw2_3 rfl dX3_goesOut_39 ?_
    refine lv_iload_n hx hb dX3_goesOut_42 rfl (lv_at hl 2 rfl) ?_
    refine lv_aload_n hx hb dX3_goesOut_43 rfl (lv_at hl 1 rfl) ?_
    refine gf hx hb hts hown hK hP 0 inT3 rfl rfl 2 (by decide) tw2_119 rfl dX3_goesOut_44 ?_
    refine lv_iload_n hx hb dX3_goesOut_47 rfl (lv_at hl 3 rfl) ?_
    refine lv_iload_n hx hb dX3_goesOut_48 rfl (lv_at hl 4 rfl) ?_
    refine goI (rnV C0 (x_placeOf l G t ac b0 c0 hh p1 p2 p3 p4 q1) lkX3_57 ⟨by decide, by decide⟩ (hP.sub (ws' := [(ac, .inr (0, [.ref hh, .ref p1, .ref p2, .ref p3, .ref p4])), (p1, .inl (t 1, 420, .inl q1))]) [4, 5] rfl) (hD.sub (ws' := [(ac, .inr (0, [.ref hh, .ref p1, .ref p2, .ref p3, .ref p4])), (p1, .inl (t 1, 420, .inl q1))]) [4, 5] (by decide) rfl) 0 0 rfl rfl rfl rfl hl.1 (rest := [.int a0, .ref hh, .int cst, .ref cr]) rfl (Nat.le_of_ble_eq_true rfl) dX3_goesOut_49 ⟨by decide, by decide⟩) hP hD hS hA [4, 5] [0, 1, 2, 3, 6, 7] (wr := [(cr, .inr (3, [.ref cm, .int cst, .ref ac])), (cm, .inl (t 1, 5, .inl cmf)), (ha1, .inl (t 1, 9, .inl hf1)), (ha2, .inl (t 1, 9, .inl hf2)), (hh, .inr (5, [.int hli, .int hro, .int hse, .int hla, .int hpl, .int hex, .long hsi, .ref ha1, .ref ha2, .ref ha3, .ref ha4, .ref ha5, .ref ha6, .ref ha7, .ref ha8, .ref hc])), (ha3, .inl (t 1, 9, .inl hf3))]) rfl rfl (by decide) (by decide) (fun r_7 u H locs h_8 hP hD hS => ?_)
    have hP : va_P G vwCl [(cr, .inr (3, [.ref cm, .int cst, .ref ac])), (cm, .inl (t 1, 5, .inl cmf)), (ha1, .inl (t 1, 9, .inl hf1)), (ha2, .inl (t 1, 9, .inl hf2)), (hh, .inr (5, [.int hli, .int hro, .int hse, .int hla, .int hpl, .int hex, .long hsi, .ref ha1, .ref ha2, .ref ha3, .ref ha4, .ref ha5, .ref ha6, .ref ha7, .ref ha8, .ref hc])), (ha3, .inl (t 1, 9, .inl hf3)), (ac, .inr (0, [.ref hh, .ref p1, .ref p2, .ref p3, .ref p4])), (p1, .inl (t 1, 420, .inl q1))] H := hP
    have hD : va_D A [(cr, .inr (3, [.ref cm, .int cst, .ref ac])), (cm, .inl (t 1, 5, .inl cmf)), (ha1, .inl (t 1, 9, .inl hf1)), (ha2, .inl (t 1, 9, .inl hf2)), (hh, .inr (5, [.int hli, .int hro, .int hse, .int hla, .int hpl, .int hex, .long hsi, .ref ha1, .ref ha2, .ref ha3, .ref ha4, .ref ha5, .ref ha6, .ref ha7, .ref ha8, .ref hc])), (ha3, .inl (t 1, 9, .inl hf3)), (ac, .inr (0, [.ref hh, .ref p1, .ref p2, .ref p3, .ref p4])), (p1, .inl (t 1, 420, .inl q1))] := hD
    refine W.widen (k := 0) (n := 0) (Nat.le_of_ble_eq_true rfl) (Nat.le_of_ble_eq_true rfl) ?_
    refine goI (rnV C0 (x_stepsBy l G t hh a0 r_7 hli hro hse hla hpl hex hsi ha1 ha2 ha3 ha4 ha5 ha6 ha7 ha8 hc hf1 hf2 (by omega) (by omega) (by omega) (by omega) h_hf1 h_hf2) lkX3_60 ⟨by decide, by decide⟩ (hP.sub (ws' := [(hh, .inr (5, [.int hli, .int hro, .int hse, .int hla, .int hpl, .int hex, .long hsi, .ref ha1, .ref ha2, .ref ha3, .ref ha4, .ref ha5, .ref ha6, .ref ha7, .ref ha8, .ref hc])), (ha1, .inl (t 1, 9, .inl hf1)), (ha2, .inl (t 1, 9, .inl hf2))]) [4, 2, 3] rfl) (hD.sub (ws' := [(hh, .inr (5, [.int hli, .int hro, .int hse, .int hla, .int hpl, .int hex, .long hsi, .ref ha1, .ref ha2, .ref ha3, .ref ha4, .ref ha5, .ref ha6, .ref ha7, .ref ha8, .ref hc])), (ha1, .inl (t 1, 9, .inl hf1)), (ha2, .inl (t 1, 9, .inl hf2))]) [4, 2, 3] (by decide) rfl) 0 5 rfl rfl rfl rfl hl.1 (rest := [.int cst, .ref cr]) rfl (Nat.le_of_ble_eq_true rfl) dX3_goesOut_52 ⟨by decide, by decide⟩) hP hD hS hA [4, 2, 3] [0, 1, 5, 6, 7] (wr := [(cr, .inr (3, [.ref cm, .int cst, .ref ac])), (cm, .inl (t 1, 5, .inl cmf)), (ha3, .inl (t 1, 9, .inl hf3)), (ac, .inr (0, [.ref hh, .ref p1, .ref p2, .ref p3, .ref p4])), (p1, .inl (t 1, 420, .inl q1))]) rfl rfl (by decide) (by decide) (fun r_9 u H locs h_10 hP hD hS => ?_)
    have hP : va_P G vwCl [(cr, .inr (3, [.ref cm, .int cst, .ref ac])), (cm, .inl (t 1, 5, .inl cmf)), (ha3, .inl (t 1, 9, .inl hf3)), (ac, .inr (0, [.ref hh, .ref p1, .ref p2, .ref p3, .ref p4])), (p1, .inl (t 1, 420, .inl q1)), (hh, .inr (5, [.int hli, .int hro, .int hse, .int hla, .int hpl, .int hex, .long hsi, .ref ha1, .ref ha2, .ref ha3, .ref ha4, .ref ha5, .ref ha6, .ref ha7, .ref ha8, .ref hc])), (ha1, .inl (t 1, 9, .inl hf1)), (ha2, .inl (t 1, 9, .inl hf2))] H := hP
    have hD : va_D A [(cr, .inr (3, [.ref cm, .int cst, .ref ac])), (cm, .inl (t 1, 5, .inl cmf)), (ha3, .inl (t 1, 9, .inl hf3)), (ac, .inr (0, [.ref hh, .ref p1, .ref p2, .ref p3, .ref p4])), (p1, .inl (t 1, 420, .inl q1)), (hh, .inr (5, [.int hli, .int hro, .int hse, .int hla, .int hpl, .int hex, .long hsi, .ref ha1, .ref ha2, .ref ha3, .ref ha4, .ref ha5, .ref ha6, .ref ha7, .ref ha8, .ref hc])), (ha1, .inl (t 1, 9, .inl hf1)), (ha2, .inl (t 1, 9, .inl hf2))] := hD
    refine W.widen (k := 0) (n := 0) (Nat.le_of_ble_eq_true rfl) (Nat.le_of_ble_eq_true rfl) ?_
    first | refine adZ hx hb dX3_goesOut_55 cst.toInt r_9.toInt rfl rfl (by have := zrng cst; have := zrng r_9; omega) (fun v_11 zv_11 => ?_) | refine lv_iadd hx hb dX3_goesOut_55 (gnI (fun v_11 => ?_))
    refine pf hx hb hts hown hK hP hD hS 0 inT3 tyX3_ok nmX3 rfl rfl 1 (by decide) tw2_117 rfl rfl rfl (Nat.le_of_ble_eq_true rfl) dX3_goesOut_56 (ws' := [(cr, .inr (3, [.ref cm, .int v_11, .ref ac])), (cm, .inl (t 1, 5, .inl cmf)), (ha3, .inl (t 1, 9, .inl hf3)), (ac, .inr (0, [.ref hh, .ref p1, .ref p2, .ref p3, .ref p4])), (p1, .inl (t 1, 420, .inl q1)), (hh, .inr (5, [.int hli, .int hro, .int hse, .int hla, .int hpl, .int hex, .long hsi, .ref ha1, .ref ha2, .ref ha3, .ref ha4, .ref ha5, .ref ha6, .ref ha7, .ref ha8, .ref hc])), (ha1, .inl (t 1, 9, .inl hf1)), (ha2, .inl (t 1, 9, .inl hf2))]) rfl (fun H locs hP hD hS => ?_)
    exact rtV hx hb hr hlocks hS (v_11, cmf) (trivial) (hP.sub [0, 1, 3, 4, 5, 6, 7, 2] rfl) (hD.sub [0, 1, 3, 4, 5, 6, 7, 2] (by decide) rfl) dX3_goesOut_59
  · refine lv_aload_n hx hb dX3_goesOut_19 rfl (lv_at hl 1 rfl) ?_
    refine gf hx hb hts hown hK hP 0 inT3 rfl rfl 0 (by decide) tw2_115 rfl dX3_goesOut_20 ?_
    refine lv_iload hx hb dX3_goesOut_23 (lv_at hl 0 rfl) ?_
    refine lv_dup2_11 hx hb dX3_goesOut_25 rfl rfl ?_
    refine laI hx hb hK hP 1 rfl r_1.toInt rfl (by omega) dX3_goesOut_26 (fun v_12 ev_12 => ?_)
    refine lv_iconst (v := 1) hx hb dX3_goesOut_27 (by decide) ?_
    first | refine adZ hx hb dX3_goesOut_28 v_12.toInt 1 rfl rfl (by have := zrng v_12; omega) (fun v_13 zv_13 => ?_) | refine lv_iadd hx hb dX3_goesOut_28 (gnI (fun v_13 => ?_))
    refine saI hx hb hK hP hD hS 1 rfl r_1.toInt rfl (by omega) dX3_goesOut_29 (fun f_14 ef_14 H locs hP hD hS => ?_)
    have hP : va_P G vwCl [(cr, .inr (3, [.ref cm, .int cst, .ref ac])), (cm, .inl (t 1, 5, .inl f_14)), (ha1, .inl (t 1, 9, .inl hf1)), (ha2, .inl (t 1, 9, .inl hf2)), (ac, .inr (0, [.ref hh, .ref p1, .ref p2, .ref p3, .ref p4])), (p1, .inl (t 1, 420, .inl q1)), (hh, .inr (5, [.int hli, .int hro, .int hse, .int hla, .int hpl, .int hex, .long hsi, .ref ha1, .ref ha2, .ref ha3, .ref ha4, .ref ha5, .ref ha6, .ref ha7, .ref ha8, .ref hc])), (ha3, .inl (t 1, 9, .inl hf3))] H := hP
    have hD : va_D A [(cr, .inr (3, [.ref cm, .int cst, .ref ac])), (cm, .inl (t 1, 5, .inl f_14)), (ha1, .inl (t 1, 9, .inl hf1)), (ha2, .inl (t 1, 9, .inl hf2)), (ac, .inr (0, [.ref hh, .ref p1, .ref p2, .ref p3, .ref p4])), (p1, .inl (t 1, 420, .inl q1)), (hh, .inr (5, [.int hli, .int hro, .int hse, .int hla, .int hpl, .int hex, .long hsi, .ref ha1, .ref ha2, .ref ha3, .ref ha4, .ref ha5, .ref ha6, .ref ha7, .ref ha8, .ref hc])), (ha3, .inl (t 1, 9, .inl hf3))] := hD
    refine lv_aload_n hx hb dX3_goesOut_30 rfl (lv_at hl 1 rfl) ?_
    refine lv_dup hx hb dX3_goesOut_31 rfl ?_
    refine gf hx hb hts hown hK hP 0 inT3 rfl rfl 1 (by decide) tw2_117 rfl dX3_goesOut_32 ?_
    refine lv_aload_n hx hb dX3_goesOut_35 rfl (lv_at hl 1 rfl) ?_
    refine gf hx hb hts hown hK hP 0 inT3 rfl rfl 2 (by decide) tw2_119 rfl dX3_goesOut_36 ?_
    refine gf hx hb hts hown hK hP 4 inT0 rfl rfl 0 (by decide) tw2_3 rfl dX3_goesOut_39 ?_
    refine lv_iload_n hx hb dX3_goesOut_42 rfl (lv_at hl 2 rfl) ?_
    refine lv_aload_n hx hb dX3_goesOut_43 rfl (lv_at hl 1 rfl) ?_
    refine gf hx hb hts hown hK hP 0 inT3 rfl rfl 2 (by decide) tw2_119 rfl dX3_goesOut_44 ?_
    refine lv_iload_n hx hb dX3_goesOut_47 rfl (lv_at hl 3 rfl) ?_
    refine lv_iload_n hx hb dX3_goesOut_48 rfl (lv_at hl 4 rfl) ?_
    refine goI (rnV C0 (x_placeOf l G t ac b0 c0 hh p1 p2 p3 p4 q1) lkX3_57 ⟨by decide, by decide⟩ (hP.sub (ws' := [(ac, .inr (0, [.ref hh, .ref p1, .ref p2, .ref p3, .ref p4])), (p1, .inl (t 1, 420, .inl q1))]) [4, 5] rfl) (hD.sub (ws' := [(ac, .inr (0, [.ref hh, .ref p1, .ref p2, .ref p3, .ref p4])), (p1, .inl (t 1, 420, .inl q1))]) [4, 5] (by decide) rfl) 0 0 rfl rfl rfl rfl hl.1 (rest := [.int a0, .ref hh, .int cst, .ref cr]) rfl (Nat.le_of_ble_eq_true rfl) dX3_goesOut_49 ⟨by decide, by decide⟩) hP hD hS hA [4, 5] [0, 1, 2, 3, 6, 7] (wr := [(cr, .inr (3, [.ref cm, .int cst, .ref ac])), (cm, .inl (t 1, 5, .inl f_14)), (ha1, .inl (t 1, 9, .inl hf1)), (ha2, .inl (t 1, 9, .inl hf2)), (hh, .inr (5, [.int hli, .int hro, .int hse, .int hla, .int hpl, .int hex, .long hsi, .ref ha1, .ref ha2, .ref ha3, .ref ha4, .ref ha5, .ref ha6, .ref ha7, .ref ha8, .ref hc])), (ha3, .inl (t 1, 9, .inl hf3))]) rfl rfl (by decide) (by decide) (fun r_15 u H locs h_16 hP hD hS => ?_)
    have hP : va_P G vwCl [(cr, .inr (3, [.ref cm, .int cst, .ref ac])), (cm, .inl (t 1, 5, .inl f_14)), (ha1, .inl (t 1, 9, .inl hf1)), (ha2, .inl (t 1, 9, .inl hf2)), (hh, .inr (5, [.int hli, .int hro, .int hse, .int hla, .int hpl, .int hex, .long hsi, .ref ha1, .ref ha2, .ref ha3, .ref ha4, .ref ha5, .ref ha6, .ref ha7, .ref ha8, .ref hc])), (ha3, .inl (t 1, 9, .inl hf3)), (ac, .inr (0, [.ref hh, .ref p1, .ref p2, .ref p3, .ref p4])), (p1, .inl (t 1, 420, .inl q1))] H := hP
    have hD : va_D A [(cr, .inr (3, [.ref cm, .int cst, .ref ac])), (cm, .inl (t 1, 5, .inl f_14)), (ha1, .inl (t 1, 9, .inl hf1)), (ha2, .inl (t 1, 9, .inl hf2)), (hh, .inr (5, [.int hli, .int hro, .int hse, .int hla, .int hpl, .int hex, .long hsi, .ref ha1, .ref ha2, .ref ha3, .ref ha4, .ref ha5, .ref ha6, .ref ha7, .ref ha8, .ref hc])), (ha3, .inl (t 1, 9, .inl hf3)), (ac, .inr (0, [.ref hh, .ref p1, .ref p2, .ref p3, .ref p4])), (p1, .inl (t 1, 420, .inl q1))] := hD
    refine W.widen (k := 0) (n := 0) (Nat.le_of_ble_eq_true rfl) (Nat.le_of_ble_eq_true rfl) ?_
    refine goI (rnV C0 (x_stepsBy l G t hh a0 r_15 hli hro hse hla hpl hex hsi ha1 ha2 ha3 ha4 ha5 ha6 ha7 ha8 hc hf1 hf2 (by omega) (by omega) (by omega) (by omega) h_hf1 h_hf2) lkX3_60 ⟨by decide, by decide⟩ (hP.sub (ws' := [(hh, .inr (5, [.int hli, .int hro, .int hse, .int hla, .int hpl, .int hex, .long hsi, .ref ha1, .ref ha2, .ref ha3, .ref ha4, .ref ha5, .ref ha6, .ref ha7, .ref ha8, .ref hc])), (ha1, .inl (t 1, 9, .inl hf1)), (ha2, .inl (t 1, 9, .inl hf2))]) [4, 2, 3] rfl) (hD.sub (ws' := [(hh, .inr (5, [.int hli, .int hro, .int hse, .int hla, .int hpl, .int hex, .long hsi, .ref ha1, .ref ha2, .ref ha3, .ref ha4, .ref ha5, .ref ha6, .ref ha7, .ref ha8, .ref hc])), (ha1, .inl (t 1, 9, .inl hf1)), (ha2, .inl (t 1, 9, .inl hf2))]) [4, 2, 3] (by decide) rfl) 0 5 rfl rfl rfl rfl hl.1 (rest := [.int cst, .ref cr]) rfl (Nat.le_of_ble_eq_true rfl) dX3_goesOut_52 ⟨by decide, by decide⟩) hP hD hS hA [4, 2, 3] [0, 1, 5, 6, 7] (wr := [(cr, .inr (3, [.ref cm, .int cst, .ref ac])), (cm, .inl (t 1, 5, .inl f_14)), (ha3, .inl (t 1, 9, .inl hf3)), (ac, .inr (0, [.ref hh, .ref p1, .ref p2, .ref p3, .ref p4])), (p1, .inl (t 1, 420, .inl q1))]) rfl rfl (by decide) (by decide) (fun r_17 u H locs h_18 hP hD hS => ?_)
    have hP : va_P G vwCl [(cr, .inr (3, [.ref cm, .int cst, .ref ac])), (cm, .inl (t 1, 5, .inl f_14)), (ha3, .inl (t 1, 9, .inl hf3)), (ac, .inr (0, [.ref hh, .ref p1, .ref p2, .ref p3, .ref p4])), (p1, .inl (t 1, 420, .inl q1)), (hh, .inr (5, [.int hli, .int hro, .int hse, .int hla, .int hpl, .int hex, .long hsi, .ref ha1, .ref ha2, .ref ha3, .ref ha4, .ref ha5, .ref ha6, .ref ha7, .ref ha8, .ref hc])), (ha1, .inl (t 1, 9, .inl hf1)), (ha2, .inl (t 1, 9, .inl hf2))] H := hP
    have hD : va_D A [(cr, .inr (3, [.ref cm, .int cst, .ref ac])), (cm, .inl (t 1, 5, .inl f_14)), (ha3, .inl (t 1, 9, .inl hf3)), (ac, .inr (0, [.ref hh, .ref p1, .ref p2, .ref p3, .ref p4])), (p1, .inl (t 1, 420, .inl q1)), (hh, .inr (5, [.int hli, .int hro, .int hse, .int hla, .int hpl, .int hex, .long hsi, .ref ha1, .ref ha2, .ref ha3, .ref ha4, .ref ha5, .ref ha6, .ref ha7, .ref ha8, .ref hc])), (ha1, .inl (t 1, 9, .inl hf1)), (ha2, .inl (t 1, 9, .inl hf2))] := hD
    refine W.widen (k := 0) (n := 0) (Nat.le_of_ble_eq_true rfl) (Nat.le_of_ble_eq_true rfl) ?_
    first | refine adZ hx hb dX3_goesOut_55 cst.toInt r_17.toInt rfl rfl (by have := zrng cst; have := zrng r_17; omega) (fun v_19 zv_19 => ?_) | refine lv_iadd hx hb dX3_goesOut_55 (gnI (fun v_19 => ?_))
    refine pf hx hb hts hown hK hP hD hS 0 inT3 tyX3_ok nmX3 rfl rfl 1 (by decide) tw2_117 rfl rfl rfl (Nat.le_of_ble_eq_true rfl) dX3_goesOut_56 (ws' := [(cr, .inr (3, [.ref cm, .int v_19, .ref ac])), (cm, .inl (t 1, 5, .inl f_14)), (ha3, .inl (t 1, 9, .inl hf3)), (ac, .inr (0, [.ref hh, .ref p1, .ref p2, .ref p3, .ref p4])), (p1, .inl (t 1, 420, .inl q1)), (hh, .inr (5, [.int hli, .int hro, .int hse, .int hla, .int hpl, .int hex, .long hsi, .ref ha1, .ref ha2, .ref ha3, .ref ha4, .ref ha5, .ref ha6, .ref ha7, .ref ha8, .ref hc])), (ha1, .inl (t 1, 9, .inl hf1)), (ha2, .inl (t 1, 9, .inl hf2))]) rfl (fun H locs hP hD hS => ?_)
    exact rtV hx hb hr hlocks hS (v_19, f_14) (trivial) (hP.sub [0, 1, 3, 4, 5, 6, 7, 2] rfl) (hD.sub [0, 1, 3, 4, 5, 6, 7, 2] (by decide) rfl) dX3_goesOut_59

set_option maxHeartbeats 4000000 in
set_option maxRecDepth 100000 in
theorem x_draw (l : Launch) (G : va_G) (t : Nat → ClassId) (cr : Nat) (v0 : Int64) (a0 : Int32) (cm : Nat) (cst : Int32) (ac : Nat) (cmf : Nat → Int32) (hh : Nat) (p1 : Nat) (p2 : Nat) (p3 : Nat) (p4 : Nat) (q1 : Nat → Int32) (hli : Int32) (hro : Int32) (hse : Int32) (hla : Int32) (hpl : Int32) (hex : Int32) (hsi : Int64) (ha1 : Nat) (ha2 : Nat) (ha3 : Nat) (ha4 : Nat) (ha5 : Nat) (ha6 : Nat) (ha7 : Nat) (ha8 : Nat) (hc : Nat) (hf1 : Nat → Int32) (hf2 : Nat → Int32) (hf3 : Nat → Int32) (h_hro : 0 ≤ hro.toInt ∧ hro.toInt ≤ 6) (h_hse : 0 ≤ hse.toInt ∧ hse.toInt ≤ 6) (h_hpl : 0 ≤ hpl.toInt ∧ hpl.toInt ≤ 9) (h_hex : 0 ≤ hex.toInt ∧ hex.toInt ≤ 7) (h_hf1 : Rp (fun _ v => 0 ≤ v ∧ v ≤ 5) 9 hf1) (h_hf2 : Rp (fun _ v => 0 ≤ v ∧ v ≤ 5) 9 hf2) : Ct l G t yX3_draw cX3_draw 7 none ({ frames := 3, cells := 0, slots := 0, locals := 69 }) [.ref cr, .long v0, .int a0] [(cr, .inr (3, [.ref cm, .int cst, .ref ac])), (cm, .inl (t 1, 5, .inl cmf)), (ac, .inr (0, [.ref hh, .ref p1, .ref p2, .ref p3, .ref p4])), (p1, .inl (t 1, 420, .inl q1)), (hh, .inr (5, [.int hli, .int hro, .int hse, .int hla, .int hpl, .int hex, .long hsi, .ref ha1, .ref ha2, .ref ha3, .ref ha4, .ref ha5, .ref ha6, .ref ha7, .ref ha8, .ref hc])), (ha1, .inl (t 1, 9, .inl hf1)), (ha2, .inl (t 1, 9, .inl hf2)), (ha3, .inl (t 1, 9, .inl hf3))] (QV G (fun (u : (Int32) × (Nat → Int32)) => True) (fun (u : (Int32) × (Nat → Int32)) => [(cr, .inr (3, [.ref cm, .int u.1, .ref ac])), (cm, .inl (t 1, 5, .inl u.2)), (ac, .inr (0, [.ref hh, .ref p1, .ref p2, .ref p3, .ref p4])), (p1, .inl (t 1, 420, .inl q1)), (hh, .inr (5, [.int hli, .int hro, .int hse, .int hla, .int hpl, .int hex, .long hsi, .ref ha1, .ref ha2, .ref ha3, .ref ha4, .ref ha5, .ref ha6, .ref ha7, .ref ha8, .ref hc])), (ha1, .inl (t 1, 9, .inl hf1)), (ha2, .inl (t 1, 9, .inl hf2)), (ha3, .inl (t 1, 9, .inl hf3))])) := by
  refine ent (by decide) (Nat.le_of_ble_eq_true rfl) ?_
  intro p e s m args below meth c hx hb hr hml hts hown hlocks hin A hA hK hO hP hD hS ls hl
  have hown : s.vm.findClass RX3 = some m.cls := hown
  have hl : lv_has ls 7 [(0, .ref cr), (1, .long v0), (3, .int a0)] := hl
  have C0 : Cx p s m args c cX3_draw 7 RX3 G t := ⟨hx, hb, hml, hown, hts, hK, hO⟩
  have := zrng a0
  refine lv_iconst (v := 0) hx hb dX3_draw_0 (by decide) ?_
  refine lv_istore (lv' := [(4, .int 0), (0, .ref cr), (1, .long v0), (3, .int a0)]) hx hb dX3_draw_1 hl (by decide) rfl (fun ls hl => ?_)
  have LP_7 : ∀ (n : Nat) (g_4 : Int32) (f_6 : Nat → Int32) (b_5 : 0 ≤ g_4.toInt) (H : Heap) (locs : List Loc) (ls : Array Slot), lv_has ls 7 [(4, .int g_4), (0, .ref cr), (1, .long v0), (3, .int a0)] → va_P G vwCl [(cr, .inr (3, [.ref cm, .int cst, .ref ac])), (cm, .inl (t 1, 5, .inl f_6)), (ac, .inr (0, [.ref hh, .ref p1, .ref p2, .ref p3, .ref p4])), (p1, .inl (t 1, 420, .inl q1)), (hh, .inr (5, [.int hli, .int hro, .int hse, .int hla, .int hpl, .int hex, .long hsi, .ref ha1, .ref ha2, .ref ha3, .ref ha4, .ref ha5, .ref ha6, .ref ha7, .ref ha8, .ref hc])), (ha1, .inl (t 1, 9, .inl hf1)), (ha2, .inl (t 1, 9, .inl hf2)), (ha3, .inl (t 1, 9, .inl hf3))] H → va_D A [(cr, .inr (3, [.ref cm, .int cst, .ref ac])), (cm, .inl (t 1, 5, .inl f_6)), (ac, .inr (0, [.ref hh, .ref p1, .ref p2, .ref p3, .ref p4])), (p1, .inl (t 1, 420, .inl q1)), (hh, .inr (5, [.int hli, .int hro, .int hse, .int hla, .int hpl, .int hex, .long hsi, .ref ha1, .ref ha2, .ref ha3, .ref ha4, .ref ha5, .ref ha6, .ref ha7, .ref ha8, .ref hc])), (ha1, .inl (t 1, 9, .inl hf1)), (ha2, .inl (t 1, 9, .inl hf2)), (ha3, .inl (t 1, 9, .inl hf3))] → va_S A s.heap H locs → Int.toNat (5 - g_4.toInt) = n → W p l e ({ frames := 3, cells := 0, slots := 0, locals := 69 }) s m args below meth c H locs 0 0 (MQ below ((QV G (fun (u : (Int32) × (Nat → Int32)) => True) (fun (u : (Int32) × (Nat → Int32)) => [(cr, .inr (3, [.ref cm, .int u.1, .ref ac])), (cm, .inl (t 1, 5, .inl u.2)), (ac, .inr (0, [.ref hh, .ref p1, .ref p2, .ref p3, .ref p4])), (p1, .inl (t 1, 420, .inl q1)), (hh, .inr (5, [.int hli, .int hro, .int hse, .int hla, .int hpl, .int hex, .long hsi, .ref ha1, .ref ha2, .ref ha3, .ref ha4, .ref ha5, .ref ha6, .ref ha7, .ref ha8, .ref hc])), (ha1, .inl (t 1, 9, .inl hf1)), (ha2, .inl (t 1, 9, .inl hf2)), (ha3, .inl (t 1, 9, .inl hf3))])) A) args s 0 0 A) (F0 m 3 ls []) := by
    intro n
    induction n using Nat.strongRecOn with
    | ind n ih_3 =>
      intro g_4 f_6 b_5 H locs ls hl hP hD hS hmu
      have := zrng g_4
      refine lv_iload hx hb dX3_draw_3 (lv_at hl 0 rfl) ?_
      refine lv_iconst (v := 5) hx hb dX3_draw_5 (by decide) ?_
      refine bI_ge (tgt := 23) hx hb dX3_draw_6 (by decide) g_4.toInt 5 rfl rfl (fun c_8 => ?_) (fun c_8 => ?_)
      · refine lv_aload_n hx hb dX3_draw_23 rfl (lv_at hl 1 rfl) ?_
        refine lv_iconst (v := 0) hx hb dX3_draw_24 (by decide) ?_
        refine pf hx hb hts hown hK hP hD hS 0 inT3 tyX3_ok nmX3 rfl rfl 1 (by decide) tw2_117 rfl rfl rfl (Nat.le_of_ble_eq_true rfl) dX3_draw_25 (ws' := [(cr, .inr (3, [.ref cm, .int 0, .ref ac])), (cm, .inl (t 1, 5, .inl f_6)), (ac, .inr (0, [.ref hh, .ref p1, .ref p2, .ref p3, .ref p4])), (p1, .inl (t 1, 420, .inl q1)), (hh, .inr (5, [.int hli, .int hro, .int hse, .int hla, .int hpl, .int hex, .long hsi, .ref ha1, .ref ha2, .ref ha3, .ref ha4, .ref ha5, .ref ha6, .ref ha7, .ref ha8, .ref hc])), (ha1, .inl (t 1, 9, .inl hf1)), (ha2, .inl (t 1, 9, .inl hf2)), (ha3, .inl (t 1, 9, .inl hf3))]) rfl (fun H locs hP hD hS => ?_)
        refine lv_lload_n hx hb dX3_draw_28 rfl (lv_at hl 2 rfl) ?_
        refine lv_lstore (lv' := [(4, .long v0), (0, .ref cr), (1, .long v0), (3, .int a0)]) hx hb dX3_draw_29 hl (by decide) rfl (fun ls hl => ?_)
        refine lv_iconst (v := 0) hx hb dX3_draw_31 (by decide) ?_
        refine lv_istore (lv' := [(6, .int 0), (4, .long v0), (0, .ref cr), (1, .long v0), (3, .int a0)]) hx hb dX3_draw_32 hl (by decide) rfl (fun ls hl => ?_)
        have LP_19 : ∀ (n : Nat) (g_14 : Int32) (g_16 : Int64) (g_17 : Int32) (f_18 : Nat → Int32) (b_15 : 0 ≤ g_14.toInt) (H : Heap) (locs : List Loc) (ls : Array Slot), lv_has ls 7 [(6, .int g_14), (4, .long g_16), (0, .ref cr), (1, .long v0), (3, .int a0)] → va_P G vwCl [(cr, .inr (3, [.ref cm, .int g_17, .ref ac])), (cm, .inl (t 1, 5, .inl f_18)), (ac, .inr (0, [.ref hh, .ref p1, .ref p2, .ref p3, .ref p4])), (p1, .inl (t 1, 420, .inl q1)), (hh, .inr (5, [.int hli, .int hro, .int hse, .int hla, .int hpl, .int hex, .long hsi, .ref ha1, .ref ha2, .ref ha3, .ref ha4, .ref ha5, .ref ha6, .ref ha7, .ref ha8, .ref hc])), (ha1, .inl (t 1, 9, .inl hf1)), (ha2, .inl (t 1, 9, .inl hf2)), (ha3, .inl (t 1, 9, .inl hf3))] H → va_D A [(cr, .inr (3, [.ref cm, .int g_17, .ref ac])), (cm, .inl (t 1, 5, .inl f_18)), (ac, .inr (0, [.ref hh, .ref p1, .ref p2, .ref p3, .ref p4])), (p1, .inl (t 1, 420, .inl q1)), (hh, .inr (5, [.int hli, .int hro, .int hse, .int hla, .int hpl, .int hex, .long hsi, .ref ha1, .ref ha2, .ref ha3, .ref ha4, .ref ha5, .ref ha6, .ref ha7, .ref ha8, .ref hc])), (ha1, .inl (t 1, 9, .inl hf1)), (ha2, .inl (t 1, 9, .inl hf2)), (ha3, .inl (t 1, 9, .inl hf3))] → va_S A s.heap H locs → Int.toNat (36 - g_14.toInt) = n → W p l e ({ frames := 3, cells := 0, slots := 0, locals := 69 }) s m args below meth c H locs 0 0 (MQ below ((QV G (fun (u : (Int32) × (Nat → Int32)) => True) (fun (u : (Int32) × (Nat → Int32)) => [(cr, .inr (3, [.ref cm, .int u.1, .ref ac])), (cm, .inl (t 1, 5, .inl u.2)), (ac, .inr (0, [.ref hh, .ref p1, .ref p2, .ref p3, .ref p4])), (p1, .inl (t 1, 420, .inl q1)), (hh, .inr (5, [.int hli, .int hro, .int hse, .int hla, .int hpl, .int hex, .long hsi, .ref ha1, .ref ha2, .ref ha3, .ref ha4, .ref ha5, .ref ha6, .ref ha7, .ref ha8, .ref hc])), (ha1, .inl (t 1, 9, .inl hf1)), (ha2, .inl (t 1, 9, .inl hf2)), (ha3, .inl (t 1, 9, .inl hf3))])) A) args s 0 0 A) (F0 m 34 ls []) := by
          intro n
          induction n using Nat.strongRecOn with
          | ind n ih_34 =>
            intro g_14 g_16 g_17 f_18 b_15 H locs ls hl hP hD hS hmu
            have := zrng g_14
            have := zrng g_17
            refine lv_iload hx hb dX3_draw_34 (lv_at hl 0 rfl) ?_
            refine lv_bipush (v := 36) hx hb dX3_draw_36 (by decide) ?_
            refine bI_ge (tgt := 117) hx hb dX3_draw_38 (by decide) g_14.toInt 36 rfl rfl (fun c_20 => ?_) (fun c_20 => ?_)
            · exact rtV hx hb hr hlocks hS (g_17, f_18) (trivial) (hP.sub [0, 1, 2, 3, 4, 5, 6, 7] rfl) (hD.sub [0, 1, 2, 3, 4, 5, 6, 7] (by decide) rfl) dX3_draw_117
            · refine lv_aload_n hx hb dX3_draw_41 rfl (lv_at hl 2 rfl) ?_
              refine gf hx hb hts hown hK hP 0 inT3 rfl rfl 2 (by decide) tw2_119 rfl dX3_draw_42 ?_
              refine gf hx hb hts hown hK hP 2 inT0 rfl rfl 0 (by decide) tw2_3 rfl dX3_draw_45 ?_
              refine gf hx hb hts hown hK hP 4 inT5 rfl rfl 5 (by decide) tw1_104 rfl dX3_draw_48 ?_
              refine bF_le (tgt := 117) hx hb dX3_draw_51 (by decide) hex.toInt rfl (fun c_21 => ?_) (fun c_21 => ?_)
              · exact rtV hx hb hr hlocks hS (g_17, f_18) (trivial) (hP.sub [0, 1, 2, 3, 4, 5, 6, 7] rfl) (hD.sub [0, 1, 2, 3, 4, 5, 6, 7] (by decide) rfl) dX3_draw_117
              · refine lv_aload_n hx hb dX3_draw_54 rfl (lv_at hl 2 rfl) ?_
                refine gf hx hb hts hown hK hP 0 inT3 rfl rfl 2 (by decide) tw2_119 rfl dX3_draw_55 ?_
                refine gf hx hb hts hown hK hP 2 inT0 rfl rfl 0 (by decide) tw2_3 rfl dX3_draw_58 ?_
                refine lv_iload hx hb dX3_draw_61 (lv_at hl 0 rfl) ?_
                refine goI (rnV C0 (x_isTaken l G t hh g_14 hli hro hse hla hpl hex hsi ha1 ha2 ha3 ha4 ha5 ha6 ha7 ha8 hc (by omega) (by omega) (by omega) (by omega)) lkX3_34 ⟨by decide, by decide⟩ (hP.sub (ws' := [(hh, .inr (5, [.int hli, .int hro, .int hse, .int hla, .int hpl, .int hex, .long hsi, .ref ha1, .ref ha2, .ref ha3, .ref ha4, .ref ha5, .ref ha6, .ref ha7, .ref ha8, .ref hc]))]) [4] rfl) (hD.sub (ws' := [(hh, .inr (5, [.int hli, .int hro, .int hse, .int hla, .int hpl, .int hex, .long hsi, .ref ha1, .ref ha2, .ref ha3, .ref ha4, .ref ha5, .ref ha6, .ref ha7, .ref ha8, .ref hc]))]) [4] (by decide) rfl) 0 5 rfl rfl rfl rfl hl.1 (rest := []) rfl (Nat.le_of_ble_eq_true rfl) dX3_draw_63 ⟨by decide, by decide⟩) hP hD hS hA [4] [0, 1, 2, 3, 5, 6, 7] (wr := [(cr, .inr (3, [.ref cm, .int g_17, .ref ac])), (cm, .inl (t 1, 5, .inl f_18)), (ac, .inr (0, [.ref hh, .ref p1, .ref p2, .ref p3, .ref p4])), (p1, .inl (t 1, 420, .inl q1)), (ha1, .inl (t 1, 9, .inl hf1)), (ha2, .inl (t 1, 9, .inl hf2)), (ha3, .inl (t 1, 9, .inl hf3))]) rfl rfl (by decide) (by decide) (fun r_22 u H locs h_23 hP hD hS => ?_)
                have hP : va_P G vwCl [(cr, .inr (3, [.ref cm, .int g_17, .ref ac])), (cm, .inl (t 1, 5, .inl f_18)), (ac, .inr (0, [.ref hh, .ref p1, .ref p2, .ref p3, .ref p4])), (p1, .inl (t 1, 420, .inl q1)), (ha1, .inl (t 1, 9, .inl hf1)), (ha2, .inl (t 1, 9, .inl hf2)), (ha3, .inl (t 1, 9, .inl hf3)), (hh, .inr (5, [.int hli, .int hro, .int hse, .int hla, .int hpl, .int hex, .long hsi, .ref ha1, .ref ha2, .ref ha3, .ref ha4, .ref ha5, .ref ha6, .ref ha7, .ref ha8, .ref hc]))] H := hP
                have hD : va_D A [(cr, .inr (3, [.ref cm, .int g_17, .ref ac])), (cm, .inl (t 1, 5, .inl f_18)), (ac, .inr (0, [.ref hh, .ref p1, .ref p2, .ref p3, .ref p4])), (p1, .inl (t 1, 420, .inl q1)), (ha1, .inl (t 1, 9, .inl hf1)), (ha2, .inl (t 1, 9, .inl hf2)), (ha3, .inl (t 1, 9, .inl hf3)), (hh, .inr (5, [.int hli, .int hro, .int hse, .int hla, .int hpl, .int hex, .long hsi, .ref ha1, .ref ha2, .ref ha3, .ref ha4, .ref ha5, .ref ha6, .ref ha7, .ref ha8, .ref hc]))] := hD
                refine W.widen (k := 0) (n := 0) (Nat.le_of_ble_eq_true rfl) (Nat.le_of_ble_eq_true rfl) ?_
                refine bF_eq (tgt := 111) hx hb dX3_draw_66 (by decide) r_22.toInt rfl (fun c_24 => ?_) (fun c_24 => ?_)
                · first | refine incZ hx hb dX3_draw_111 hl (k := 0) rfl g_14.toInt rfl (by have := zrng g_14; omega) (by decide) (fun v_25 zv_25 ls hl => ?_) | refine incU hx hb dX3_draw_111 hl (k := 0) rfl (by decide) (fun v_25 ls hl => ?_)
                  have hl : lv_has ls 7 [(6, .int v_25), (4, .long g_16), (0, .ref cr), (1, .long v0), (3, .int a0)] := hl
                  refine lv_goto (tgt := 34) hx hb dX3_draw_114 (by decide) ?_
                  exact ih_34 (Int.toNat (36 - v_25.toInt)) (by omega) v_25 g_16 g_17 f_18 (by omega) _ _ _ (lv_sub hl [0, 1, 2, 3, 4] rfl) (hP.sub [0, 1, 2, 3, 7, 4, 5, 6] rfl) (hD.sub [0, 1, 2, 3, 7, 4, 5, 6] (by decide) rfl) hS rfl
                · refine lv_ldc2 hx hb hown (hts _ tw5_142) dX3_draw_69 ?_
                  refine lv_lload hx hb dX3_draw_72 (lv_at hl 1 rfl) ?_
                  first | refine lqmZ hx hb dX3_draw_74 1103515245 g_16.toInt rfl rfl (by have := yrng g_16; omega) (fun v_26 zv_26 => ?_) | refine lv_lmul hx hb dX3_draw_74 (gnL (fun v_26 => ?_))
                  refine lv_ldc2 hx hb hown (hts _ tw5_143) dX3_draw_75 ?_
                  first | refine lqaZ hx hb dX3_draw_78 v_26.toInt 12345 rfl rfl (by have := yrng v_26; omega) (fun v_27 zv_27 => ?_) | refine lv_ladd hx hb dX3_draw_78 (gnL (fun v_27 => ?_))
                  refine lv_ldc2 hx hb hown (hts _ tw5_144) dX3_draw_79 ?_
                  first | refine lrmZ hx hb dX3_draw_82 v_27.toInt 2147483648 rfl rfl (by omega) (by decide) (fun v_28 zv_28 => ?_) | refine lrmU hx hb dX3_draw_82 2147483648 rfl (by decide) (fun v_28 => ?_)
                  refine lv_lstore (lv' := [(4, .long v_28), (6, .int g_14), (0, .ref cr), (1, .long v0), (3, .int a0)]) hx hb dX3_draw_83 hl (by decide) rfl (fun ls hl => ?_)
                  refine lv_aload_n hx hb dX3_draw_85 rfl (lv_at hl 2 rfl) ?_
                  refine lv_iload hx hb dX3_draw_86 (lv_at hl 1 rfl) ?_
                  refine lv_lload hx hb dX3_draw_88 (lv_at hl 0 rfl) ?_
                  refine lv_ldc2 hx hb hown (hts _ tw5_145) dX3_draw_90 ?_
                  first | refine ldvZ hx hb dX3_draw_93 v_28.toInt 65536 rfl rfl (by omega) (by decide) (fun v_29 zv_29 => ?_) | refine ldvU hx hb dX3_draw_93 65536 rfl (by decide) (fun v_29 => ?_)
                  refine lv_aload_n hx hb dX3_draw_94 rfl (lv_at hl 2 rfl) ?_
                  refine gf hx hb hts hown hK hP 0 inT3 rfl rfl 2 (by decide) tw2_119 rfl dX3_draw_95 ?_
                  refine gf hx hb hts hown hK hP 2 inT0 rfl rfl 0 (by decide) tw2_3 rfl dX3_draw_98 ?_
                  refine gf hx hb hts hown hK hP 7 inT5 rfl rfl 5 (by decide) tw1_104 rfl dX3_draw_101 ?_
                  refine ilZ hx hb dX3_draw_104 hex.toInt rfl (fun v_30 zv_30 => ?_)
                  first | refine lrmV hx hb dX3_draw_105 v_29.toInt v_30.toInt rfl rfl (by omega) (by omega) (fun v_31 zv_31 => ?_) | refine lrmU hx hb dX3_draw_105 v_30.toInt rfl (by omega) (fun v_31 => ?_)
                  first | refine liZ hx hb dX3_draw_106 v_31.toInt rfl (by omega) (fun v_32 zv_32 => ?_) | refine lv_l2i hx hb dX3_draw_106 rfl (gnI (fun v_32 => ?_))
                  refine lv_iload_n hx hb dX3_draw_107 rfl (lv_at hl 4 rfl) ?_
                  refine goV (rnV C0 (x_cgoesOut l G t cr g_14 v_32 a0 cm g_17 ac f_18 hh p1 p2 p3 p4 q1 hli hro hse hla hpl hex hsi ha1 ha2 ha3 ha4 ha5 ha6 ha7 ha8 hc hf1 hf2 hf3 (by omega) (by omega) (by omega) (by omega) h_hf1 h_hf2) lkX3_46 ⟨by decide, by decide⟩ (hP.sub (ws' := [(cr, .inr (3, [.ref cm, .int g_17, .ref ac])), (cm, .inl (t 1, 5, .inl f_18)), (ac, .inr (0, [.ref hh, .ref p1, .ref p2, .ref p3, .ref p4])), (p1, .inl (t 1, 420, .inl q1)), (hh, .inr (5, [.int hli, .int hro, .int hse, .int hla, .int hpl, .int hex, .long hsi, .ref ha1, .ref ha2, .ref ha3, .ref ha4, .ref ha5, .ref ha6, .ref ha7, .ref ha8, .ref hc])), (ha1, .inl (t 1, 9, .inl hf1)), (ha2, .inl (t 1, 9, .inl hf2)), (ha3, .inl (t 1, 9, .inl hf3))]) [0, 1, 2, 3, 7, 4, 5, 6] rfl) (hD.sub (ws' := [(cr, .inr (3, [.ref cm, .int g_17, .ref ac])), (cm, .inl (t 1, 5, .inl f_18)), (ac, .inr (0, [.ref hh, .ref p1, .ref p2, .ref p3, .ref p4])), (p1, .inl (t 1, 420, .inl q1)), (hh, .inr (5, [.int hli, .int hro, .int hse, .int hla, .int hpl, .int hex, .long hsi, .ref ha1, .ref ha2, .ref ha3, .ref ha4, .ref ha5, .ref ha6, .ref ha7, .ref ha8, .ref hc])), (ha1, .inl (t 1, 9, .inl hf1)), (ha2, .inl (t 1, 9, .inl hf2)), (ha3, .inl (t 1, 9, .inl hf3))]) [0, 1, 2, 3, 7, 4, 5, 6] (by decide) rfl) 0 3 rfl rfl rfl rfl hl.1 (rest := []) rfl (Nat.le_of_ble_eq_true rfl) dX3_draw_108 ⟨by decide, by decide⟩) hP hD hS hA [0, 1, 2, 3, 7, 4, 5, 6] [] (wr := []) rfl rfl (by decide) (by decide) (fun u H locs h_36 hP hD hS => ?_)
                  obtain ⟨u_33, u_34⟩ := u
                  have hP : va_P G vwCl [(cr, .inr (3, [.ref cm, .int u_33, .ref ac])), (cm, .inl (t 1, 5, .inl u_34)), (ac, .inr (0, [.ref hh, .ref p1, .ref p2, .ref p3, .ref p4])), (p1, .inl (t 1, 420, .inl q1)), (hh, .inr (5, [.int hli, .int hro, .int hse, .int hla, .int hpl, .int hex, .long hsi, .ref ha1, .ref ha2, .ref ha3, .ref ha4, .ref ha5, .ref ha6, .ref ha7, .ref ha8, .ref hc])), (ha1, .inl (t 1, 9, .inl hf1)), (ha2, .inl (t 1, 9, .inl hf2)), (ha3, .inl (t 1, 9, .inl hf3))] H := hP
                  have hD : va_D A [(cr, .inr (3, [.ref cm, .int u_33, .ref ac])), (cm, .inl (t 1, 5, .inl u_34)), (ac, .inr (0, [.ref hh, .ref p1, .ref p2, .ref p3, .ref p4])), (p1, .inl (t 1, 420, .inl q1)), (hh, .inr (5, [.int hli, .int hro, .int hse, .int hla, .int hpl, .int hex, .long hsi, .ref ha1, .ref ha2, .ref ha3, .ref ha4, .ref ha5, .ref ha6, .ref ha7, .ref ha8, .ref hc])), (ha1, .inl (t 1, 9, .inl hf1)), (ha2, .inl (t 1, 9, .inl hf2)), (ha3, .inl (t 1, 9, .inl hf3))] := hD
                  refine W.widen (k := 0) (n := 0) (Nat.le_of_ble_eq_true rfl) (Nat.le_of_ble_eq_true rfl) ?_
                  first | refine incZ hx hb dX3_draw_111 hl (k := 1) rfl g_14.toInt rfl (by have := zrng g_14; omega) (by decide) (fun v_37 zv_37 ls hl => ?_) | refine incU hx hb dX3_draw_111 hl (k := 1) rfl (by decide) (fun v_37 ls hl => ?_)
                  have hl : lv_has ls 7 [(6, .int v_37), (4, .long v_28), (0, .ref cr), (1, .long v0), (3, .int a0)] := hl
                  refine lv_goto (tgt := 34) hx hb dX3_draw_114 (by decide) ?_
                  exact ih_34 (Int.toNat (36 - v_37.toInt)) (by omega) v_37 v_28 u_33 u_34 (by omega) _ _ _ (lv_sub hl [0, 1, 2, 3, 4] rfl) (hP.sub [0, 1, 2, 3, 4, 5, 6, 7] rfl) (hD.sub [0, 1, 2, 3, 4, 5, 6, 7] (by decide) rfl) hS rfl
        exact LP_19 (Int.toNat (36 - 0)) 0 v0 0 f_6 (by have : (0 : Int32).toInt = 0 := rfl; omega) _ _ _ (lv_sub hl [0, 1, 2, 3, 4] rfl) (hP.sub [0, 1, 2, 3, 4, 5, 6, 7] rfl) (hD.sub [0, 1, 2, 3, 4, 5, 6, 7] (by decide) rfl) hS rfl
      · refine lv_aload_n hx hb dX3_draw_9 rfl (lv_at hl 1 rfl) ?_
        refine gf hx hb hts hown hK hP 0 inT3 rfl rfl 0 (by decide) tw2_115 rfl dX3_draw_10 ?_
        refine lv_iload hx hb dX3_draw_13 (lv_at hl 0 rfl) ?_
        refine lv_iconst (v := 0) hx hb dX3_draw_15 (by decide) ?_
        refine saI hx hb hK hP hD hS 1 rfl g_4.toInt rfl (by omega) dX3_draw_16 (fun f_38 ef_38 H locs hP hD hS => ?_)
        have hP : va_P G vwCl [(cr, .inr (3, [.ref cm, .int cst, .ref ac])), (cm, .inl (t 1, 5, .inl f_38)), (ac, .inr (0, [.ref hh, .ref p1, .ref p2, .ref p3, .ref p4])), (p1, .inl (t 1, 420, .inl q1)), (hh, .inr (5, [.int hli, .int hro, .int hse, .int hla, .int hpl, .int hex, .long hsi, .ref ha1, .ref ha2, .ref ha3, .ref ha4, .ref ha5, .ref ha6, .ref ha7, .ref ha8, .ref hc])), (ha1, .inl (t 1, 9, .inl hf1)), (ha2, .inl (t 1, 9, .inl hf2)), (ha3, .inl (t 1, 9, .inl hf3))] H := hP
        have hD : va_D A [(cr, .inr (3, [.ref cm, .int cst, .ref ac])), (cm, .inl (t 1, 5, .inl f_38)), (ac, .inr (0, [.ref hh, .ref p1, .ref p2, .ref p3, .ref p4])), (p1, .inl (t 1, 420, .inl q1)), (hh, .inr (5, [.int hli, .int hro, .int hse, .int hla, .int hpl, .int hex, .long hsi, .ref ha1, .ref ha2, .ref ha3, .ref ha4, .ref ha5, .ref ha6, .ref ha7, .ref ha8, .ref hc])), (ha1, .inl (t 1, 9, .inl hf1)), (ha2, .inl (t 1, 9, .inl hf2)), (ha3, .inl (t 1, 9, .inl hf3))] := hD
        first | refine incZ hx hb dX3_draw_17 hl (k := 0) rfl g_4.toInt rfl (by have := zrng g_4; omega) (by decide) (fun v_39 zv_39 ls hl => ?_) | refine incU hx hb dX3_draw_17 hl (k := 0) rfl (by decide) (fun v_39 ls hl => ?_)
        have hl : lv_has ls 7 [(4, .int v_39), (0, .ref cr), (1, .long v0), (3, .int a0)] := hl
        refine lv_goto (tgt := 3) hx hb dX3_draw_20 (by decide) ?_
        exact ih_3 (Int.toNat (5 - v_39.toInt)) (by omega) v_39 f_38 (by omega) _ _ _ (lv_sub hl [0, 1, 2, 3] rfl) (hP.sub [0, 1, 2, 3, 4, 5, 6, 7] rfl) (hD.sub [0, 1, 2, 3, 4, 5, 6, 7] (by decide) rfl) hS rfl
  exact LP_7 (Int.toNat (5 - 0)) 0 cmf (by have : (0 : Int32).toInt = 0 := rfl; omega) _ _ _ (lv_sub hl [0, 1, 2, 3] rfl) (hP.sub [0, 1, 2, 3, 4, 5, 6, 7] rfl) (hD.sub [0, 1, 2, 3, 4, 5, 6, 7] (by decide) rfl) hS rfl

set_option maxHeartbeats 4000000 in
set_option maxRecDepth 100000 in
theorem x_isLucky (l : Launch) (G : va_G) (t : Nat → ClassId) (cr : Nat) (cm : Nat) (cst : Int32) (ac : Nat) (cmf : Nat → Int32) : Ct l G t yX3_isLucky cX3_isLucky 1 (some .boolean) ({ frames := 0, cells := 0, slots := 0, locals := 0 }) [.ref cr] [(cr, .inr (3, [.ref cm, .int cst, .ref ac])), (cm, .inl (t 1, 5, .inl cmf))] (QI G (fun r (u : Unit) => True) (fun (u : Unit) => [(cr, .inr (3, [.ref cm, .int cst, .ref ac])), (cm, .inl (t 1, 5, .inl cmf))])) := by
  refine ent (by decide) (Nat.le_of_ble_eq_true rfl) ?_
  intro p e s m args below meth c hx hb hr hml hts hown hlocks hin A hA hK hO hP hD hS ls hl
  have hown : s.vm.findClass RX3 = some m.cls := hown
  have hl : lv_has ls 1 [(0, .ref cr)] := hl
  have C0 : Cx p s m args c cX3_isLucky 1 RX3 G t := ⟨hx, hb, hml, hown, hts, hK, hO⟩
  refine lv_aload_n hx hb dX3_isLucky_0 rfl (lv_at hl 0 rfl) ?_
  refine gf hx hb hts hown hK hP 0 inT3 rfl rfl 0 (by decide) tw2_115 rfl dX3_isLucky_1 ?_
  refine lv_iconst (v := 1) hx hb dX3_isLucky_4 (by decide) ?_
  refine laI hx hb hK hP 1 rfl 1 rfl (by decide) dX3_isLucky_5 (fun v_1 ev_1 => ?_)
  have yv_1 : v_1.toInt = (cmf 1).toInt := by rw [ev_1]; rfl
  refine lv_aload_n hx hb dX3_isLucky_6 rfl (lv_at hl 0 rfl) ?_
  refine gf hx hb hts hown hK hP 0 inT3 rfl rfl 0 (by decide) tw2_115 rfl dX3_isLucky_7 ?_
  refine lv_iconst (v := 2) hx hb dX3_isLucky_10 (by decide) ?_
  refine laI hx hb hK hP 1 rfl 2 rfl (by decide) dX3_isLucky_11 (fun v_2 ev_2 => ?_)
  have yv_2 : v_2.toInt = (cmf 2).toInt := by rw [ev_2]; rfl
  first | refine adZ hx hb dX3_isLucky_12 v_1.toInt v_2.toInt rfl rfl (by have := zrng v_1; have := zrng v_2; omega) (fun v_3 zv_3 => ?_) | refine lv_iadd hx hb dX3_isLucky_12 (gnI (fun v_3 => ?_))
  refine lv_aload_n hx hb dX3_isLucky_13 rfl (lv_at hl 0 rfl) ?_
  refine gf hx hb hts hown hK hP 0 inT3 rfl rfl 0 (by decide) tw2_115 rfl dX3_isLucky_14 ?_
  refine lv_iconst (v := 3) hx hb dX3_isLucky_17 (by decide) ?_
  refine laI hx hb hK hP 1 rfl 3 rfl (by decide) dX3_isLucky_18 (fun v_4 ev_4 => ?_)
  have yv_4 : v_4.toInt = (cmf 3).toInt := by rw [ev_4]; rfl
  first | refine adZ hx hb dX3_isLucky_19 v_3.toInt v_4.toInt rfl rfl (by have := zrng v_3; have := zrng v_4; omega) (fun v_5 zv_5 => ?_) | refine lv_iadd hx hb dX3_isLucky_19 (gnI (fun v_5 => ?_))
  refine bF_ne (tgt := 27) hx hb dX3_isLucky_20 (by decide) v_5.toInt rfl (fun c_6 => ?_) (fun c_6 => ?_)
  · refine lv_iconst (v := 0) hx hb dX3_isLucky_27 (by decide) ?_
    exact rtZ hx hb hr hlocks hS rfl () (trivial) (hP.sub [0, 1] rfl) (hD.sub [0, 1] (by decide) rfl) dX3_isLucky_28
  · refine lv_iconst (v := 1) hx hb dX3_isLucky_23 (by decide) ?_
    refine lv_goto (tgt := 28) hx hb dX3_isLucky_24 (by decide) ?_
    exact rtZ hx hb hr hlocks hS rfl () (trivial) (hP.sub [0, 1] rfl) (hD.sub [0, 1] (by decide) rfl) dX3_isLucky_28

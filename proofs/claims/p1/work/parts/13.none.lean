set_option maxHeartbeats 4000000 in
set_option maxRecDepth 100000 in
theorem x_place (l : Launch) (G : va_G) (t : Nat → ClassId) (x : Nat) (tp : Nat) (rd : Nat) (im : Nat) (mk : Nat) (sl : Nat) (ac : Nat) (cl : Nat) (xhb : Nat) (rs : Nat) (sd : Nat) (cr : Nat) (xhl : Nat) (df : Nat) (ha1 : Nat) (ha2 : Nat) (ha3 : Nat) (ha4 : Nat) (ha5 : Nat) (ha6 : Nat) (ha7 : Nat) (ha8 : Nat) (hc : Nat) (a0 : Int32) (b0 : Int32) : Ct l G t yX11_place cX11_place 3 (some .int) ({ frames := 1, cells := 0, slots := 0, locals := 21 }) [.ref x, .int a0, .int b0] [(x, .inr (11, [.ref tp, .ref rd, .ref im, .ref mk, .ref sl, .ref ac, .ref cl, .ref xhb, .ref rs, .ref sd, .ref cr, .ref xhl, .ref df])), (xhl, .inr (5, [.int 0, .int 0, .int 0, .int 0, .int 0, .int 0, .long 0, .ref ha1, .ref ha2, .ref ha3, .ref ha4, .ref ha5, .ref ha6, .ref ha7, .ref ha8, .ref hc]))] (QI G (fun r (u : Unit) => r = (-2)) (fun (u : Unit) => [])) := by
  refine ent (by decide) (Nat.le_of_ble_eq_true rfl) ?_
  intro p e s m args below meth c hx hb hr hml hts hown hlocks hin A hA hK hO hP hD hS ls hl
  have hown : s.vm.findClass RX11 = some m.cls := hown
  have hl : lv_has ls 3 [(0, .ref x), (1, .int a0), (2, .int b0)] := hl
  have C0 : Cx p s m args c cX11_place 3 RX11 G t := ⟨hx, hb, hml, hown, hts, hK, hO⟩
  refine lv_aload_n hx hb dX11_place_0 rfl (lv_at hl 0 rfl) ?_
  refine gf hx hb hts hown hK hP 0 inT11 rfl rfl 11 (by decide) tw2_138 rfl dX11_place_1 ?_
  refine lv_iload_n hx hb dX11_place_4 rfl (lv_at hl 1 rfl) ?_
  refine goI (rnV C0 (c_hasPlace l G t xhl ha1 ha2 ha3 ha4 ha5 ha6 ha7 ha8 hc a0) lkX11_124 ⟨by decide, by decide⟩ (hP.sub (ws' := [(xhl, .inr (5, [.int 0, .int 0, .int 0, .int 0, .int 0, .int 0, .long 0, .ref ha1, .ref ha2, .ref ha3, .ref ha4, .ref ha5, .ref ha6, .ref ha7, .ref ha8, .ref hc]))]) [1] rfl) (hD.sub (ws' := [(xhl, .inr (5, [.int 0, .int 0, .int 0, .int 0, .int 0, .int 0, .long 0, .ref ha1, .ref ha2, .ref ha3, .ref ha4, .ref ha5, .ref ha6, .ref ha7, .ref ha8, .ref hc]))]) [1] (by decide) rfl) 0 5 rfl rfl rfl rfl hl.1 (rest := []) rfl (Nat.le_of_ble_eq_true rfl) dX11_place_5 ⟨by decide, by decide⟩) hP hD hS hA [1] [0] (wr := [(x, .inr (11, [.ref tp, .ref rd, .ref im, .ref mk, .ref sl, .ref ac, .ref cl, .ref xhb, .ref rs, .ref sd, .ref cr, .ref xhl, .ref df]))]) rfl rfl (by decide) (by decide) (fun r_1 u H locs h_2 hP hD hS => ?_)
  have hP : va_P G vwCl [(x, .inr (11, [.ref tp, .ref rd, .ref im, .ref mk, .ref sl, .ref ac, .ref cl, .ref xhb, .ref rs, .ref sd, .ref cr, .ref xhl, .ref df])), (xhl, .inr (5, [.int 0, .int 0, .int 0, .int 0, .int 0, .int 0, .long 0, .ref ha1, .ref ha2, .ref ha3, .ref ha4, .ref ha5, .ref ha6, .ref ha7, .ref ha8, .ref hc]))] H := hP
  have hD : va_D A [(x, .inr (11, [.ref tp, .ref rd, .ref im, .ref mk, .ref sl, .ref ac, .ref cl, .ref xhb, .ref rs, .ref sd, .ref cr, .ref xhl, .ref df])), (xhl, .inr (5, [.int 0, .int 0, .int 0, .int 0, .int 0, .int 0, .long 0, .ref ha1, .ref ha2, .ref ha3, .ref ha4, .ref ha5, .ref ha6, .ref ha7, .ref ha8, .ref hc]))] := hD
  refine W.widen (k := 0) (n := 0) (Nat.le_of_ble_eq_true rfl) (Nat.le_of_ble_eq_true rfl) ?_
  obtain rfl : r_1 = 0 := h_2
  refine lv_if_ne (tgt := 14) hx hb dX11_place_8 (by decide) (fun c_3 => absurd (by decide) c_3) (fun _ => ?_)
  refine lv_bipush (v := (-2)) hx hb dX11_place_11 (by decide) ?_
  refine W.widen (k := 0) (n := 0) (by decide) (by decide) ?_
  exact rtI hx hb hr hlocks hS () (rfl) (hP.sub [] rfl) (hD.sub [] (by decide) rfl) dX11_place_13

set_option maxHeartbeats 4000000 in
set_option maxRecDepth 100000 in
theorem x_exit (l : Launch) (G : va_G) (t : Nat → ClassId) (x : Nat) (tp : Nat) (rd : Nat) (im : Nat) (mk : Nat) (sl : Nat) (ac : Nat) (cl : Nat) (xhb : Nat) (rs : Nat) (sd : Nat) (cr : Nat) (xhl : Nat) (df : Nat) (ha1 : Nat) (ha2 : Nat) (ha3 : Nat) (ha4 : Nat) (ha5 : Nat) (ha6 : Nat) (ha7 : Nat) (ha8 : Nat) (hc : Nat) (a0 : Int32) (b0 : Int32) : Ct l G t yX11_exit cX11_exit 3 (some .int) ({ frames := 1, cells := 0, slots := 0, locals := 21 }) [.ref x, .int a0, .int b0] [(x, .inr (11, [.ref tp, .ref rd, .ref im, .ref mk, .ref sl, .ref ac, .ref cl, .ref xhb, .ref rs, .ref sd, .ref cr, .ref xhl, .ref df])), (xhl, .inr (5, [.int 0, .int 0, .int 0, .int 0, .int 0, .int 0, .long 0, .ref ha1, .ref ha2, .ref ha3, .ref ha4, .ref ha5, .ref ha6, .ref ha7, .ref ha8, .ref hc]))] (QI G (fun r (u : Unit) => r = (-2)) (fun (u : Unit) => [])) := by
  refine ent (by decide) (Nat.le_of_ble_eq_true rfl) ?_
  intro p e s m args below meth c hx hb hr hml hts hown hlocks hin A hA hK hO hP hD hS ls hl
  have hown : s.vm.findClass RX11 = some m.cls := hown
  have hl : lv_has ls 3 [(0, .ref x), (1, .int a0), (2, .int b0)] := hl
  have C0 : Cx p s m args c cX11_exit 3 RX11 G t := ⟨hx, hb, hml, hown, hts, hK, hO⟩
  refine lv_aload_n hx hb dX11_exit_0 rfl (lv_at hl 0 rfl) ?_
  refine gf hx hb hts hown hK hP 0 inT11 rfl rfl 11 (by decide) tw2_138 rfl dX11_exit_1 ?_
  refine lv_iload_n hx hb dX11_exit_4 rfl (lv_at hl 1 rfl) ?_
  refine goI (rnV C0 (c_hasExit l G t xhl ha1 ha2 ha3 ha4 ha5 ha6 ha7 ha8 hc a0) lkX11_141 ⟨by decide, by decide⟩ (hP.sub (ws' := [(xhl, .inr (5, [.int 0, .int 0, .int 0, .int 0, .int 0, .int 0, .long 0, .ref ha1, .ref ha2, .ref ha3, .ref ha4, .ref ha5, .ref ha6, .ref ha7, .ref ha8, .ref hc]))]) [1] rfl) (hD.sub (ws' := [(xhl, .inr (5, [.int 0, .int 0, .int 0, .int 0, .int 0, .int 0, .long 0, .ref ha1, .ref ha2, .ref ha3, .ref ha4, .ref ha5, .ref ha6, .ref ha7, .ref ha8, .ref hc]))]) [1] (by decide) rfl) 0 5 rfl rfl rfl rfl hl.1 (rest := []) rfl (Nat.le_of_ble_eq_true rfl) dX11_exit_5 ⟨by decide, by decide⟩) hP hD hS hA [1] [0] (wr := [(x, .inr (11, [.ref tp, .ref rd, .ref im, .ref mk, .ref sl, .ref ac, .ref cl, .ref xhb, .ref rs, .ref sd, .ref cr, .ref xhl, .ref df]))]) rfl rfl (by decide) (by decide) (fun r_1 u H locs h_2 hP hD hS => ?_)
  have hP : va_P G vwCl [(x, .inr (11, [.ref tp, .ref rd, .ref im, .ref mk, .ref sl, .ref ac, .ref cl, .ref xhb, .ref rs, .ref sd, .ref cr, .ref xhl, .ref df])), (xhl, .inr (5, [.int 0, .int 0, .int 0, .int 0, .int 0, .int 0, .long 0, .ref ha1, .ref ha2, .ref ha3, .ref ha4, .ref ha5, .ref ha6, .ref ha7, .ref ha8, .ref hc]))] H := hP
  have hD : va_D A [(x, .inr (11, [.ref tp, .ref rd, .ref im, .ref mk, .ref sl, .ref ac, .ref cl, .ref xhb, .ref rs, .ref sd, .ref cr, .ref xhl, .ref df])), (xhl, .inr (5, [.int 0, .int 0, .int 0, .int 0, .int 0, .int 0, .long 0, .ref ha1, .ref ha2, .ref ha3, .ref ha4, .ref ha5, .ref ha6, .ref ha7, .ref ha8, .ref hc]))] := hD
  refine W.widen (k := 0) (n := 0) (Nat.le_of_ble_eq_true rfl) (Nat.le_of_ble_eq_true rfl) ?_
  obtain rfl : r_1 = 0 := h_2
  refine lv_if_ne (tgt := 14) hx hb dX11_exit_8 (by decide) (fun c_3 => absurd (by decide) c_3) (fun _ => ?_)
  refine lv_bipush (v := (-2)) hx hb dX11_exit_11 (by decide) ?_
  refine W.widen (k := 0) (n := 0) (by decide) (by decide) ?_
  exact rtI hx hb hr hlocks hS () (rfl) (hP.sub [] rfl) (hD.sub [] (by decide) rfl) dX11_exit_13

set_option maxHeartbeats 4000000 in
set_option maxRecDepth 100000 in
theorem x_sits (l : Launch) (G : va_G) (t : Nat → ClassId) (x : Nat) (tp : Nat) (rd : Nat) (im : Nat) (mk : Nat) (sl : Nat) (ac : Nat) (cl : Nat) (xhb : Nat) (rs : Nat) (sd : Nat) (cr : Nat) (xhl : Nat) (df : Nat) (ha1 : Nat) (ha2 : Nat) (ha3 : Nat) (ha4 : Nat) (ha5 : Nat) (ha6 : Nat) (ha7 : Nat) (ha8 : Nat) (hc : Nat) (a0 : Int32) (b0 : Int32) : Ct l G t yX11_sits cX11_sits 3 (some .int) ({ frames := 1, cells := 0, slots := 0, locals := 22 }) [.ref x, .int a0, .int b0] [(x, .inr (11, [.ref tp, .ref rd, .ref im, .ref mk, .ref sl, .ref ac, .ref cl, .ref xhb, .ref rs, .ref sd, .ref cr, .ref xhl, .ref df])), (xhl, .inr (5, [.int 0, .int 0, .int 0, .int 0, .int 0, .int 0, .long 0, .ref ha1, .ref ha2, .ref ha3, .ref ha4, .ref ha5, .ref ha6, .ref ha7, .ref ha8, .ref hc]))] (QI G (fun r (u : Unit) => r = (-2)) (fun (u : Unit) => [])) := by
  refine ent (by decide) (Nat.le_of_ble_eq_true rfl) ?_
  intro p e s m args below meth c hx hb hr hml hts hown hlocks hin A hA hK hO hP hD hS ls hl
  have hown : s.vm.findClass RX11 = some m.cls := hown
  have hl : lv_has ls 3 [(0, .ref x), (1, .int a0), (2, .int b0)] := hl
  have C0 : Cx p s m args c cX11_sits 3 RX11 G t := ⟨hx, hb, hml, hown, hts, hK, hO⟩
  refine lv_aload_n hx hb dX11_sits_0 rfl (lv_at hl 0 rfl) ?_
  refine gf hx hb hts hown hK hP 0 inT11 rfl rfl 11 (by decide) tw2_138 rfl dX11_sits_1 ?_
  refine lv_iload_n hx hb dX11_sits_4 rfl (lv_at hl 1 rfl) ?_
  refine lv_iload_n hx hb dX11_sits_5 rfl (lv_at hl 2 rfl) ?_
  refine goI (rnV C0 (c_hasSeat l G t xhl ha1 ha2 ha3 ha4 ha5 ha6 ha7 ha8 hc a0 b0) lkX11_156 ⟨by decide, by decide⟩ (hP.sub (ws' := [(xhl, .inr (5, [.int 0, .int 0, .int 0, .int 0, .int 0, .int 0, .long 0, .ref ha1, .ref ha2, .ref ha3, .ref ha4, .ref ha5, .ref ha6, .ref ha7, .ref ha8, .ref hc]))]) [1] rfl) (hD.sub (ws' := [(xhl, .inr (5, [.int 0, .int 0, .int 0, .int 0, .int 0, .int 0, .long 0, .ref ha1, .ref ha2, .ref ha3, .ref ha4, .ref ha5, .ref ha6, .ref ha7, .ref ha8, .ref hc]))]) [1] (by decide) rfl) 0 5 rfl rfl rfl rfl hl.1 (rest := []) rfl (Nat.le_of_ble_eq_true rfl) dX11_sits_6 ⟨by decide, by decide⟩) hP hD hS hA [1] [0] (wr := [(x, .inr (11, [.ref tp, .ref rd, .ref im, .ref mk, .ref sl, .ref ac, .ref cl, .ref xhb, .ref rs, .ref sd, .ref cr, .ref xhl, .ref df]))]) rfl rfl (by decide) (by decide) (fun r_1 u H locs h_2 hP hD hS => ?_)
  have hP : va_P G vwCl [(x, .inr (11, [.ref tp, .ref rd, .ref im, .ref mk, .ref sl, .ref ac, .ref cl, .ref xhb, .ref rs, .ref sd, .ref cr, .ref xhl, .ref df])), (xhl, .inr (5, [.int 0, .int 0, .int 0, .int 0, .int 0, .int 0, .long 0, .ref ha1, .ref ha2, .ref ha3, .ref ha4, .ref ha5, .ref ha6, .ref ha7, .ref ha8, .ref hc]))] H := hP
  have hD : va_D A [(x, .inr (11, [.ref tp, .ref rd, .ref im, .ref mk, .ref sl, .ref ac, .ref cl, .ref xhb, .ref rs, .ref sd, .ref cr, .ref xhl, .ref df])), (xhl, .inr (5, [.int 0, .int 0, .int 0, .int 0, .int 0, .int 0, .long 0, .ref ha1, .ref ha2, .ref ha3, .ref ha4, .ref ha5, .ref ha6, .ref ha7, .ref ha8, .ref hc]))] := hD
  refine W.widen (k := 0) (n := 0) (Nat.le_of_ble_eq_true rfl) (Nat.le_of_ble_eq_true rfl) ?_
  obtain rfl : r_1 = 0 := h_2
  refine lv_if_ne (tgt := 15) hx hb dX11_sits_9 (by decide) (fun c_3 => absurd (by decide) c_3) (fun _ => ?_)
  refine lv_bipush (v := (-2)) hx hb dX11_sits_12 (by decide) ?_
  refine W.widen (k := 0) (n := 0) (by decide) (by decide) ?_
  exact rtI hx hb hr hlocks hS () (rfl) (hP.sub [] rfl) (hD.sub [] (by decide) rfl) dX11_sits_14

set_option maxHeartbeats 4000000 in
set_option maxRecDepth 100000 in
theorem x_at (l : Launch) (G : va_G) (t : Nat → ClassId) (x : Nat) (tp : Nat) (rd : Nat) (im : Nat) (mk : Nat) (sl : Nat) (ac : Nat) (cl : Nat) (xhb : Nat) (rs : Nat) (sd : Nat) (cr : Nat) (xhl : Nat) (df : Nat) (ha1 : Nat) (ha2 : Nat) (ha3 : Nat) (ha4 : Nat) (ha5 : Nat) (ha6 : Nat) (ha7 : Nat) (ha8 : Nat) (hc : Nat) (a0 : Int32) (b0 : Int32) : Ct l G t yX11_at cX11_at 3 (some .int) ({ frames := 1, cells := 0, slots := 0, locals := 21 }) [.ref x, .int a0, .int b0] [(x, .inr (11, [.ref tp, .ref rd, .ref im, .ref mk, .ref sl, .ref ac, .ref cl, .ref xhb, .ref rs, .ref sd, .ref cr, .ref xhl, .ref df])), (xhl, .inr (5, [.int 0, .int 0, .int 0, .int 0, .int 0, .int 0, .long 0, .ref ha1, .ref ha2, .ref ha3, .ref ha4, .ref ha5, .ref ha6, .ref ha7, .ref ha8, .ref hc]))] (QI G (fun r (u : Unit) => r = (-2)) (fun (u : Unit) => [])) := by
  refine ent (by decide) (Nat.le_of_ble_eq_true rfl) ?_
  intro p e s m args below meth c hx hb hr hml hts hown hlocks hin A hA hK hO hP hD hS ls hl
  have hown : s.vm.findClass RX11 = some m.cls := hown
  have hl : lv_has ls 3 [(0, .ref x), (1, .int a0), (2, .int b0)] := hl
  have C0 : Cx p s m args c cX11_at 3 RX11 G t := ⟨hx, hb, hml, hown, hts, hK, hO⟩
  refine lv_aload_n hx hb dX11_at_0 rfl (lv_at hl 0 rfl) ?_
  refine gf hx hb hts hown hK hP 0 inT11 rfl rfl 11 (by decide) tw2_138 rfl dX11_at_1 ?_
  refine lv_iload_n hx hb dX11_at_4 rfl (lv_at hl 1 rfl) ?_
  refine goI (rnV C0 (c_hasExit l G t xhl ha1 ha2 ha3 ha4 ha5 ha6 ha7 ha8 hc a0) lkX11_141 ⟨by decide, by decide⟩ (hP.sub (ws' := [(xhl, .inr (5, [.int 0, .int 0, .int 0, .int 0, .int 0, .int 0, .long 0, .ref ha1, .ref ha2, .ref ha3, .ref ha4, .ref ha5, .ref ha6, .ref ha7, .ref ha8, .ref hc]))]) [1] rfl) (hD.sub (ws' := [(xhl, .inr (5, [.int 0, .int 0, .int 0, .int 0, .int 0, .int 0, .long 0, .ref ha1, .ref ha2, .ref ha3, .ref ha4, .ref ha5, .ref ha6, .ref ha7, .ref ha8, .ref hc]))]) [1] (by decide) rfl) 0 5 rfl rfl rfl rfl hl.1 (rest := []) rfl (Nat.le_of_ble_eq_true rfl) dX11_at_5 ⟨by decide, by decide⟩) hP hD hS hA [1] [0] (wr := [(x, .inr (11, [.ref tp, .ref rd, .ref im, .ref mk, .ref sl, .ref ac, .ref cl, .ref xhb, .ref rs, .ref sd, .ref cr, .ref xhl, .ref df]))]) rfl rfl (by decide) (by decide) (fun r_1 u H locs h_2 hP hD hS => ?_)
  have hP : va_P G vwCl [(x, .inr (11, [.ref tp, .ref rd, .ref im, .ref mk, .ref sl, .ref ac, .ref cl, .ref xhb, .ref rs, .ref sd, .ref cr, .ref xhl, .ref df])), (xhl, .inr (5, [.int 0, .int 0, .int 0, .int 0, .int 0, .int 0, .long 0, .ref ha1, .ref ha2, .ref ha3, .ref ha4, .ref ha5, .ref ha6, .ref ha7, .ref ha8, .ref hc]))] H := hP
  have hD : va_D A [(x, .inr (11, [.ref tp, .ref rd, .ref im, .ref mk, .ref sl, .ref ac, .ref cl, .ref xhb, .ref rs, .ref sd, .ref cr, .ref xhl, .ref df])), (xhl, .inr (5, [.int 0, .int 0, .int 0, .int 0, .int 0, .int 0, .long 0, .ref ha1, .ref ha2, .ref ha3, .ref ha4, .ref ha5, .ref ha6, .ref ha7, .ref ha8, .ref hc]))] := hD
  refine W.widen (k := 0) (n := 0) (Nat.le_of_ble_eq_true rfl) (Nat.le_of_ble_eq_true rfl) ?_
  obtain rfl : r_1 = 0 := h_2
  refine lv_if_eq (tgt := 18) hx hb dX11_at_8 (by decide) (fun _ => ?_) (fun c_3 => absurd (by decide) c_3)
  refine lv_bipush (v := (-2)) hx hb dX11_at_18 (by decide) ?_
  refine W.widen (k := 0) (n := 0) (by decide) (by decide) ?_
  exact rtI hx hb hr hlocks hS () (rfl) (hP.sub [] rfl) (hD.sub [] (by decide) rfl) dX11_at_20

set_option maxHeartbeats 4000000 in
set_option maxRecDepth 100000 in
theorem x_who (l : Launch) (G : va_G) (t : Nat → ClassId) (x : Nat) (tp : Nat) (rd : Nat) (im : Nat) (mk : Nat) (sl : Nat) (ac : Nat) (cl : Nat) (xhb : Nat) (rs : Nat) (sd : Nat) (cr : Nat) (xhl : Nat) (df : Nat) (ha1 : Nat) (ha2 : Nat) (ha3 : Nat) (ha4 : Nat) (ha5 : Nat) (ha6 : Nat) (ha7 : Nat) (ha8 : Nat) (hc : Nat) (a0 : Int32) (b0 : Int32) : Ct l G t yX11_who cX11_who 3 (some .int) ({ frames := 1, cells := 0, slots := 0, locals := 21 }) [.ref x, .int a0, .int b0] [(x, .inr (11, [.ref tp, .ref rd, .ref im, .ref mk, .ref sl, .ref ac, .ref cl, .ref xhb, .ref rs, .ref sd, .ref cr, .ref xhl, .ref df])), (xhl, .inr (5, [.int 0, .int 0, .int 0, .int 0, .int 0, .int 0, .long 0, .ref ha1, .ref ha2, .ref ha3, .ref ha4, .ref ha5, .ref ha6, .ref ha7, .ref ha8, .ref hc]))] (QI G (fun r (u : Unit) => r = (-2)) (fun (u : Unit) => [])) := by
  refine ent (by decide) (Nat.le_of_ble_eq_true rfl) ?_
  intro p e s m args below meth c hx hb hr hml hts hown hlocks hin A hA hK hO hP hD hS ls hl
  have hown : s.vm.findClass RX11 = some m.cls := hown
  have hl : lv_has ls 3 [(0, .ref x), (1, .int a0), (2, .int b0)] := hl
  have C0 : Cx p s m args c cX11_who 3 RX11 G t := ⟨hx, hb, hml, hown, hts, hK, hO⟩
  refine lv_aload_n hx hb dX11_who_0 rfl (lv_at hl 0 rfl) ?_
  refine gf hx hb hts hown hK hP 0 inT11 rfl rfl 11 (by decide) tw2_138 rfl dX11_who_1 ?_
  refine lv_iload_n hx hb dX11_who_4 rfl (lv_at hl 1 rfl) ?_
  refine goI (rnV C0 (c_hasPlace l G t xhl ha1 ha2 ha3 ha4 ha5 ha6 ha7 ha8 hc a0) lkX11_124 ⟨by decide, by decide⟩ (hP.sub (ws' := [(xhl, .inr (5, [.int 0, .int 0, .int 0, .int 0, .int 0, .int 0, .long 0, .ref ha1, .ref ha2, .ref ha3, .ref ha4, .ref ha5, .ref ha6, .ref ha7, .ref ha8, .ref hc]))]) [1] rfl) (hD.sub (ws' := [(xhl, .inr (5, [.int 0, .int 0, .int 0, .int 0, .int 0, .int 0, .long 0, .ref ha1, .ref ha2, .ref ha3, .ref ha4, .ref ha5, .ref ha6, .ref ha7, .ref ha8, .ref hc]))]) [1] (by decide) rfl) 0 5 rfl rfl rfl rfl hl.1 (rest := []) rfl (Nat.le_of_ble_eq_true rfl) dX11_who_5 ⟨by decide, by decide⟩) hP hD hS hA [1] [0] (wr := [(x, .inr (11, [.ref tp, .ref rd, .ref im, .ref mk, .ref sl, .ref ac, .ref cl, .ref xhb, .ref rs, .ref sd, .ref cr, .ref xhl, .ref df]))]) rfl rfl (by decide) (by decide) (fun r_1 u H locs h_2 hP hD hS => ?_)
  have hP : va_P G vwCl [(x, .inr (11, [.ref tp, .ref rd, .ref im, .ref mk, .ref sl, .ref ac, .ref cl, .ref xhb, .ref rs, .ref sd, .ref cr, .ref xhl, .ref df])), (xhl, .inr (5, [.int 0, .int 0, .int 0, .int 0, .int 0, .int 0, .long 0, .ref ha1, .ref ha2, .ref ha3, .ref ha4, .ref ha5, .ref ha6, .ref ha7, .ref ha8, .ref hc]))] H := hP
  have hD : va_D A [(x, .inr (11, [.ref tp, .ref rd, .ref im, .ref mk, .ref sl, .ref ac, .ref cl, .ref xhb, .ref rs, .ref sd, .ref cr, .ref xhl, .ref df])), (xhl, .inr (5, [.int 0, .int 0, .int 0, .int 0, .int 0, .int 0, .long 0, .ref ha1, .ref ha2, .ref ha3, .ref ha4, .ref ha5, .ref ha6, .ref ha7, .ref ha8, .ref hc]))] := hD
  refine W.widen (k := 0) (n := 0) (Nat.le_of_ble_eq_true rfl) (Nat.le_of_ble_eq_true rfl) ?_
  obtain rfl : r_1 = 0 := h_2
  refine lv_if_eq (tgt := 18) hx hb dX11_who_8 (by decide) (fun _ => ?_) (fun c_3 => absurd (by decide) c_3)
  refine lv_bipush (v := (-2)) hx hb dX11_who_18 (by decide) ?_
  refine W.widen (k := 0) (n := 0) (by decide) (by decide) ?_
  exact rtI hx hb hr hlocks hS () (rfl) (hP.sub [] rfl) (hD.sub [] (by decide) rfl) dX11_who_20

set_option maxHeartbeats 4000000 in
set_option maxRecDepth 100000 in
theorem x_behind (l : Launch) (G : va_G) (t : Nat → ClassId) (x : Nat) (tp : Nat) (rd : Nat) (im : Nat) (mk : Nat) (sl : Nat) (ac : Nat) (cl : Nat) (xhb : Nat) (rs : Nat) (sd : Nat) (cr : Nat) (xhl : Nat) (df : Nat) (ha1 : Nat) (ha2 : Nat) (ha3 : Nat) (ha4 : Nat) (ha5 : Nat) (ha6 : Nat) (ha7 : Nat) (ha8 : Nat) (hc : Nat) (a0 : Int32) (b0 : Int32) : Ct l G t yX11_behind cX11_behind 3 (some .int) ({ frames := 1, cells := 0, slots := 0, locals := 21 }) [.ref x, .int a0, .int b0] [(x, .inr (11, [.ref tp, .ref rd, .ref im, .ref mk, .ref sl, .ref ac, .ref cl, .ref xhb, .ref rs, .ref sd, .ref cr, .ref xhl, .ref df])), (xhl, .inr (5, [.int 0, .int 0, .int 0, .int 0, .int 0, .int 0, .long 0, .ref ha1, .ref ha2, .ref ha3, .ref ha4, .ref ha5, .ref ha6, .ref ha7, .ref ha8, .ref hc]))] (QI G (fun r (u : Unit) => r = (-2)) (fun (u : Unit) => [])) := by
  refine ent (by decide) (Nat.le_of_ble_eq_true rfl) ?_
  intro p e s m args below meth c hx hb hr hml hts hown hlocks hin A hA hK hO hP hD hS ls hl
  have hown : s.vm.findClass RX11 = some m.cls := hown
  have hl : lv_has ls 3 [(0, .ref x), (1, .int a0), (2, .int b0)] := hl
  have C0 : Cx p s m args c cX11_behind 3 RX11 G t := ⟨hx, hb, hml, hown, hts, hK, hO⟩
  refine lv_aload_n hx hb dX11_behind_0 rfl (lv_at hl 0 rfl) ?_
  refine gf hx hb hts hown hK hP 0 inT11 rfl rfl 11 (by decide) tw2_138 rfl dX11_behind_1 ?_
  refine lv_iload_n hx hb dX11_behind_4 rfl (lv_at hl 1 rfl) ?_
  refine goI (rnV C0 (c_hasExit l G t xhl ha1 ha2 ha3 ha4 ha5 ha6 ha7 ha8 hc a0) lkX11_141 ⟨by decide, by decide⟩ (hP.sub (ws' := [(xhl, .inr (5, [.int 0, .int 0, .int 0, .int 0, .int 0, .int 0, .long 0, .ref ha1, .ref ha2, .ref ha3, .ref ha4, .ref ha5, .ref ha6, .ref ha7, .ref ha8, .ref hc]))]) [1] rfl) (hD.sub (ws' := [(xhl, .inr (5, [.int 0, .int 0, .int 0, .int 0, .int 0, .int 0, .long 0, .ref ha1, .ref ha2, .ref ha3, .ref ha4, .ref ha5, .ref ha6, .ref ha7, .ref ha8, .ref hc]))]) [1] (by decide) rfl) 0 5 rfl rfl rfl rfl hl.1 (rest := []) rfl (Nat.le_of_ble_eq_true rfl) dX11_behind_5 ⟨by decide, by decide⟩) hP hD hS hA [1] [0] (wr := [(x, .inr (11, [.ref tp, .ref rd, .ref im, .ref mk, .ref sl, .ref ac, .ref cl, .ref xhb, .ref rs, .ref sd, .ref cr, .ref xhl, .ref df]))]) rfl rfl (by decide) (by decide) (fun r_1 u H locs h_2 hP hD hS => ?_)
  have hP : va_P G vwCl [(x, .inr (11, [.ref tp, .ref rd, .ref im, .ref mk, .ref sl, .ref ac, .ref cl, .ref xhb, .ref rs, .ref sd, .ref cr, .ref xhl, .ref df])), (xhl, .inr (5, [.int 0, .int 0, .int 0, .int 0, .int 0, .int 0, .long 0, .ref ha1, .ref ha2, .ref ha3, .ref ha4, .ref ha5, .ref ha6, .ref ha7, .ref ha8, .ref hc]))] H := hP
  have hD : va_D A [(x, .inr (11, [.ref tp, .ref rd, .ref im, .ref mk, .ref sl, .ref ac, .ref cl, .ref xhb, .ref rs, .ref sd, .ref cr, .ref xhl, .ref df])), (xhl, .inr (5, [.int 0, .int 0, .int 0, .int 0, .int 0, .int 0, .long 0, .ref ha1, .ref ha2, .ref ha3, .ref ha4, .ref ha5, .ref ha6, .ref ha7, .ref ha8, .ref hc]))] := hD
  refine W.widen (k := 0) (n := 0) (Nat.le_of_ble_eq_true rfl) (Nat.le_of_ble_eq_true rfl) ?_
  obtain rfl : r_1 = 0 := h_2
  refine lv_if_eq (tgt := 18) hx hb dX11_behind_8 (by decide) (fun _ => ?_) (fun c_3 => absurd (by decide) c_3)
  refine lv_bipush (v := (-2)) hx hb dX11_behind_18 (by decide) ?_
  refine W.widen (k := 0) (n := 0) (by decide) (by decide) ?_
  exact rtI hx hb hr hlocks hS () (rfl) (hP.sub [] rfl) (hD.sub [] (by decide) rfl) dX11_behind_20

set_option maxHeartbeats 4000000 in
set_option maxRecDepth 100000 in
theorem x_leads (l : Launch) (G : va_G) (t : Nat → ClassId) (x : Nat) (tp : Nat) (rd : Nat) (im : Nat) (mk : Nat) (sl : Nat) (ac : Nat) (cl : Nat) (xhb : Nat) (rs : Nat) (sd : Nat) (cr : Nat) (xhl : Nat) (df : Nat) (ha1 : Nat) (ha2 : Nat) (ha3 : Nat) (ha4 : Nat) (ha5 : Nat) (ha6 : Nat) (ha7 : Nat) (ha8 : Nat) (hc : Nat) (a0 : Int32) (b0 : Int32) : Ct l G t yX11_leads cX11_leads 3 (some .int) ({ frames := 1, cells := 0, slots := 0, locals := 20 }) [.ref x, .int a0, .int b0] [(x, .inr (11, [.ref tp, .ref rd, .ref im, .ref mk, .ref sl, .ref ac, .ref cl, .ref xhb, .ref rs, .ref sd, .ref cr, .ref xhl, .ref df])), (xhl, .inr (5, [.int 0, .int 0, .int 0, .int 0, .int 0, .int 0, .long 0, .ref ha1, .ref ha2, .ref ha3, .ref ha4, .ref ha5, .ref ha6, .ref ha7, .ref ha8, .ref hc]))] (QI G (fun r (u : Unit) => r = (-2)) (fun (u : Unit) => [])) := by
  refine ent (by decide) (Nat.le_of_ble_eq_true rfl) ?_
  intro p e s m args below meth c hx hb hr hml hts hown hlocks hin A hA hK hO hP hD hS ls hl
  have hown : s.vm.findClass RX11 = some m.cls := hown
  have hl : lv_has ls 3 [(0, .ref x), (1, .int a0), (2, .int b0)] := hl
  have C0 : Cx p s m args c cX11_leads 3 RX11 G t := ⟨hx, hb, hml, hown, hts, hK, hO⟩
  refine lv_aload_n hx hb dX11_leads_0 rfl (lv_at hl 0 rfl) ?_
  refine gf hx hb hts hown hK hP 0 inT11 rfl rfl 11 (by decide) tw2_138 rfl dX11_leads_1 ?_
  refine goI (rnV C0 (c_isTold l G t xhl ha1 ha2 ha3 ha4 ha5 ha6 ha7 ha8 hc) lkX11_179 ⟨by decide, by decide⟩ (hP.sub (ws' := [(xhl, .inr (5, [.int 0, .int 0, .int 0, .int 0, .int 0, .int 0, .long 0, .ref ha1, .ref ha2, .ref ha3, .ref ha4, .ref ha5, .ref ha6, .ref ha7, .ref ha8, .ref hc]))]) [1] rfl) (hD.sub (ws' := [(xhl, .inr (5, [.int 0, .int 0, .int 0, .int 0, .int 0, .int 0, .long 0, .ref ha1, .ref ha2, .ref ha3, .ref ha4, .ref ha5, .ref ha6, .ref ha7, .ref ha8, .ref hc]))]) [1] (by decide) rfl) 0 5 rfl rfl rfl rfl hl.1 (rest := []) rfl (Nat.le_of_ble_eq_true rfl) dX11_leads_4 ⟨by decide, by decide⟩) hP hD hS hA [1] [0] (wr := [(x, .inr (11, [.ref tp, .ref rd, .ref im, .ref mk, .ref sl, .ref ac, .ref cl, .ref xhb, .ref rs, .ref sd, .ref cr, .ref xhl, .ref df]))]) rfl rfl (by decide) (by decide) (fun r_1 u H locs h_2 hP hD hS => ?_)
  have hP : va_P G vwCl [(x, .inr (11, [.ref tp, .ref rd, .ref im, .ref mk, .ref sl, .ref ac, .ref cl, .ref xhb, .ref rs, .ref sd, .ref cr, .ref xhl, .ref df])), (xhl, .inr (5, [.int 0, .int 0, .int 0, .int 0, .int 0, .int 0, .long 0, .ref ha1, .ref ha2, .ref ha3, .ref ha4, .ref ha5, .ref ha6, .ref ha7, .ref ha8, .ref hc]))] H := hP
  have hD : va_D A [(x, .inr (11, [.ref tp, .ref rd, .ref im, .ref mk, .ref sl, .ref ac, .ref cl, .ref xhb, .ref rs, .ref sd, .ref cr, .ref xhl, .ref df])), (xhl, .inr (5, [.int 0, .int 0, .int 0, .int 0, .int 0, .int 0, .long 0, .ref ha1, .ref ha2, .ref ha3, .ref ha4, .ref ha5, .ref ha6, .ref ha7, .ref ha8, .ref hc]))] := hD
  refine W.widen (k := 0) (n := 0) (Nat.le_of_ble_eq_true rfl) (Nat.le_of_ble_eq_true rfl) ?_
  obtain rfl : r_1 = 0 := h_2
  refine lv_if_eq (tgt := 24) hx hb dX11_leads_7 (by decide) (fun _ => ?_) (fun c_3 => absurd (by decide) c_3)
  refine lv_bipush (v := (-2)) hx hb dX11_leads_24 (by decide) ?_
  refine W.widen (k := 0) (n := 0) (by decide) (by decide) ?_
  exact rtI hx hb hr hlocks hS () (rfl) (hP.sub [] rfl) (hD.sub [] (by decide) rfl) dX11_leads_26

set_option maxHeartbeats 4000000 in
set_option maxRecDepth 100000 in
theorem x_doubles (l : Launch) (G : va_G) (t : Nat → ClassId) (x : Nat) (tp : Nat) (rd : Nat) (im : Nat) (mk : Nat) (sl : Nat) (ac : Nat) (cl : Nat) (xhb : Nat) (rs : Nat) (sd : Nat) (cr : Nat) (xhl : Nat) (df : Nat) (ha1 : Nat) (ha2 : Nat) (ha3 : Nat) (ha4 : Nat) (ha5 : Nat) (ha6 : Nat) (ha7 : Nat) (ha8 : Nat) (hc : Nat) (a0 : Int32) : Ct l G t yX11_doubles cX11_doubles 2 (some .int) ({ frames := 1, cells := 0, slots := 0, locals := 20 }) [.ref x, .int a0] [(x, .inr (11, [.ref tp, .ref rd, .ref im, .ref mk, .ref sl, .ref ac, .ref cl, .ref xhb, .ref rs, .ref sd, .ref cr, .ref xhl, .ref df])), (xhl, .inr (5, [.int 0, .int 0, .int 0, .int 0, .int 0, .int 0, .long 0, .ref ha1, .ref ha2, .ref ha3, .ref ha4, .ref ha5, .ref ha6, .ref ha7, .ref ha8, .ref hc]))] (QI G (fun r (u : Unit) => r = (-2)) (fun (u : Unit) => [])) := by
  refine ent (by decide) (Nat.le_of_ble_eq_true rfl) ?_
  intro p e s m args below meth c hx hb hr hml hts hown hlocks hin A hA hK hO hP hD hS ls hl
  have hown : s.vm.findClass RX11 = some m.cls := hown
  have hl : lv_has ls 2 [(0, .ref x), (1, .int a0)] := hl
  have C0 : Cx p s m args c cX11_doubles 2 RX11 G t := ⟨hx, hb, hml, hown, hts, hK, hO⟩
  refine lv_aload_n hx hb dX11_doubles_0 rfl (lv_at hl 0 rfl) ?_
  refine gf hx hb hts hown hK hP 0 inT11 rfl rfl 11 (by decide) tw2_138 rfl dX11_doubles_1 ?_
  refine goI (rnV C0 (c_isTold l G t xhl ha1 ha2 ha3 ha4 ha5 ha6 ha7 ha8 hc) lkX11_179 ⟨by decide, by decide⟩ (hP.sub (ws' := [(xhl, .inr (5, [.int 0, .int 0, .int 0, .int 0, .int 0, .int 0, .long 0, .ref ha1, .ref ha2, .ref ha3, .ref ha4, .ref ha5, .ref ha6, .ref ha7, .ref ha8, .ref hc]))]) [1] rfl) (hD.sub (ws' := [(xhl, .inr (5, [.int 0, .int 0, .int 0, .int 0, .int 0, .int 0, .long 0, .ref ha1, .ref ha2, .ref ha3, .ref ha4, .ref ha5, .ref ha6, .ref ha7, .ref ha8, .ref hc]))]) [1] (by decide) rfl) 0 5 rfl rfl rfl rfl hl.1 (rest := []) rfl (Nat.le_of_ble_eq_true rfl) dX11_doubles_4 ⟨by decide, by decide⟩) hP hD hS hA [1] [0] (wr := [(x, .inr (11, [.ref tp, .ref rd, .ref im, .ref mk, .ref sl, .ref ac, .ref cl, .ref xhb, .ref rs, .ref sd, .ref cr, .ref xhl, .ref df]))]) rfl rfl (by decide) (by decide) (fun r_1 u H locs h_2 hP hD hS => ?_)
  have hP : va_P G vwCl [(x, .inr (11, [.ref tp, .ref rd, .ref im, .ref mk, .ref sl, .ref ac, .ref cl, .ref xhb, .ref rs, .ref sd, .ref cr, .ref xhl, .ref df])), (xhl, .inr (5, [.int 0, .int 0, .int 0, .int 0, .int 0, .int 0, .long 0, .ref ha1, .ref ha2, .ref ha3, .ref ha4, .ref ha5, .ref ha6, .ref ha7, .ref ha8, .ref hc]))] H := hP
  have hD : va_D A [(x, .inr (11, [.ref tp, .ref rd, .ref im, .ref mk, .ref sl, .ref ac, .ref cl, .ref xhb, .ref rs, .ref sd, .ref cr, .ref xhl, .ref df])), (xhl, .inr (5, [.int 0, .int 0, .int 0, .int 0, .int 0, .int 0, .long 0, .ref ha1, .ref ha2, .ref ha3, .ref ha4, .ref ha5, .ref ha6, .ref ha7, .ref ha8, .ref hc]))] := hD
  refine W.widen (k := 0) (n := 0) (Nat.le_of_ble_eq_true rfl) (Nat.le_of_ble_eq_true rfl) ?_
  obtain rfl : r_1 = 0 := h_2
  refine lv_if_eq (tgt := 17) hx hb dX11_doubles_7 (by decide) (fun _ => ?_) (fun c_3 => absurd (by decide) c_3)
  refine lv_bipush (v := (-2)) hx hb dX11_doubles_17 (by decide) ?_
  refine W.widen (k := 0) (n := 0) (by decide) (by decide) ?_
  exact rtI hx hb hr hlocks hS () (rfl) (hP.sub [] rfl) (hD.sub [] (by decide) rfl) dX11_doubles_19

set_option maxHeartbeats 4000000 in
set_option maxRecDepth 100000 in
theorem x_slip (l : Launch) (G : va_G) (t : Nat → ClassId) (x : Nat) (tp : Nat) (rd : Nat) (im : Nat) (mk : Nat) (sl : Nat) (ac : Nat) (cl : Nat) (xhb : Nat) (rs : Nat) (sd : Nat) (cr : Nat) (xhl : Nat) (df : Nat) (ha1 : Nat) (ha2 : Nat) (ha3 : Nat) (ha4 : Nat) (ha5 : Nat) (ha6 : Nat) (ha7 : Nat) (ha8 : Nat) (hc : Nat) : Ct l G t yX11_slip cX11_slip 2 (some .int) ({ frames := 1, cells := 0, slots := 0, locals := 20 }) [.ref x] [(x, .inr (11, [.ref tp, .ref rd, .ref im, .ref mk, .ref sl, .ref ac, .ref cl, .ref xhb, .ref rs, .ref sd, .ref cr, .ref xhl, .ref df])), (xhl, .inr (5, [.int 0, .int 0, .int 0, .int 0, .int 0, .int 0, .long 0, .ref ha1, .ref ha2, .ref ha3, .ref ha4, .ref ha5, .ref ha6, .ref ha7, .ref ha8, .ref hc]))] (QI G (fun r (u : Unit) => r = (-2)) (fun (u : Unit) => [])) := by
  refine ent (by decide) (Nat.le_of_ble_eq_true rfl) ?_
  intro p e s m args below meth c hx hb hr hml hts hown hlocks hin A hA hK hO hP hD hS ls hl
  have hown : s.vm.findClass RX11 = some m.cls := hown
  have hl : lv_has ls 2 [(0, .ref x)] := hl
  have C0 : Cx p s m args c cX11_slip 2 RX11 G t := ⟨hx, hb, hml, hown, hts, hK, hO⟩
  refine lv_aload_n hx hb dX11_slip_0 rfl (lv_at hl 0 rfl) ?_
  refine gf hx hb hts hown hK hP 0 inT11 rfl rfl 11 (by decide) tw2_138 rfl dX11_slip_1 ?_
  refine goI (rnV C0 (c_isTold l G t xhl ha1 ha2 ha3 ha4 ha5 ha6 ha7 ha8 hc) lkX11_179 ⟨by decide, by decide⟩ (hP.sub (ws' := [(xhl, .inr (5, [.int 0, .int 0, .int 0, .int 0, .int 0, .int 0, .long 0, .ref ha1, .ref ha2, .ref ha3, .ref ha4, .ref ha5, .ref ha6, .ref ha7, .ref ha8, .ref hc]))]) [1] rfl) (hD.sub (ws' := [(xhl, .inr (5, [.int 0, .int 0, .int 0, .int 0, .int 0, .int 0, .long 0, .ref ha1, .ref ha2, .ref ha3, .ref ha4, .ref ha5, .ref ha6, .ref ha7, .ref ha8, .ref hc]))]) [1] (by decide) rfl) 0 5 rfl rfl rfl rfl hl.1 (rest := []) rfl (Nat.le_of_ble_eq_true rfl) dX11_slip_4 ⟨by decide, by decide⟩) hP hD hS hA [1] [0] (wr := [(x, .inr (11, [.ref tp, .ref rd, .ref im, .ref mk, .ref sl, .ref ac, .ref cl, .ref xhb, .ref rs, .ref sd, .ref cr, .ref xhl, .ref df]))]) rfl rfl (by decide) (by decide) (fun r_1 u H locs h_2 hP hD hS => ?_)
  have hP : va_P G vwCl [(x, .inr (11, [.ref tp, .ref rd, .ref im, .ref mk, .ref sl, .ref ac, .ref cl, .ref xhb, .ref rs, .ref sd, .ref cr, .ref xhl, .ref df])), (xhl, .inr (5, [.int 0, .int 0, .int 0, .int 0, .int 0, .int 0, .long 0, .ref ha1, .ref ha2, .ref ha3, .ref ha4, .ref ha5, .ref ha6, .ref ha7, .ref ha8, .ref hc]))] H := hP
  have hD : va_D A [(x, .inr (11, [.ref tp, .ref rd, .ref im, .ref mk, .ref sl, .ref ac, .ref cl, .ref xhb, .ref rs, .ref sd, .ref cr, .ref xhl, .ref df])), (xhl, .inr (5, [.int 0, .int 0, .int 0, .int 0, .int 0, .int 0, .long 0, .ref ha1, .ref ha2, .ref ha3, .ref ha4, .ref ha5, .ref ha6, .ref ha7, .ref ha8, .ref hc]))] := hD
  refine W.widen (k := 0) (n := 0) (Nat.le_of_ble_eq_true rfl) (Nat.le_of_ble_eq_true rfl) ?_
  obtain rfl : r_1 = 0 := h_2
  refine lv_if_ne (tgt := 13) hx hb dX11_slip_7 (by decide) (fun c_3 => absurd (by decide) c_3) (fun _ => ?_)
  refine lv_bipush (v := (-2)) hx hb dX11_slip_10 (by decide) ?_
  refine W.widen (k := 0) (n := 0) (by decide) (by decide) ?_
  exact rtI hx hb hr hlocks hS () (rfl) (hP.sub [] rfl) (hD.sub [] (by decide) rfl) dX11_slip_12

set_option maxHeartbeats 4000000 in
set_option maxRecDepth 100000 in
theorem x_round (l : Launch) (G : va_G) (t : Nat → ClassId) (x : Nat) (tp : Nat) (rd : Nat) (im : Nat) (mk : Nat) (sl : Nat) (ac : Nat) (cl : Nat) (xhb : Nat) (rs : Nat) (sd : Nat) (cr : Nat) (xhl : Nat) (df : Nat) (ha1 : Nat) (ha2 : Nat) (ha3 : Nat) (ha4 : Nat) (ha5 : Nat) (ha6 : Nat) (ha7 : Nat) (ha8 : Nat) (hc : Nat) : Ct l G t yX11_round cX11_round 2 (some .int) ({ frames := 1, cells := 0, slots := 0, locals := 20 }) [.ref x] [(x, .inr (11, [.ref tp, .ref rd, .ref im, .ref mk, .ref sl, .ref ac, .ref cl, .ref xhb, .ref rs, .ref sd, .ref cr, .ref xhl, .ref df])), (xhl, .inr (5, [.int 0, .int 0, .int 0, .int 0, .int 0, .int 0, .long 0, .ref ha1, .ref ha2, .ref ha3, .ref ha4, .ref ha5, .ref ha6, .ref ha7, .ref ha8, .ref hc]))] (QI G (fun r (u : Unit) => r = (-2)) (fun (u : Unit) => [])) := by
  refine ent (by decide) (Nat.le_of_ble_eq_true rfl) ?_
  intro p e s m args below meth c hx hb hr hml hts hown hlocks hin A hA hK hO hP hD hS ls hl
  have hown : s.vm.findClass RX11 = some m.cls := hown
  have hl : lv_has ls 2 [(0, .ref x)] := hl
  have C0 : Cx p s m args c cX11_round 2 RX11 G t := ⟨hx, hb, hml, hown, hts, hK, hO⟩
  refine lv_aload_n hx hb dX11_round_0 rfl (lv_at hl 0 rfl) ?_
  refine gf hx hb hts hown hK hP 0 inT11 rfl rfl 11 (by decide) tw2_138 rfl dX11_round_1 ?_
  refine goI (rnV C0 (c_isTold l G t xhl ha1 ha2 ha3 ha4 ha5 ha6 ha7 ha8 hc) lkX11_179 ⟨by decide, by decide⟩ (hP.sub (ws' := [(xhl, .inr (5, [.int 0, .int 0, .int 0, .int 0, .int 0, .int 0, .long 0, .ref ha1, .ref ha2, .ref ha3, .ref ha4, .ref ha5, .ref ha6, .ref ha7, .ref ha8, .ref hc]))]) [1] rfl) (hD.sub (ws' := [(xhl, .inr (5, [.int 0, .int 0, .int 0, .int 0, .int 0, .int 0, .long 0, .ref ha1, .ref ha2, .ref ha3, .ref ha4, .ref ha5, .ref ha6, .ref ha7, .ref ha8, .ref hc]))]) [1] (by decide) rfl) 0 5 rfl rfl rfl rfl hl.1 (rest := []) rfl (Nat.le_of_ble_eq_true rfl) dX11_round_4 ⟨by decide, by decide⟩) hP hD hS hA [1] [0] (wr := [(x, .inr (11, [.ref tp, .ref rd, .ref im, .ref mk, .ref sl, .ref ac, .ref cl, .ref xhb, .ref rs, .ref sd, .ref cr, .ref xhl, .ref df]))]) rfl rfl (by decide) (by decide) (fun r_1 u H locs h_2 hP hD hS => ?_)
  have hP : va_P G vwCl [(x, .inr (11, [.ref tp, .ref rd, .ref im, .ref mk, .ref sl, .ref ac, .ref cl, .ref xhb, .ref rs, .ref sd, .ref cr, .ref xhl, .ref df])), (xhl, .inr (5, [.int 0, .int 0, .int 0, .int 0, .int 0, .int 0, .long 0, .ref ha1, .ref ha2, .ref ha3, .ref ha4, .ref ha5, .ref ha6, .ref ha7, .ref ha8, .ref hc]))] H := hP
  have hD : va_D A [(x, .inr (11, [.ref tp, .ref rd, .ref im, .ref mk, .ref sl, .ref ac, .ref cl, .ref xhb, .ref rs, .ref sd, .ref cr, .ref xhl, .ref df])), (xhl, .inr (5, [.int 0, .int 0, .int 0, .int 0, .int 0, .int 0, .long 0, .ref ha1, .ref ha2, .ref ha3, .ref ha4, .ref ha5, .ref ha6, .ref ha7, .ref ha8, .ref hc]))] := hD
  refine W.widen (k := 0) (n := 0) (Nat.le_of_ble_eq_true rfl) (Nat.le_of_ble_eq_true rfl) ?_
  obtain rfl : r_1 = 0 := h_2
  refine lv_if_ne (tgt := 13) hx hb dX11_round_7 (by decide) (fun c_3 => absurd (by decide) c_3) (fun _ => ?_)
  refine lv_bipush (v := (-2)) hx hb dX11_round_10 (by decide) ?_
  refine W.widen (k := 0) (n := 0) (by decide) (by decide) ?_
  exact rtI hx hb hr hlocks hS () (rfl) (hP.sub [] rfl) (hD.sub [] (by decide) rfl) dX11_round_12

set_option maxHeartbeats 4000000 in
set_option maxRecDepth 100000 in
theorem x_again (l : Launch) (G : va_G) (t : Nat → ClassId) (x : Nat) (tp : Nat) (rd : Nat) (im : Nat) (mk : Nat) (sl : Nat) (ac : Nat) (cl : Nat) (xhb : Nat) (rs : Nat) (sd : Nat) (cr : Nat) (xhl : Nat) (df : Nat) (ha1 : Nat) (ha2 : Nat) (ha3 : Nat) (ha4 : Nat) (ha5 : Nat) (ha6 : Nat) (ha7 : Nat) (ha8 : Nat) (hc : Nat) : Ct l G t yX11_again cX11_again 2 (some .int) ({ frames := 1, cells := 0, slots := 0, locals := 20 }) [.ref x] [(x, .inr (11, [.ref tp, .ref rd, .ref im, .ref mk, .ref sl, .ref ac, .ref cl, .ref xhb, .ref rs, .ref sd, .ref cr, .ref xhl, .ref df])), (xhl, .inr (5, [.int 0, .int 0, .int 0, .int 0, .int 0, .int 0, .long 0, .ref ha1, .ref ha2, .ref ha3, .ref ha4, .ref ha5, .ref ha6, .ref ha7, .ref ha8, .ref hc]))] (QI G (fun r (u : Unit) => r = (-2)) (fun (u : Unit) => [])) := by
  refine ent (by decide) (Nat.le_of_ble_eq_true rfl) ?_
  intro p e s m args below meth c hx hb hr hml hts hown hlocks hin A hA hK hO hP hD hS ls hl
  have hown : s.vm.findClass RX11 = some m.cls := hown
  have hl : lv_has ls 2 [(0, .ref x)] := hl
  have C0 : Cx p s m args c cX11_again 2 RX11 G t := ⟨hx, hb, hml, hown, hts, hK, hO⟩
  refine lv_aload_n hx hb dX11_again_0 rfl (lv_at hl 0 rfl) ?_
  refine gf hx hb hts hown hK hP 0 inT11 rfl rfl 11 (by decide) tw2_138 rfl dX11_again_1 ?_
  refine goI (rnV C0 (c_isTold l G t xhl ha1 ha2 ha3 ha4 ha5 ha6 ha7 ha8 hc) lkX11_179 ⟨by decide, by decide⟩ (hP.sub (ws' := [(xhl, .inr (5, [.int 0, .int 0, .int 0, .int 0, .int 0, .int 0, .long 0, .ref ha1, .ref ha2, .ref ha3, .ref ha4, .ref ha5, .ref ha6, .ref ha7, .ref ha8, .ref hc]))]) [1] rfl) (hD.sub (ws' := [(xhl, .inr (5, [.int 0, .int 0, .int 0, .int 0, .int 0, .int 0, .long 0, .ref ha1, .ref ha2, .ref ha3, .ref ha4, .ref ha5, .ref ha6, .ref ha7, .ref ha8, .ref hc]))]) [1] (by decide) rfl) 0 5 rfl rfl rfl rfl hl.1 (rest := []) rfl (Nat.le_of_ble_eq_true rfl) dX11_again_4 ⟨by decide, by decide⟩) hP hD hS hA [1] [0] (wr := [(x, .inr (11, [.ref tp, .ref rd, .ref im, .ref mk, .ref sl, .ref ac, .ref cl, .ref xhb, .ref rs, .ref sd, .ref cr, .ref xhl, .ref df]))]) rfl rfl (by decide) (by decide) (fun r_1 u H locs h_2 hP hD hS => ?_)
  have hP : va_P G vwCl [(x, .inr (11, [.ref tp, .ref rd, .ref im, .ref mk, .ref sl, .ref ac, .ref cl, .ref xhb, .ref rs, .ref sd, .ref cr, .ref xhl, .ref df])), (xhl, .inr (5, [.int 0, .int 0, .int 0, .int 0, .int 0, .int 0, .long 0, .ref ha1, .ref ha2, .ref ha3, .ref ha4, .ref ha5, .ref ha6, .ref ha7, .ref ha8, .ref hc]))] H := hP
  have hD : va_D A [(x, .inr (11, [.ref tp, .ref rd, .ref im, .ref mk, .ref sl, .ref ac, .ref cl, .ref xhb, .ref rs, .ref sd, .ref cr, .ref xhl, .ref df])), (xhl, .inr (5, [.int 0, .int 0, .int 0, .int 0, .int 0, .int 0, .long 0, .ref ha1, .ref ha2, .ref ha3, .ref ha4, .ref ha5, .ref ha6, .ref ha7, .ref ha8, .ref hc]))] := hD
  refine W.widen (k := 0) (n := 0) (Nat.le_of_ble_eq_true rfl) (Nat.le_of_ble_eq_true rfl) ?_
  obtain rfl : r_1 = 0 := h_2
  refine lv_if_ne (tgt := 13) hx hb dX11_again_7 (by decide) (fun c_3 => absurd (by decide) c_3) (fun _ => ?_)
  refine lv_bipush (v := (-2)) hx hb dX11_again_10 (by decide) ?_
  refine W.widen (k := 0) (n := 0) (by decide) (by decide) ?_
  exact rtI hx hb hr hlocks hS () (rfl) (hP.sub [] rfl) (hD.sub [] (by decide) rfl) dX11_again_12

set_option maxHeartbeats 4000000 in
set_option maxRecDepth 100000 in
theorem x_next (l : Launch) (G : va_G) (t : Nat → ClassId) (x : Nat) (tp : Nat) (rd : Nat) (im : Nat) (mk : Nat) (sl : Nat) (ac : Nat) (cl : Nat) (xhb : Nat) (rs : Nat) (sd : Nat) (cr : Nat) (xhl : Nat) (df : Nat) (ha1 : Nat) (ha2 : Nat) (ha3 : Nat) (ha4 : Nat) (ha5 : Nat) (ha6 : Nat) (ha7 : Nat) (ha8 : Nat) (hc : Nat) (a0 : Int32) (b0 : Int32) (c0 : Int32) : Ct l G t yX11_next cX11_next 5 (some .int) ({ frames := 1, cells := 0, slots := 0, locals := 21 }) [.ref x, .int a0, .int b0, .int c0] [(x, .inr (11, [.ref tp, .ref rd, .ref im, .ref mk, .ref sl, .ref ac, .ref cl, .ref xhb, .ref rs, .ref sd, .ref cr, .ref xhl, .ref df])), (xhl, .inr (5, [.int 0, .int 0, .int 0, .int 0, .int 0, .int 0, .long 0, .ref ha1, .ref ha2, .ref ha3, .ref ha4, .ref ha5, .ref ha6, .ref ha7, .ref ha8, .ref hc]))] (QI G (fun r (u : Unit) => r = (-2)) (fun (u : Unit) => [])) := by
  refine ent (by decide) (Nat.le_of_ble_eq_true rfl) ?_
  intro p e s m args below meth c hx hb hr hml hts hown hlocks hin A hA hK hO hP hD hS ls hl
  have hown : s.vm.findClass RX11 = some m.cls := hown
  have hl : lv_has ls 5 [(0, .ref x), (1, .int a0), (2, .int b0), (3, .int c0)] := hl
  have C0 : Cx p s m args c cX11_next 5 RX11 G t := ⟨hx, hb, hml, hown, hts, hK, hO⟩
  refine lv_aload_n hx hb dX11_next_0 rfl (lv_at hl 0 rfl) ?_
  refine gf hx hb hts hown hK hP 0 inT11 rfl rfl 11 (by decide) tw2_138 rfl dX11_next_1 ?_
  refine lv_iload_n hx hb dX11_next_4 rfl (lv_at hl 1 rfl) ?_
  refine goI (rnV C0 (c_hasExit l G t xhl ha1 ha2 ha3 ha4 ha5 ha6 ha7 ha8 hc a0) lkX11_141 ⟨by decide, by decide⟩ (hP.sub (ws' := [(xhl, .inr (5, [.int 0, .int 0, .int 0, .int 0, .int 0, .int 0, .long 0, .ref ha1, .ref ha2, .ref ha3, .ref ha4, .ref ha5, .ref ha6, .ref ha7, .ref ha8, .ref hc]))]) [1] rfl) (hD.sub (ws' := [(xhl, .inr (5, [.int 0, .int 0, .int 0, .int 0, .int 0, .int 0, .long 0, .ref ha1, .ref ha2, .ref ha3, .ref ha4, .ref ha5, .ref ha6, .ref ha7, .ref ha8, .ref hc]))]) [1] (by decide) rfl) 0 5 rfl rfl rfl rfl hl.1 (rest := []) rfl (Nat.le_of_ble_eq_true rfl) dX11_next_5 ⟨by decide, by decide⟩) hP hD hS hA [1] [0] (wr := [(x, .inr (11, [.ref tp, .ref rd, .ref im, .ref mk, .ref sl, .ref ac, .ref cl, .ref xhb, .ref rs, .ref sd, .ref cr, .ref xhl, .ref df]))]) rfl rfl (by decide) (by decide) (fun r_1 u H locs h_2 hP hD hS => ?_)
  have hP : va_P G vwCl [(x, .inr (11, [.ref tp, .ref rd, .ref im, .ref mk, .ref sl, .ref ac, .ref cl, .ref xhb, .ref rs, .ref sd, .ref cr, .ref xhl, .ref df])), (xhl, .inr (5, [.int 0, .int 0, .int 0, .int 0, .int 0, .int 0, .long 0, .ref ha1, .ref ha2, .ref ha3, .ref ha4, .ref ha5, .ref ha6, .ref ha7, .ref ha8, .ref hc]))] H := hP
  have hD : va_D A [(x, .inr (11, [.ref tp, .ref rd, .ref im, .ref mk, .ref sl, .ref ac, .ref cl, .ref xhb, .ref rs, .ref sd, .ref cr, .ref xhl, .ref df])), (xhl, .inr (5, [.int 0, .int 0, .int 0, .int 0, .int 0, .int 0, .long 0, .ref ha1, .ref ha2, .ref ha3, .ref ha4, .ref ha5, .ref ha6, .ref ha7, .ref ha8, .ref hc]))] := hD
  refine W.widen (k := 0) (n := 0) (Nat.le_of_ble_eq_true rfl) (Nat.le_of_ble_eq_true rfl) ?_
  obtain rfl : r_1 = 0 := h_2
  refine lv_if_eq (tgt := 29) hx hb dX11_next_8 (by decide) (fun _ => ?_) (fun c_3 => absurd (by decide) c_3)
  refine lv_bipush (v := (-2)) hx hb dX11_next_29 (by decide) ?_
  refine W.widen (k := 0) (n := 0) (by decide) (by decide) ?_
  exact rtI hx hb hr hlocks hS () (rfl) (hP.sub [] rfl) (hD.sub [] (by decide) rfl) dX11_next_31

set_option maxHeartbeats 4000000 in
set_option maxRecDepth 100000 in
theorem x_sees (l : Launch) (G : va_G) (t : Nat → ClassId) (x : Nat) (tp : Nat) (rd : Nat) (im : Nat) (mk : Nat) (sl : Nat) (ac : Nat) (cl : Nat) (xhb : Nat) (rs : Nat) (sd : Nat) (cr : Nat) (xhl : Nat) (df : Nat) (ha1 : Nat) (ha2 : Nat) (ha3 : Nat) (ha4 : Nat) (ha5 : Nat) (ha6 : Nat) (ha7 : Nat) (ha8 : Nat) (hc : Nat) (a0 : Int32) : Ct l G t yX11_sees cX11_sees 4 (some .int) ({ frames := 1, cells := 0, slots := 0, locals := 21 }) [.ref x, .int a0] [(x, .inr (11, [.ref tp, .ref rd, .ref im, .ref mk, .ref sl, .ref ac, .ref cl, .ref xhb, .ref rs, .ref sd, .ref cr, .ref xhl, .ref df])), (xhl, .inr (5, [.int 0, .int 0, .int 0, .int 0, .int 0, .int 0, .long 0, .ref ha1, .ref ha2, .ref ha3, .ref ha4, .ref ha5, .ref ha6, .ref ha7, .ref ha8, .ref hc]))] (QI G (fun r (u : Unit) => r = (-2)) (fun (u : Unit) => [])) := by
  refine ent (by decide) (Nat.le_of_ble_eq_true rfl) ?_
  intro p e s m args below meth c hx hb hr hml hts hown hlocks hin A hA hK hO hP hD hS ls hl
  have hown : s.vm.findClass RX11 = some m.cls := hown
  have hl : lv_has ls 4 [(0, .ref x), (1, .int a0)] := hl
  have C0 : Cx p s m args c cX11_sees 4 RX11 G t := ⟨hx, hb, hml, hown, hts, hK, hO⟩
  refine lv_aload_n hx hb dX11_sees_0 rfl (lv_at hl 0 rfl) ?_
  refine gf hx hb hts hown hK hP 0 inT11 rfl rfl 11 (by decide) tw2_138 rfl dX11_sees_1 ?_
  refine lv_iload_n hx hb dX11_sees_4 rfl (lv_at hl 1 rfl) ?_
  refine goI (rnV C0 (c_hasExit l G t xhl ha1 ha2 ha3 ha4 ha5 ha6 ha7 ha8 hc a0) lkX11_141 ⟨by decide, by decide⟩ (hP.sub (ws' := [(xhl, .inr (5, [.int 0, .int 0, .int 0, .int 0, .int 0, .int 0, .long 0, .ref ha1, .ref ha2, .ref ha3, .ref ha4, .ref ha5, .ref ha6, .ref ha7, .ref ha8, .ref hc]))]) [1] rfl) (hD.sub (ws' := [(xhl, .inr (5, [.int 0, .int 0, .int 0, .int 0, .int 0, .int 0, .long 0, .ref ha1, .ref ha2, .ref ha3, .ref ha4, .ref ha5, .ref ha6, .ref ha7, .ref ha8, .ref hc]))]) [1] (by decide) rfl) 0 5 rfl rfl rfl rfl hl.1 (rest := []) rfl (Nat.le_of_ble_eq_true rfl) dX11_sees_5 ⟨by decide, by decide⟩) hP hD hS hA [1] [0] (wr := [(x, .inr (11, [.ref tp, .ref rd, .ref im, .ref mk, .ref sl, .ref ac, .ref cl, .ref xhb, .ref rs, .ref sd, .ref cr, .ref xhl, .ref df]))]) rfl rfl (by decide) (by decide) (fun r_1 u H locs h_2 hP hD hS => ?_)
  have hP : va_P G vwCl [(x, .inr (11, [.ref tp, .ref rd, .ref im, .ref mk, .ref sl, .ref ac, .ref cl, .ref xhb, .ref rs, .ref sd, .ref cr, .ref xhl, .ref df])), (xhl, .inr (5, [.int 0, .int 0, .int 0, .int 0, .int 0, .int 0, .long 0, .ref ha1, .ref ha2, .ref ha3, .ref ha4, .ref ha5, .ref ha6, .ref ha7, .ref ha8, .ref hc]))] H := hP
  have hD : va_D A [(x, .inr (11, [.ref tp, .ref rd, .ref im, .ref mk, .ref sl, .ref ac, .ref cl, .ref xhb, .ref rs, .ref sd, .ref cr, .ref xhl, .ref df])), (xhl, .inr (5, [.int 0, .int 0, .int 0, .int 0, .int 0, .int 0, .long 0, .ref ha1, .ref ha2, .ref ha3, .ref ha4, .ref ha5, .ref ha6, .ref ha7, .ref ha8, .ref hc]))] := hD
  refine W.widen (k := 0) (n := 0) (Nat.le_of_ble_eq_true rfl) (Nat.le_of_ble_eq_true rfl) ?_
  obtain rfl : r_1 = 0 := h_2
  refine lv_if_ne (tgt := 14) hx hb dX11_sees_8 (by decide) (fun c_3 => absurd (by decide) c_3) (fun _ => ?_)
  refine lv_bipush (v := (-2)) hx hb dX11_sees_11 (by decide) ?_
  refine W.widen (k := 0) (n := 0) (by decide) (by decide) ?_
  exact rtI hx hb hr hlocks hS () (rfl) (hP.sub [] rfl) (hD.sub [] (by decide) rfl) dX11_sees_13

set_option maxHeartbeats 4000000 in
set_option maxRecDepth 100000 in
theorem x_far (l : Launch) (G : va_G) (t : Nat → ClassId) (x : Nat) (tp : Nat) (rd : Nat) (im : Nat) (mk : Nat) (sl : Nat) (ac : Nat) (cl : Nat) (xhb : Nat) (rs : Nat) (sd : Nat) (cr : Nat) (xhl : Nat) (df : Nat) (ha1 : Nat) (ha2 : Nat) (ha3 : Nat) (ha4 : Nat) (ha5 : Nat) (ha6 : Nat) (ha7 : Nat) (ha8 : Nat) (hc : Nat) (a0 : Int32) (b0 : Int32) (c0 : Int32) : Ct l G t yX11_far cX11_far 4 (some .int) ({ frames := 1, cells := 0, slots := 0, locals := 22 }) [.ref x, .int a0, .int b0, .int c0] [(x, .inr (11, [.ref tp, .ref rd, .ref im, .ref mk, .ref sl, .ref ac, .ref cl, .ref xhb, .ref rs, .ref sd, .ref cr, .ref xhl, .ref df])), (xhl, .inr (5, [.int 0, .int 0, .int 0, .int 0, .int 0, .int 0, .long 0, .ref ha1, .ref ha2, .ref ha3, .ref ha4, .ref ha5, .ref ha6, .ref ha7, .ref ha8, .ref hc]))] (QI G (fun r (u : Unit) => r = (-2)) (fun (u : Unit) => [])) := by
  refine ent (by decide) (Nat.le_of_ble_eq_true rfl) ?_
  intro p e s m args below meth c hx hb hr hml hts hown hlocks hin A hA hK hO hP hD hS ls hl
  have hown : s.vm.findClass RX11 = some m.cls := hown
  have hl : lv_has ls 4 [(0, .ref x), (1, .int a0), (2, .int b0), (3, .int c0)] := hl
  have C0 : Cx p s m args c cX11_far 4 RX11 G t := ⟨hx, hb, hml, hown, hts, hK, hO⟩
  refine lv_aload_n hx hb dX11_far_0 rfl (lv_at hl 0 rfl) ?_
  refine gf hx hb hts hown hK hP 0 inT11 rfl rfl 11 (by decide) tw2_138 rfl dX11_far_1 ?_
  refine lv_iload_n hx hb dX11_far_4 rfl (lv_at hl 1 rfl) ?_
  refine lv_iload_n hx hb dX11_far_5 rfl (lv_at hl 2 rfl) ?_
  refine goI (rnV C0 (c_hasSeat l G t xhl ha1 ha2 ha3 ha4 ha5 ha6 ha7 ha8 hc a0 b0) lkX11_156 ⟨by decide, by decide⟩ (hP.sub (ws' := [(xhl, .inr (5, [.int 0, .int 0, .int 0, .int 0, .int 0, .int 0, .long 0, .ref ha1, .ref ha2, .ref ha3, .ref ha4, .ref ha5, .ref ha6, .ref ha7, .ref ha8, .ref hc]))]) [1] rfl) (hD.sub (ws' := [(xhl, .inr (5, [.int 0, .int 0, .int 0, .int 0, .int 0, .int 0, .long 0, .ref ha1, .ref ha2, .ref ha3, .ref ha4, .ref ha5, .ref ha6, .ref ha7, .ref ha8, .ref hc]))]) [1] (by decide) rfl) 0 5 rfl rfl rfl rfl hl.1 (rest := []) rfl (Nat.le_of_ble_eq_true rfl) dX11_far_6 ⟨by decide, by decide⟩) hP hD hS hA [1] [0] (wr := [(x, .inr (11, [.ref tp, .ref rd, .ref im, .ref mk, .ref sl, .ref ac, .ref cl, .ref xhb, .ref rs, .ref sd, .ref cr, .ref xhl, .ref df]))]) rfl rfl (by decide) (by decide) (fun r_1 u H locs h_2 hP hD hS => ?_)
  have hP : va_P G vwCl [(x, .inr (11, [.ref tp, .ref rd, .ref im, .ref mk, .ref sl, .ref ac, .ref cl, .ref xhb, .ref rs, .ref sd, .ref cr, .ref xhl, .ref df])), (xhl, .inr (5, [.int 0, .int 0, .int 0, .int 0, .int 0, .int 0, .long 0, .ref ha1, .ref ha2, .ref ha3, .ref ha4, .ref ha5, .ref ha6, .ref ha7, .ref ha8, .ref hc]))] H := hP
  have hD : va_D A [(x, .inr (11, [.ref tp, .ref rd, .ref im, .ref mk, .ref sl, .ref ac, .ref cl, .ref xhb, .ref rs, .ref sd, .ref cr, .ref xhl, .ref df])), (xhl, .inr (5, [.int 0, .int 0, .int 0, .int 0, .int 0, .int 0, .long 0, .ref ha1, .ref ha2, .ref ha3, .ref ha4, .ref ha5, .ref ha6, .ref ha7, .ref ha8, .ref hc]))] := hD
  refine W.widen (k := 0) (n := 0) (Nat.le_of_ble_eq_true rfl) (Nat.le_of_ble_eq_true rfl) ?_
  obtain rfl : r_1 = 0 := h_2
  refine lv_if_eq (tgt := 19) hx hb dX11_far_9 (by decide) (fun _ => ?_) (fun c_3 => absurd (by decide) c_3)
  refine lv_bipush (v := (-2)) hx hb dX11_far_19 (by decide) ?_
  refine W.widen (k := 0) (n := 0) (by decide) (by decide) ?_
  exact rtI hx hb hr hlocks hS () (rfl) (hP.sub [] rfl) (hD.sub [] (by decide) rfl) dX11_far_21

set_option maxHeartbeats 4000000 in
set_option maxRecDepth 100000 in
theorem x_by (l : Launch) (G : va_G) (t : Nat → ClassId) (x : Nat) (tp : Nat) (rd : Nat) (im : Nat) (mk : Nat) (sl : Nat) (ac : Nat) (cl : Nat) (xhb : Nat) (rs : Nat) (sd : Nat) (cr : Nat) (xhl : Nat) (df : Nat) (ha1 : Nat) (ha2 : Nat) (ha3 : Nat) (ha4 : Nat) (ha5 : Nat) (ha6 : Nat) (ha7 : Nat) (ha8 : Nat) (hc : Nat) (a0 : Int32) (b0 : Int32) (c0 : Int32) : Ct l G t yX11_by cX11_by 4 (some .int) ({ frames := 1, cells := 0, slots := 0, locals := 22 }) [.ref x, .int a0, .int b0, .int c0] [(x, .inr (11, [.ref tp, .ref rd, .ref im, .ref mk, .ref sl, .ref ac, .ref cl, .ref xhb, .ref rs, .ref sd, .ref cr, .ref xhl, .ref df])), (xhl, .inr (5, [.int 0, .int 0, .int 0, .int 0, .int 0, .int 0, .long 0, .ref ha1, .ref ha2, .ref ha3, .ref ha4, .ref ha5, .ref ha6, .ref ha7, .ref ha8, .ref hc]))] (QI G (fun r (u : Unit) => r = (-2)) (fun (u : Unit) => [])) := by
  refine ent (by decide) (Nat.le_of_ble_eq_true rfl) ?_
  intro p e s m args below meth c hx hb hr hml hts hown hlocks hin A hA hK hO hP hD hS ls hl
  have hown : s.vm.findClass RX11 = some m.cls := hown
  have hl : lv_has ls 4 [(0, .ref x), (1, .int a0), (2, .int b0), (3, .int c0)] := hl
  have C0 : Cx p s m args c cX11_by 4 RX11 G t := ⟨hx, hb, hml, hown, hts, hK, hO⟩
  refine lv_aload_n hx hb dX11_by_0 rfl (lv_at hl 0 rfl) ?_
  refine gf hx hb hts hown hK hP 0 inT11 rfl rfl 11 (by decide) tw2_138 rfl dX11_by_1 ?_
  refine lv_iload_n hx hb dX11_by_4 rfl (lv_at hl 1 rfl) ?_
  refine lv_iload_n hx hb dX11_by_5 rfl (lv_at hl 2 rfl) ?_
  refine goI (rnV C0 (c_hasSeat l G t xhl ha1 ha2 ha3 ha4 ha5 ha6 ha7 ha8 hc a0 b0) lkX11_156 ⟨by decide, by decide⟩ (hP.sub (ws' := [(xhl, .inr (5, [.int 0, .int 0, .int 0, .int 0, .int 0, .int 0, .long 0, .ref ha1, .ref ha2, .ref ha3, .ref ha4, .ref ha5, .ref ha6, .ref ha7, .ref ha8, .ref hc]))]) [1] rfl) (hD.sub (ws' := [(xhl, .inr (5, [.int 0, .int 0, .int 0, .int 0, .int 0, .int 0, .long 0, .ref ha1, .ref ha2, .ref ha3, .ref ha4, .ref ha5, .ref ha6, .ref ha7, .ref ha8, .ref hc]))]) [1] (by decide) rfl) 0 5 rfl rfl rfl rfl hl.1 (rest := []) rfl (Nat.le_of_ble_eq_true rfl) dX11_by_6 ⟨by decide, by decide⟩) hP hD hS hA [1] [0] (wr := [(x, .inr (11, [.ref tp, .ref rd, .ref im, .ref mk, .ref sl, .ref ac, .ref cl, .ref xhb, .ref rs, .ref sd, .ref cr, .ref xhl, .ref df]))]) rfl rfl (by decide) (by decide) (fun r_1 u H locs h_2 hP hD hS => ?_)
  have hP : va_P G vwCl [(x, .inr (11, [.ref tp, .ref rd, .ref im, .ref mk, .ref sl, .ref ac, .ref cl, .ref xhb, .ref rs, .ref sd, .ref cr, .ref xhl, .ref df])), (xhl, .inr (5, [.int 0, .int 0, .int 0, .int 0, .int 0, .int 0, .long 0, .ref ha1, .ref ha2, .ref ha3, .ref ha4, .ref ha5, .ref ha6, .ref ha7, .ref ha8, .ref hc]))] H := hP
  have hD : va_D A [(x, .inr (11, [.ref tp, .ref rd, .ref im, .ref mk, .ref sl, .ref ac, .ref cl, .ref xhb, .ref rs, .ref sd, .ref cr, .ref xhl, .ref df])), (xhl, .inr (5, [.int 0, .int 0, .int 0, .int 0, .int 0, .int 0, .long 0, .ref ha1, .ref ha2, .ref ha3, .ref ha4, .ref ha5, .ref ha6, .ref ha7, .ref ha8, .ref hc]))] := hD
  refine W.widen (k := 0) (n := 0) (Nat.le_of_ble_eq_true rfl) (Nat.le_of_ble_eq_true rfl) ?_
  obtain rfl : r_1 = 0 := h_2
  refine lv_if_eq (tgt := 19) hx hb dX11_by_9 (by decide) (fun _ => ?_) (fun c_3 => absurd (by decide) c_3)
  refine lv_bipush (v := (-2)) hx hb dX11_by_19 (by decide) ?_
  refine W.widen (k := 0) (n := 0) (by decide) (by decide) ?_
  exact rtI hx hb hr hlocks hS () (rfl) (hP.sub [] rfl) (hD.sub [] (by decide) rfl) dX11_by_21

set_option maxHeartbeats 4000000 in
set_option maxRecDepth 100000 in
theorem x_falls (l : Launch) (G : va_G) (t : Nat → ClassId) (x : Nat) (tp : Nat) (rd : Nat) (im : Nat) (mk : Nat) (sl : Nat) (ac : Nat) (cl : Nat) (xhb : Nat) (rs : Nat) (sd : Nat) (cr : Nat) (xhl : Nat) (df : Nat) (ha1 : Nat) (ha2 : Nat) (ha3 : Nat) (ha4 : Nat) (ha5 : Nat) (ha6 : Nat) (ha7 : Nat) (ha8 : Nat) (hc : Nat) (a0 : Int32) (b0 : Int32) (c0 : Int32) : Ct l G t yX11_falls cX11_falls 4 (some .int) ({ frames := 1, cells := 0, slots := 0, locals := 22 }) [.ref x, .int a0, .int b0, .int c0] [(x, .inr (11, [.ref tp, .ref rd, .ref im, .ref mk, .ref sl, .ref ac, .ref cl, .ref xhb, .ref rs, .ref sd, .ref cr, .ref xhl, .ref df])), (xhl, .inr (5, [.int 0, .int 0, .int 0, .int 0, .int 0, .int 0, .long 0, .ref ha1, .ref ha2, .ref ha3, .ref ha4, .ref ha5, .ref ha6, .ref ha7, .ref ha8, .ref hc]))] (QI G (fun r (u : Unit) => r = (-2)) (fun (u : Unit) => [])) := by
  refine ent (by decide) (Nat.le_of_ble_eq_true rfl) ?_
  intro p e s m args below meth c hx hb hr hml hts hown hlocks hin A hA hK hO hP hD hS ls hl
  have hown : s.vm.findClass RX11 = some m.cls := hown
  have hl : lv_has ls 4 [(0, .ref x), (1, .int a0), (2, .int b0), (3, .int c0)] := hl
  have C0 : Cx p s m args c cX11_falls 4 RX11 G t := ⟨hx, hb, hml, hown, hts, hK, hO⟩
  refine lv_aload_n hx hb dX11_falls_0 rfl (lv_at hl 0 rfl) ?_
  refine gf hx hb hts hown hK hP 0 inT11 rfl rfl 11 (by decide) tw2_138 rfl dX11_falls_1 ?_
  refine lv_iload_n hx hb dX11_falls_4 rfl (lv_at hl 1 rfl) ?_
  refine lv_iload_n hx hb dX11_falls_5 rfl (lv_at hl 2 rfl) ?_
  refine goI (rnV C0 (c_hasSeat l G t xhl ha1 ha2 ha3 ha4 ha5 ha6 ha7 ha8 hc a0 b0) lkX11_156 ⟨by decide, by decide⟩ (hP.sub (ws' := [(xhl, .inr (5, [.int 0, .int 0, .int 0, .int 0, .int 0, .int 0, .long 0, .ref ha1, .ref ha2, .ref ha3, .ref ha4, .ref ha5, .ref ha6, .ref ha7, .ref ha8, .ref hc]))]) [1] rfl) (hD.sub (ws' := [(xhl, .inr (5, [.int 0, .int 0, .int 0, .int 0, .int 0, .int 0, .long 0, .ref ha1, .ref ha2, .ref ha3, .ref ha4, .ref ha5, .ref ha6, .ref ha7, .ref ha8, .ref hc]))]) [1] (by decide) rfl) 0 5 rfl rfl rfl rfl hl.1 (rest := []) rfl (Nat.le_of_ble_eq_true rfl) dX11_falls_6 ⟨by decide, by decide⟩) hP hD hS hA [1] [0] (wr := [(x, .inr (11, [.ref tp, .ref rd, .ref im, .ref mk, .ref sl, .ref ac, .ref cl, .ref xhb, .ref rs, .ref sd, .ref cr, .ref xhl, .ref df]))]) rfl rfl (by decide) (by decide) (fun r_1 u H locs h_2 hP hD hS => ?_)
  have hP : va_P G vwCl [(x, .inr (11, [.ref tp, .ref rd, .ref im, .ref mk, .ref sl, .ref ac, .ref cl, .ref xhb, .ref rs, .ref sd, .ref cr, .ref xhl, .ref df])), (xhl, .inr (5, [.int 0, .int 0, .int 0, .int 0, .int 0, .int 0, .long 0, .ref ha1, .ref ha2, .ref ha3, .ref ha4, .ref ha5, .ref ha6, .ref ha7, .ref ha8, .ref hc]))] H := hP
  have hD : va_D A [(x, .inr (11, [.ref tp, .ref rd, .ref im, .ref mk, .ref sl, .ref ac, .ref cl, .ref xhb, .ref rs, .ref sd, .ref cr, .ref xhl, .ref df])), (xhl, .inr (5, [.int 0, .int 0, .int 0, .int 0, .int 0, .int 0, .long 0, .ref ha1, .ref ha2, .ref ha3, .ref ha4, .ref ha5, .ref ha6, .ref ha7, .ref ha8, .ref hc]))] := hD
  refine W.widen (k := 0) (n := 0) (Nat.le_of_ble_eq_true rfl) (Nat.le_of_ble_eq_true rfl) ?_
  obtain rfl : r_1 = 0 := h_2
  refine lv_if_eq (tgt := 19) hx hb dX11_falls_9 (by decide) (fun _ => ?_) (fun c_3 => absurd (by decide) c_3)
  refine lv_bipush (v := (-2)) hx hb dX11_falls_19 (by decide) ?_
  refine W.widen (k := 0) (n := 0) (by decide) (by decide) ?_
  exact rtI hx hb hr hlocks hS () (rfl) (hP.sub [] rfl) (hD.sub [] (by decide) rfl) dX11_falls_21

set_option maxHeartbeats 4000000 in
set_option maxRecDepth 100000 in
theorem x_best (l : Launch) (G : va_G) (t : Nat → ClassId) (x : Nat) (tp : Nat) (rd : Nat) (im : Nat) (mk : Nat) (sl : Nat) (ac : Nat) (cl : Nat) (xhb : Nat) (rs : Nat) (sd : Nat) (cr : Nat) (xhl : Nat) (df : Nat) (ha1 : Nat) (ha2 : Nat) (ha3 : Nat) (ha4 : Nat) (ha5 : Nat) (ha6 : Nat) (ha7 : Nat) (ha8 : Nat) (hc : Nat) (a0 : Int32) : Ct l G t yX11_best cX11_best 2 (some .int) ({ frames := 1, cells := 0, slots := 0, locals := 20 }) [.ref x, .int a0] [(x, .inr (11, [.ref tp, .ref rd, .ref im, .ref mk, .ref sl, .ref ac, .ref cl, .ref xhb, .ref rs, .ref sd, .ref cr, .ref xhl, .ref df])), (xhl, .inr (5, [.int 0, .int 0, .int 0, .int 0, .int 0, .int 0, .long 0, .ref ha1, .ref ha2, .ref ha3, .ref ha4, .ref ha5, .ref ha6, .ref ha7, .ref ha8, .ref hc]))] (QI G (fun r (u : Unit) => r = (-2)) (fun (u : Unit) => [])) := by
  refine ent (by decide) (Nat.le_of_ble_eq_true rfl) ?_
  intro p e s m args below meth c hx hb hr hml hts hown hlocks hin A hA hK hO hP hD hS ls hl
  have hown : s.vm.findClass RX11 = some m.cls := hown
  have hl : lv_has ls 2 [(0, .ref x), (1, .int a0)] := hl
  have C0 : Cx p s m args c cX11_best 2 RX11 G t := ⟨hx, hb, hml, hown, hts, hK, hO⟩
  refine lv_aload_n hx hb dX11_best_0 rfl (lv_at hl 0 rfl) ?_
  refine gf hx hb hts hown hK hP 0 inT11 rfl rfl 11 (by decide) tw2_138 rfl dX11_best_1 ?_
  refine goI (rnV C0 (c_isTold l G t xhl ha1 ha2 ha3 ha4 ha5 ha6 ha7 ha8 hc) lkX11_179 ⟨by decide, by decide⟩ (hP.sub (ws' := [(xhl, .inr (5, [.int 0, .int 0, .int 0, .int 0, .int 0, .int 0, .long 0, .ref ha1, .ref ha2, .ref ha3, .ref ha4, .ref ha5, .ref ha6, .ref ha7, .ref ha8, .ref hc]))]) [1] rfl) (hD.sub (ws' := [(xhl, .inr (5, [.int 0, .int 0, .int 0, .int 0, .int 0, .int 0, .long 0, .ref ha1, .ref ha2, .ref ha3, .ref ha4, .ref ha5, .ref ha6, .ref ha7, .ref ha8, .ref hc]))]) [1] (by decide) rfl) 0 5 rfl rfl rfl rfl hl.1 (rest := []) rfl (Nat.le_of_ble_eq_true rfl) dX11_best_4 ⟨by decide, by decide⟩) hP hD hS hA [1] [0] (wr := [(x, .inr (11, [.ref tp, .ref rd, .ref im, .ref mk, .ref sl, .ref ac, .ref cl, .ref xhb, .ref rs, .ref sd, .ref cr, .ref xhl, .ref df]))]) rfl rfl (by decide) (by decide) (fun r_1 u H locs h_2 hP hD hS => ?_)
  have hP : va_P G vwCl [(x, .inr (11, [.ref tp, .ref rd, .ref im, .ref mk, .ref sl, .ref ac, .ref cl, .ref xhb, .ref rs, .ref sd, .ref cr, .ref xhl, .ref df])), (xhl, .inr (5, [.int 0, .int 0, .int 0, .int 0, .int 0, .int 0, .long 0, .ref ha1, .ref ha2, .ref ha3, .ref ha4, .ref ha5, .ref ha6, .ref ha7, .ref ha8, .ref hc]))] H := hP
  have hD : va_D A [(x, .inr (11, [.ref tp, .ref rd, .ref im, .ref mk, .ref sl, .ref ac, .ref cl, .ref xhb, .ref rs, .ref sd, .ref cr, .ref xhl, .ref df])), (xhl, .inr (5, [.int 0, .int 0, .int 0, .int 0, .int 0, .int 0, .long 0, .ref ha1, .ref ha2, .ref ha3, .ref ha4, .ref ha5, .ref ha6, .ref ha7, .ref ha8, .ref hc]))] := hD
  refine W.widen (k := 0) (n := 0) (Nat.le_of_ble_eq_true rfl) (Nat.le_of_ble_eq_true rfl) ?_
  obtain rfl : r_1 = 0 := h_2
  refine lv_if_eq (tgt := 17) hx hb dX11_best_7 (by decide) (fun _ => ?_) (fun c_3 => absurd (by decide) c_3)
  refine lv_bipush (v := (-2)) hx hb dX11_best_17 (by decide) ?_
  refine W.widen (k := 0) (n := 0) (by decide) (by decide) ?_
  exact rtI hx hb hr hlocks hS () (rfl) (hP.sub [] rfl) (hD.sub [] (by decide) rfl) dX11_best_19

set_option maxHeartbeats 4000000 in
set_option maxRecDepth 100000 in
theorem x_worst (l : Launch) (G : va_G) (t : Nat → ClassId) (x : Nat) (tp : Nat) (rd : Nat) (im : Nat) (mk : Nat) (sl : Nat) (ac : Nat) (cl : Nat) (xhb : Nat) (rs : Nat) (sd : Nat) (cr : Nat) (xhl : Nat) (df : Nat) (ha1 : Nat) (ha2 : Nat) (ha3 : Nat) (ha4 : Nat) (ha5 : Nat) (ha6 : Nat) (ha7 : Nat) (ha8 : Nat) (hc : Nat) (a0 : Int32) : Ct l G t yX11_worst cX11_worst 2 (some .int) ({ frames := 1, cells := 0, slots := 0, locals := 20 }) [.ref x, .int a0] [(x, .inr (11, [.ref tp, .ref rd, .ref im, .ref mk, .ref sl, .ref ac, .ref cl, .ref xhb, .ref rs, .ref sd, .ref cr, .ref xhl, .ref df])), (xhl, .inr (5, [.int 0, .int 0, .int 0, .int 0, .int 0, .int 0, .long 0, .ref ha1, .ref ha2, .ref ha3, .ref ha4, .ref ha5, .ref ha6, .ref ha7, .ref ha8, .ref hc]))] (QI G (fun r (u : Unit) => r = (-2)) (fun (u : Unit) => [])) := by
  refine ent (by decide) (Nat.le_of_ble_eq_true rfl) ?_
  intro p e s m args below meth c hx hb hr hml hts hown hlocks hin A hA hK hO hP hD hS ls hl
  have hown : s.vm.findClass RX11 = some m.cls := hown
  have hl : lv_has ls 2 [(0, .ref x), (1, .int a0)] := hl
  have C0 : Cx p s m args c cX11_worst 2 RX11 G t := ⟨hx, hb, hml, hown, hts, hK, hO⟩
  refine lv_aload_n hx hb dX11_worst_0 rfl (lv_at hl 0 rfl) ?_
  refine gf hx hb hts hown hK hP 0 inT11 rfl rfl 11 (by decide) tw2_138 rfl dX11_worst_1 ?_
  refine goI (rnV C0 (c_isTold l G t xhl ha1 ha2 ha3 ha4 ha5 ha6 ha7 ha8 hc) lkX11_179 ⟨by decide, by decide⟩ (hP.sub (ws' := [(xhl, .inr (5, [.int 0, .int 0, .int 0, .int 0, .int 0, .int 0, .long 0, .ref ha1, .ref ha2, .ref ha3, .ref ha4, .ref ha5, .ref ha6, .ref ha7, .ref ha8, .ref hc]))]) [1] rfl) (hD.sub (ws' := [(xhl, .inr (5, [.int 0, .int 0, .int 0, .int 0, .int 0, .int 0, .long 0, .ref ha1, .ref ha2, .ref ha3, .ref ha4, .ref ha5, .ref ha6, .ref ha7, .ref ha8, .ref hc]))]) [1] (by decide) rfl) 0 5 rfl rfl rfl rfl hl.1 (rest := []) rfl (Nat.le_of_ble_eq_true rfl) dX11_worst_4 ⟨by decide, by decide⟩) hP hD hS hA [1] [0] (wr := [(x, .inr (11, [.ref tp, .ref rd, .ref im, .ref mk, .ref sl, .ref ac, .ref cl, .ref xhb, .ref rs, .ref sd, .ref cr, .ref xhl, .ref df]))]) rfl rfl (by decide) (by decide) (fun r_1 u H locs h_2 hP hD hS => ?_)
  have hP : va_P G vwCl [(x, .inr (11, [.ref tp, .ref rd, .ref im, .ref mk, .ref sl, .ref ac, .ref cl, .ref xhb, .ref rs, .ref sd, .ref cr, .ref xhl, .ref df])), (xhl, .inr (5, [.int 0, .int 0, .int 0, .int 0, .int 0, .int 0, .long 0, .ref ha1, .ref ha2, .ref ha3, .ref ha4, .ref ha5, .ref ha6, .ref ha7, .ref ha8, .ref hc]))] H := hP
  have hD : va_D A [(x, .inr (11, [.ref tp, .ref rd, .ref im, .ref mk, .ref sl, .ref ac, .ref cl, .ref xhb, .ref rs, .ref sd, .ref cr, .ref xhl, .ref df])), (xhl, .inr (5, [.int 0, .int 0, .int 0, .int 0, .int 0, .int 0, .long 0, .ref ha1, .ref ha2, .ref ha3, .ref ha4, .ref ha5, .ref ha6, .ref ha7, .ref ha8, .ref hc]))] := hD
  refine W.widen (k := 0) (n := 0) (Nat.le_of_ble_eq_true rfl) (Nat.le_of_ble_eq_true rfl) ?_
  obtain rfl : r_1 = 0 := h_2
  refine lv_if_eq (tgt := 17) hx hb dX11_worst_7 (by decide) (fun _ => ?_) (fun c_3 => absurd (by decide) c_3)
  refine lv_bipush (v := (-2)) hx hb dX11_worst_17 (by decide) ?_
  refine W.widen (k := 0) (n := 0) (by decide) (by decide) ?_
  exact rtI hx hb hr hlocks hS () (rfl) (hP.sub [] rfl) (hD.sub [] (by decide) rfl) dX11_worst_19

set_option maxHeartbeats 4000000 in
set_option maxRecDepth 100000 in
theorem x_kept (l : Launch) (G : va_G) (t : Nat → ClassId) (x : Nat) (tp : Nat) (rd : Nat) (im : Nat) (mk : Nat) (sl : Nat) (ac : Nat) (cl : Nat) (xhb : Nat) (rs : Nat) (sd : Nat) (cr : Nat) (xhl : Nat) (df : Nat) (ha1 : Nat) (ha2 : Nat) (ha3 : Nat) (ha4 : Nat) (ha5 : Nat) (ha6 : Nat) (ha7 : Nat) (ha8 : Nat) (hc : Nat) (a0 : Int32) : Ct l G t yX11_kept cX11_kept 2 (some .int) ({ frames := 1, cells := 0, slots := 0, locals := 20 }) [.ref x, .int a0] [(x, .inr (11, [.ref tp, .ref rd, .ref im, .ref mk, .ref sl, .ref ac, .ref cl, .ref xhb, .ref rs, .ref sd, .ref cr, .ref xhl, .ref df])), (xhl, .inr (5, [.int 0, .int 0, .int 0, .int 0, .int 0, .int 0, .long 0, .ref ha1, .ref ha2, .ref ha3, .ref ha4, .ref ha5, .ref ha6, .ref ha7, .ref ha8, .ref hc]))] (QI G (fun r (u : Unit) => r = (-2)) (fun (u : Unit) => [])) := by
  refine ent (by decide) (Nat.le_of_ble_eq_true rfl) ?_
  intro p e s m args below meth c hx hb hr hml hts hown hlocks hin A hA hK hO hP hD hS ls hl
  have hown : s.vm.findClass RX11 = some m.cls := hown
  have hl : lv_has ls 2 [(0, .ref x), (1, .int a0)] := hl
  have C0 : Cx p s m args c cX11_kept 2 RX11 G t := ⟨hx, hb, hml, hown, hts, hK, hO⟩
  refine lv_aload_n hx hb dX11_kept_0 rfl (lv_at hl 0 rfl) ?_
  refine gf hx hb hts hown hK hP 0 inT11 rfl rfl 11 (by decide) tw2_138 rfl dX11_kept_1 ?_
  refine goI (rnV C0 (c_isTold l G t xhl ha1 ha2 ha3 ha4 ha5 ha6 ha7 ha8 hc) lkX11_179 ⟨by decide, by decide⟩ (hP.sub (ws' := [(xhl, .inr (5, [.int 0, .int 0, .int 0, .int 0, .int 0, .int 0, .long 0, .ref ha1, .ref ha2, .ref ha3, .ref ha4, .ref ha5, .ref ha6, .ref ha7, .ref ha8, .ref hc]))]) [1] rfl) (hD.sub (ws' := [(xhl, .inr (5, [.int 0, .int 0, .int 0, .int 0, .int 0, .int 0, .long 0, .ref ha1, .ref ha2, .ref ha3, .ref ha4, .ref ha5, .ref ha6, .ref ha7, .ref ha8, .ref hc]))]) [1] (by decide) rfl) 0 5 rfl rfl rfl rfl hl.1 (rest := []) rfl (Nat.le_of_ble_eq_true rfl) dX11_kept_4 ⟨by decide, by decide⟩) hP hD hS hA [1] [0] (wr := [(x, .inr (11, [.ref tp, .ref rd, .ref im, .ref mk, .ref sl, .ref ac, .ref cl, .ref xhb, .ref rs, .ref sd, .ref cr, .ref xhl, .ref df]))]) rfl rfl (by decide) (by decide) (fun r_1 u H locs h_2 hP hD hS => ?_)
  have hP : va_P G vwCl [(x, .inr (11, [.ref tp, .ref rd, .ref im, .ref mk, .ref sl, .ref ac, .ref cl, .ref xhb, .ref rs, .ref sd, .ref cr, .ref xhl, .ref df])), (xhl, .inr (5, [.int 0, .int 0, .int 0, .int 0, .int 0, .int 0, .long 0, .ref ha1, .ref ha2, .ref ha3, .ref ha4, .ref ha5, .ref ha6, .ref ha7, .ref ha8, .ref hc]))] H := hP
  have hD : va_D A [(x, .inr (11, [.ref tp, .ref rd, .ref im, .ref mk, .ref sl, .ref ac, .ref cl, .ref xhb, .ref rs, .ref sd, .ref cr, .ref xhl, .ref df])), (xhl, .inr (5, [.int 0, .int 0, .int 0, .int 0, .int 0, .int 0, .long 0, .ref ha1, .ref ha2, .ref ha3, .ref ha4, .ref ha5, .ref ha6, .ref ha7, .ref ha8, .ref hc]))] := hD
  refine W.widen (k := 0) (n := 0) (Nat.le_of_ble_eq_true rfl) (Nat.le_of_ble_eq_true rfl) ?_
  obtain rfl : r_1 = 0 := h_2
  refine lv_if_eq (tgt := 17) hx hb dX11_kept_7 (by decide) (fun _ => ?_) (fun c_3 => absurd (by decide) c_3)
  refine lv_bipush (v := (-2)) hx hb dX11_kept_17 (by decide) ?_
  refine W.widen (k := 0) (n := 0) (by decide) (by decide) ?_
  exact rtI hx hb hr hlocks hS () (rfl) (hP.sub [] rfl) (hD.sub [] (by decide) rfl) dX11_kept_19

set_option maxHeartbeats 4000000 in
set_option maxRecDepth 100000 in
theorem x_breaks (l : Launch) (G : va_G) (t : Nat → ClassId) (x : Nat) (tp : Nat) (rd : Nat) (im : Nat) (mk : Nat) (sl : Nat) (ac : Nat) (cl : Nat) (xhb : Nat) (rs : Nat) (sd : Nat) (cr : Nat) (xhl : Nat) (df : Nat) (ha1 : Nat) (ha2 : Nat) (ha3 : Nat) (ha4 : Nat) (ha5 : Nat) (ha6 : Nat) (ha7 : Nat) (ha8 : Nat) (hc : Nat) (a0 : Int32) : Ct l G t yX11_breaks cX11_breaks 3 (some .int) ({ frames := 1, cells := 0, slots := 0, locals := 20 }) [.ref x, .int a0] [(x, .inr (11, [.ref tp, .ref rd, .ref im, .ref mk, .ref sl, .ref ac, .ref cl, .ref xhb, .ref rs, .ref sd, .ref cr, .ref xhl, .ref df])), (xhl, .inr (5, [.int 0, .int 0, .int 0, .int 0, .int 0, .int 0, .long 0, .ref ha1, .ref ha2, .ref ha3, .ref ha4, .ref ha5, .ref ha6, .ref ha7, .ref ha8, .ref hc]))] (QI G (fun r (u : Unit) => r = (-2)) (fun (u : Unit) => [])) := by
  refine ent (by decide) (Nat.le_of_ble_eq_true rfl) ?_
  intro p e s m args below meth c hx hb hr hml hts hown hlocks hin A hA hK hO hP hD hS ls hl
  have hown : s.vm.findClass RX11 = some m.cls := hown
  have hl : lv_has ls 3 [(0, .ref x), (1, .int a0)] := hl
  have C0 : Cx p s m args c cX11_breaks 3 RX11 G t := ⟨hx, hb, hml, hown, hts, hK, hO⟩
  refine lv_aload_n hx hb dX11_breaks_0 rfl (lv_at hl 0 rfl) ?_
  refine gf hx hb hts hown hK hP 0 inT11 rfl rfl 11 (by decide) tw2_138 rfl dX11_breaks_1 ?_
  refine goI (rnV C0 (c_isTold l G t xhl ha1 ha2 ha3 ha4 ha5 ha6 ha7 ha8 hc) lkX11_179 ⟨by decide, by decide⟩ (hP.sub (ws' := [(xhl, .inr (5, [.int 0, .int 0, .int 0, .int 0, .int 0, .int 0, .long 0, .ref ha1, .ref ha2, .ref ha3, .ref ha4, .ref ha5, .ref ha6, .ref ha7, .ref ha8, .ref hc]))]) [1] rfl) (hD.sub (ws' := [(xhl, .inr (5, [.int 0, .int 0, .int 0, .int 0, .int 0, .int 0, .long 0, .ref ha1, .ref ha2, .ref ha3, .ref ha4, .ref ha5, .ref ha6, .ref ha7, .ref ha8, .ref hc]))]) [1] (by decide) rfl) 0 5 rfl rfl rfl rfl hl.1 (rest := []) rfl (Nat.le_of_ble_eq_true rfl) dX11_breaks_4 ⟨by decide, by decide⟩) hP hD hS hA [1] [0] (wr := [(x, .inr (11, [.ref tp, .ref rd, .ref im, .ref mk, .ref sl, .ref ac, .ref cl, .ref xhb, .ref rs, .ref sd, .ref cr, .ref xhl, .ref df]))]) rfl rfl (by decide) (by decide) (fun r_1 u H locs h_2 hP hD hS => ?_)
  have hP : va_P G vwCl [(x, .inr (11, [.ref tp, .ref rd, .ref im, .ref mk, .ref sl, .ref ac, .ref cl, .ref xhb, .ref rs, .ref sd, .ref cr, .ref xhl, .ref df])), (xhl, .inr (5, [.int 0, .int 0, .int 0, .int 0, .int 0, .int 0, .long 0, .ref ha1, .ref ha2, .ref ha3, .ref ha4, .ref ha5, .ref ha6, .ref ha7, .ref ha8, .ref hc]))] H := hP
  have hD : va_D A [(x, .inr (11, [.ref tp, .ref rd, .ref im, .ref mk, .ref sl, .ref ac, .ref cl, .ref xhb, .ref rs, .ref sd, .ref cr, .ref xhl, .ref df])), (xhl, .inr (5, [.int 0, .int 0, .int 0, .int 0, .int 0, .int 0, .long 0, .ref ha1, .ref ha2, .ref ha3, .ref ha4, .ref ha5, .ref ha6, .ref ha7, .ref ha8, .ref hc]))] := hD
  refine W.widen (k := 0) (n := 0) (Nat.le_of_ble_eq_true rfl) (Nat.le_of_ble_eq_true rfl) ?_
  obtain rfl : r_1 = 0 := h_2
  refine lv_if_eq (tgt := 17) hx hb dX11_breaks_7 (by decide) (fun _ => ?_) (fun c_3 => absurd (by decide) c_3)
  refine lv_bipush (v := (-2)) hx hb dX11_breaks_17 (by decide) ?_
  refine W.widen (k := 0) (n := 0) (by decide) (by decide) ?_
  exact rtI hx hb hr hlocks hS () (rfl) (hP.sub [] rfl) (hD.sub [] (by decide) rfl) dX11_breaks_19

set_option maxHeartbeats 4000000 in
set_option maxRecDepth 100000 in
theorem x_screws (l : Launch) (G : va_G) (t : Nat → ClassId) (x : Nat) (tp : Nat) (rd : Nat) (im : Nat) (mk : Nat) (sl : Nat) (ac : Nat) (cl : Nat) (xhb : Nat) (rs : Nat) (sd : Nat) (cr : Nat) (xhl : Nat) (df : Nat) (ha1 : Nat) (ha2 : Nat) (ha3 : Nat) (ha4 : Nat) (ha5 : Nat) (ha6 : Nat) (ha7 : Nat) (ha8 : Nat) (hc : Nat) (a0 : Int32) : Ct l G t yX11_screws cX11_screws 3 (some .int) ({ frames := 1, cells := 0, slots := 0, locals := 20 }) [.ref x, .int a0] [(x, .inr (11, [.ref tp, .ref rd, .ref im, .ref mk, .ref sl, .ref ac, .ref cl, .ref xhb, .ref rs, .ref sd, .ref cr, .ref xhl, .ref df])), (xhl, .inr (5, [.int 0, .int 0, .int 0, .int 0, .int 0, .int 0, .long 0, .ref ha1, .ref ha2, .ref ha3, .ref ha4, .ref ha5, .ref ha6, .ref ha7, .ref ha8, .ref hc]))] (QI G (fun r (u : Unit) => r = (-2)) (fun (u : Unit) => [])) := by
  refine ent (by decide) (Nat.le_of_ble_eq_true rfl) ?_
  intro p e s m args below meth c hx hb hr hml hts hown hlocks hin A hA hK hO hP hD hS ls hl
  have hown : s.vm.findClass RX11 = some m.cls := hown
  have hl : lv_has ls 3 [(0, .ref x), (1, .int a0)] := hl
  have C0 : Cx p s m args c cX11_screws 3 RX11 G t := ⟨hx, hb, hml, hown, hts, hK, hO⟩
  refine lv_aload_n hx hb dX11_screws_0 rfl (lv_at hl 0 rfl) ?_
  refine gf hx hb hts hown hK hP 0 inT11 rfl rfl 11 (by decide) tw2_138 rfl dX11_screws_1 ?_
  refine goI (rnV C0 (c_isTold l G t xhl ha1 ha2 ha3 ha4 ha5 ha6 ha7 ha8 hc) lkX11_179 ⟨by decide, by decide⟩ (hP.sub (ws' := [(xhl, .inr (5, [.int 0, .int 0, .int 0, .int 0, .int 0, .int 0, .long 0, .ref ha1, .ref ha2, .ref ha3, .ref ha4, .ref ha5, .ref ha6, .ref ha7, .ref ha8, .ref hc]))]) [1] rfl) (hD.sub (ws' := [(xhl, .inr (5, [.int 0, .int 0, .int 0, .int 0, .int 0, .int 0, .long 0, .ref ha1, .ref ha2, .ref ha3, .ref ha4, .ref ha5, .ref ha6, .ref ha7, .ref ha8, .ref hc]))]) [1] (by decide) rfl) 0 5 rfl rfl rfl rfl hl.1 (rest := []) rfl (Nat.le_of_ble_eq_true rfl) dX11_screws_4 ⟨by decide, by decide⟩) hP hD hS hA [1] [0] (wr := [(x, .inr (11, [.ref tp, .ref rd, .ref im, .ref mk, .ref sl, .ref ac, .ref cl, .ref xhb, .ref rs, .ref sd, .ref cr, .ref xhl, .ref df]))]) rfl rfl (by decide) (by decide) (fun r_1 u H locs h_2 hP hD hS => ?_)
  have hP : va_P G vwCl [(x, .inr (11, [.ref tp, .ref rd, .ref im, .ref mk, .ref sl, .ref ac, .ref cl, .ref xhb, .ref rs, .ref sd, .ref cr, .ref xhl, .ref df])), (xhl, .inr (5, [.int 0, .int 0, .int 0, .int 0, .int 0, .int 0, .long 0, .ref ha1, .ref ha2, .ref ha3, .ref ha4, .ref ha5, .ref ha6, .ref ha7, .ref ha8, .ref hc]))] H := hP
  have hD : va_D A [(x, .inr (11, [.ref tp, .ref rd, .ref im, .ref mk, .ref sl, .ref ac, .ref cl, .ref xhb, .ref rs, .ref sd, .ref cr, .ref xhl, .ref df])), (xhl, .inr (5, [.int 0, .int 0, .int 0, .int 0, .int 0, .int 0, .long 0, .ref ha1, .ref ha2, .ref ha3, .ref ha4, .ref ha5, .ref ha6, .ref ha7, .ref ha8, .ref hc]))] := hD
  refine W.widen (k := 0) (n := 0) (Nat.le_of_ble_eq_true rfl) (Nat.le_of_ble_eq_true rfl) ?_
  obtain rfl : r_1 = 0 := h_2
  refine lv_if_eq (tgt := 17) hx hb dX11_screws_7 (by decide) (fun _ => ?_) (fun c_3 => absurd (by decide) c_3)
  refine lv_bipush (v := (-2)) hx hb dX11_screws_17 (by decide) ?_
  refine W.widen (k := 0) (n := 0) (by decide) (by decide) ?_
  exact rtI hx hb hr hlocks hS () (rfl) (hP.sub [] rfl) (hD.sub [] (by decide) rfl) dX11_screws_19

set_option maxHeartbeats 4000000 in
set_option maxRecDepth 100000 in
theorem x_lawful (l : Launch) (G : va_G) (t : Nat → ClassId) (x : Nat) (tp : Nat) (rd : Nat) (im : Nat) (mk : Nat) (sl : Nat) (ac : Nat) (cl : Nat) (xhb : Nat) (rs : Nat) (sd : Nat) (cr : Nat) (xhl : Nat) (df : Nat) (ha1 : Nat) (ha2 : Nat) (ha3 : Nat) (ha4 : Nat) (ha5 : Nat) (ha6 : Nat) (ha7 : Nat) (ha8 : Nat) (hc : Nat) : Ct l G t yX11_lawful cX11_lawful 3 (some .int) ({ frames := 1, cells := 0, slots := 0, locals := 20 }) [.ref x] [(x, .inr (11, [.ref tp, .ref rd, .ref im, .ref mk, .ref sl, .ref ac, .ref cl, .ref xhb, .ref rs, .ref sd, .ref cr, .ref xhl, .ref df])), (xhl, .inr (5, [.int 0, .int 0, .int 0, .int 0, .int 0, .int 0, .long 0, .ref ha1, .ref ha2, .ref ha3, .ref ha4, .ref ha5, .ref ha6, .ref ha7, .ref ha8, .ref hc]))] (QI G (fun r (u : Unit) => r = (-2)) (fun (u : Unit) => [])) := by
  refine ent (by decide) (Nat.le_of_ble_eq_true rfl) ?_
  intro p e s m args below meth c hx hb hr hml hts hown hlocks hin A hA hK hO hP hD hS ls hl
  have hown : s.vm.findClass RX11 = some m.cls := hown
  have hl : lv_has ls 3 [(0, .ref x)] := hl
  have C0 : Cx p s m args c cX11_lawful 3 RX11 G t := ⟨hx, hb, hml, hown, hts, hK, hO⟩
  refine lv_aload_n hx hb dX11_lawful_0 rfl (lv_at hl 0 rfl) ?_
  refine gf hx hb hts hown hK hP 0 inT11 rfl rfl 11 (by decide) tw2_138 rfl dX11_lawful_1 ?_
  refine goI (rnV C0 (c_isTold l G t xhl ha1 ha2 ha3 ha4 ha5 ha6 ha7 ha8 hc) lkX11_179 ⟨by decide, by decide⟩ (hP.sub (ws' := [(xhl, .inr (5, [.int 0, .int 0, .int 0, .int 0, .int 0, .int 0, .long 0, .ref ha1, .ref ha2, .ref ha3, .ref ha4, .ref ha5, .ref ha6, .ref ha7, .ref ha8, .ref hc]))]) [1] rfl) (hD.sub (ws' := [(xhl, .inr (5, [.int 0, .int 0, .int 0, .int 0, .int 0, .int 0, .long 0, .ref ha1, .ref ha2, .ref ha3, .ref ha4, .ref ha5, .ref ha6, .ref ha7, .ref ha8, .ref hc]))]) [1] (by decide) rfl) 0 5 rfl rfl rfl rfl hl.1 (rest := []) rfl (Nat.le_of_ble_eq_true rfl) dX11_lawful_4 ⟨by decide, by decide⟩) hP hD hS hA [1] [0] (wr := [(x, .inr (11, [.ref tp, .ref rd, .ref im, .ref mk, .ref sl, .ref ac, .ref cl, .ref xhb, .ref rs, .ref sd, .ref cr, .ref xhl, .ref df]))]) rfl rfl (by decide) (by decide) (fun r_1 u H locs h_2 hP hD hS => ?_)
  have hP : va_P G vwCl [(x, .inr (11, [.ref tp, .ref rd, .ref im, .ref mk, .ref sl, .ref ac, .ref cl, .ref xhb, .ref rs, .ref sd, .ref cr, .ref xhl, .ref df])), (xhl, .inr (5, [.int 0, .int 0, .int 0, .int 0, .int 0, .int 0, .long 0, .ref ha1, .ref ha2, .ref ha3, .ref ha4, .ref ha5, .ref ha6, .ref ha7, .ref ha8, .ref hc]))] H := hP
  have hD : va_D A [(x, .inr (11, [.ref tp, .ref rd, .ref im, .ref mk, .ref sl, .ref ac, .ref cl, .ref xhb, .ref rs, .ref sd, .ref cr, .ref xhl, .ref df])), (xhl, .inr (5, [.int 0, .int 0, .int 0, .int 0, .int 0, .int 0, .long 0, .ref ha1, .ref ha2, .ref ha3, .ref ha4, .ref ha5, .ref ha6, .ref ha7, .ref ha8, .ref hc]))] := hD
  refine W.widen (k := 0) (n := 0) (Nat.le_of_ble_eq_true rfl) (Nat.le_of_ble_eq_true rfl) ?_
  obtain rfl : r_1 = 0 := h_2
  refine lv_if_ne (tgt := 13) hx hb dX11_lawful_7 (by decide) (fun c_3 => absurd (by decide) c_3) (fun _ => ?_)
  refine lv_bipush (v := (-2)) hx hb dX11_lawful_10 (by decide) ?_
  refine W.widen (k := 0) (n := 0) (by decide) (by decide) ?_
  exact rtI hx hb hr hlocks hS () (rfl) (hP.sub [] rfl) (hD.sub [] (by decide) rfl) dX11_lawful_12

set_option maxHeartbeats 4000000 in
set_option maxRecDepth 100000 in
theorem x_out (l : Launch) (G : va_G) (t : Nat → ClassId) (x : Nat) (tp : Nat) (rd : Nat) (im : Nat) (mk : Nat) (sl : Nat) (ac : Nat) (cl : Nat) (xhb : Nat) (rs : Nat) (sd : Nat) (cr : Nat) (xhl : Nat) (df : Nat) (ha1 : Nat) (ha2 : Nat) (ha3 : Nat) (ha4 : Nat) (ha5 : Nat) (ha6 : Nat) (ha7 : Nat) (ha8 : Nat) (hc : Nat) (a0 : Int32) (b0 : Int32) : Ct l G t yX11_out cX11_out 3 (some .int) ({ frames := 1, cells := 0, slots := 0, locals := 20 }) [.ref x, .int a0, .int b0] [(x, .inr (11, [.ref tp, .ref rd, .ref im, .ref mk, .ref sl, .ref ac, .ref cl, .ref xhb, .ref rs, .ref sd, .ref cr, .ref xhl, .ref df])), (xhl, .inr (5, [.int 0, .int 0, .int 0, .int 0, .int 0, .int 0, .long 0, .ref ha1, .ref ha2, .ref ha3, .ref ha4, .ref ha5, .ref ha6, .ref ha7, .ref ha8, .ref hc]))] (QI G (fun r (u : Unit) => r = (-2)) (fun (u : Unit) => [])) := by
  refine ent (by decide) (Nat.le_of_ble_eq_true rfl) ?_
  intro p e s m args below meth c hx hb hr hml hts hown hlocks hin A hA hK hO hP hD hS ls hl
  have hown : s.vm.findClass RX11 = some m.cls := hown
  have hl : lv_has ls 3 [(0, .ref x), (1, .int a0), (2, .int b0)] := hl
  have C0 : Cx p s m args c cX11_out 3 RX11 G t := ⟨hx, hb, hml, hown, hts, hK, hO⟩
  refine lv_aload_n hx hb dX11_out_0 rfl (lv_at hl 0 rfl) ?_
  refine gf hx hb hts hown hK hP 0 inT11 rfl rfl 11 (by decide) tw2_138 rfl dX11_out_1 ?_
  refine goI (rnV C0 (c_isTold l G t xhl ha1 ha2 ha3 ha4 ha5 ha6 ha7 ha8 hc) lkX11_179 ⟨by decide, by decide⟩ (hP.sub (ws' := [(xhl, .inr (5, [.int 0, .int 0, .int 0, .int 0, .int 0, .int 0, .long 0, .ref ha1, .ref ha2, .ref ha3, .ref ha4, .ref ha5, .ref ha6, .ref ha7, .ref ha8, .ref hc]))]) [1] rfl) (hD.sub (ws' := [(xhl, .inr (5, [.int 0, .int 0, .int 0, .int 0, .int 0, .int 0, .long 0, .ref ha1, .ref ha2, .ref ha3, .ref ha4, .ref ha5, .ref ha6, .ref ha7, .ref ha8, .ref hc]))]) [1] (by decide) rfl) 0 5 rfl rfl rfl rfl hl.1 (rest := []) rfl (Nat.le_of_ble_eq_true rfl) dX11_out_4 ⟨by decide, by decide⟩) hP hD hS hA [1] [0] (wr := [(x, .inr (11, [.ref tp, .ref rd, .ref im, .ref mk, .ref sl, .ref ac, .ref cl, .ref xhb, .ref rs, .ref sd, .ref cr, .ref xhl, .ref df]))]) rfl rfl (by decide) (by decide) (fun r_1 u H locs h_2 hP hD hS => ?_)
  have hP : va_P G vwCl [(x, .inr (11, [.ref tp, .ref rd, .ref im, .ref mk, .ref sl, .ref ac, .ref cl, .ref xhb, .ref rs, .ref sd, .ref cr, .ref xhl, .ref df])), (xhl, .inr (5, [.int 0, .int 0, .int 0, .int 0, .int 0, .int 0, .long 0, .ref ha1, .ref ha2, .ref ha3, .ref ha4, .ref ha5, .ref ha6, .ref ha7, .ref ha8, .ref hc]))] H := hP
  have hD : va_D A [(x, .inr (11, [.ref tp, .ref rd, .ref im, .ref mk, .ref sl, .ref ac, .ref cl, .ref xhb, .ref rs, .ref sd, .ref cr, .ref xhl, .ref df])), (xhl, .inr (5, [.int 0, .int 0, .int 0, .int 0, .int 0, .int 0, .long 0, .ref ha1, .ref ha2, .ref ha3, .ref ha4, .ref ha5, .ref ha6, .ref ha7, .ref ha8, .ref hc]))] := hD
  refine W.widen (k := 0) (n := 0) (Nat.le_of_ble_eq_true rfl) (Nat.le_of_ble_eq_true rfl) ?_
  obtain rfl : r_1 = 0 := h_2
  refine lv_if_eq (tgt := 27) hx hb dX11_out_7 (by decide) (fun _ => ?_) (fun c_3 => absurd (by decide) c_3)
  refine lv_bipush (v := (-2)) hx hb dX11_out_27 (by decide) ?_
  refine W.widen (k := 0) (n := 0) (by decide) (by decide) ?_
  exact rtI hx hb hr hlocks hS () (rfl) (hP.sub [] rfl) (hD.sub [] (by decide) rfl) dX11_out_29

set_option maxHeartbeats 4000000 in
set_option maxRecDepth 100000 in
theorem x_soonest (l : Launch) (G : va_G) (t : Nat → ClassId) (x : Nat) (tp : Nat) (rd : Nat) (im : Nat) (mk : Nat) (sl : Nat) (ac : Nat) (cl : Nat) (xhb : Nat) (rs : Nat) (sd : Nat) (cr : Nat) (xhl : Nat) (df : Nat) (ha1 : Nat) (ha2 : Nat) (ha3 : Nat) (ha4 : Nat) (ha5 : Nat) (ha6 : Nat) (ha7 : Nat) (ha8 : Nat) (hc : Nat) (a0 : Int32) : Ct l G t yX11_soonest cX11_soonest 2 (some .int) ({ frames := 1, cells := 0, slots := 0, locals := 20 }) [.ref x, .int a0] [(x, .inr (11, [.ref tp, .ref rd, .ref im, .ref mk, .ref sl, .ref ac, .ref cl, .ref xhb, .ref rs, .ref sd, .ref cr, .ref xhl, .ref df])), (xhl, .inr (5, [.int 0, .int 0, .int 0, .int 0, .int 0, .int 0, .long 0, .ref ha1, .ref ha2, .ref ha3, .ref ha4, .ref ha5, .ref ha6, .ref ha7, .ref ha8, .ref hc]))] (QI G (fun r (u : Unit) => r = (-2)) (fun (u : Unit) => [])) := by
  refine ent (by decide) (Nat.le_of_ble_eq_true rfl) ?_
  intro p e s m args below meth c hx hb hr hml hts hown hlocks hin A hA hK hO hP hD hS ls hl
  have hown : s.vm.findClass RX11 = some m.cls := hown
  have hl : lv_has ls 2 [(0, .ref x), (1, .int a0)] := hl
  have C0 : Cx p s m args c cX11_soonest 2 RX11 G t := ⟨hx, hb, hml, hown, hts, hK, hO⟩
  refine lv_aload_n hx hb dX11_soonest_0 rfl (lv_at hl 0 rfl) ?_
  refine gf hx hb hts hown hK hP 0 inT11 rfl rfl 11 (by decide) tw2_138 rfl dX11_soonest_1 ?_
  refine goI (rnV C0 (c_isTold l G t xhl ha1 ha2 ha3 ha4 ha5 ha6 ha7 ha8 hc) lkX11_179 ⟨by decide, by decide⟩ (hP.sub (ws' := [(xhl, .inr (5, [.int 0, .int 0, .int 0, .int 0, .int 0, .int 0, .long 0, .ref ha1, .ref ha2, .ref ha3, .ref ha4, .ref ha5, .ref ha6, .ref ha7, .ref ha8, .ref hc]))]) [1] rfl) (hD.sub (ws' := [(xhl, .inr (5, [.int 0, .int 0, .int 0, .int 0, .int 0, .int 0, .long 0, .ref ha1, .ref ha2, .ref ha3, .ref ha4, .ref ha5, .ref ha6, .ref ha7, .ref ha8, .ref hc]))]) [1] (by decide) rfl) 0 5 rfl rfl rfl rfl hl.1 (rest := []) rfl (Nat.le_of_ble_eq_true rfl) dX11_soonest_4 ⟨by decide, by decide⟩) hP hD hS hA [1] [0] (wr := [(x, .inr (11, [.ref tp, .ref rd, .ref im, .ref mk, .ref sl, .ref ac, .ref cl, .ref xhb, .ref rs, .ref sd, .ref cr, .ref xhl, .ref df]))]) rfl rfl (by decide) (by decide) (fun r_1 u H locs h_2 hP hD hS => ?_)
  have hP : va_P G vwCl [(x, .inr (11, [.ref tp, .ref rd, .ref im, .ref mk, .ref sl, .ref ac, .ref cl, .ref xhb, .ref rs, .ref sd, .ref cr, .ref xhl, .ref df])), (xhl, .inr (5, [.int 0, .int 0, .int 0, .int 0, .int 0, .int 0, .long 0, .ref ha1, .ref ha2, .ref ha3, .ref ha4, .ref ha5, .ref ha6, .ref ha7, .ref ha8, .ref hc]))] H := hP
  have hD : va_D A [(x, .inr (11, [.ref tp, .ref rd, .ref im, .ref mk, .ref sl, .ref ac, .ref cl, .ref xhb, .ref rs, .ref sd, .ref cr, .ref xhl, .ref df])), (xhl, .inr (5, [.int 0, .int 0, .int 0, .int 0, .int 0, .int 0, .long 0, .ref ha1, .ref ha2, .ref ha3, .ref ha4, .ref ha5, .ref ha6, .ref ha7, .ref ha8, .ref hc]))] := hD
  refine W.widen (k := 0) (n := 0) (Nat.le_of_ble_eq_true rfl) (Nat.le_of_ble_eq_true rfl) ?_
  obtain rfl : r_1 = 0 := h_2
  refine lv_if_eq (tgt := 17) hx hb dX11_soonest_7 (by decide) (fun _ => ?_) (fun c_3 => absurd (by decide) c_3)
  refine lv_bipush (v := (-2)) hx hb dX11_soonest_17 (by decide) ?_
  refine W.widen (k := 0) (n := 0) (by decide) (by decide) ?_
  exact rtI hx hb hr hlocks hS () (rfl) (hP.sub [] rfl) (hD.sub [] (by decide) rfl) dX11_soonest_19

set_option maxHeartbeats 4000000 in
set_option maxRecDepth 100000 in
theorem x_quickest (l : Launch) (G : va_G) (t : Nat → ClassId) (x : Nat) (tp : Nat) (rd : Nat) (im : Nat) (mk : Nat) (sl : Nat) (ac : Nat) (cl : Nat) (xhb : Nat) (rs : Nat) (sd : Nat) (cr : Nat) (xhl : Nat) (df : Nat) (ha1 : Nat) (ha2 : Nat) (ha3 : Nat) (ha4 : Nat) (ha5 : Nat) (ha6 : Nat) (ha7 : Nat) (ha8 : Nat) (hc : Nat) (a0 : Int32) : Ct l G t yX11_quickest cX11_quickest 6 (some .int) ({ frames := 1, cells := 0, slots := 0, locals := 20 }) [.ref x, .int a0] [(x, .inr (11, [.ref tp, .ref rd, .ref im, .ref mk, .ref sl, .ref ac, .ref cl, .ref xhb, .ref rs, .ref sd, .ref cr, .ref xhl, .ref df])), (xhl, .inr (5, [.int 0, .int 0, .int 0, .int 0, .int 0, .int 0, .long 0, .ref ha1, .ref ha2, .ref ha3, .ref ha4, .ref ha5, .ref ha6, .ref ha7, .ref ha8, .ref hc]))] (QI G (fun r (u : Unit) => r = (-2)) (fun (u : Unit) => [])) := by
  refine ent (by decide) (Nat.le_of_ble_eq_true rfl) ?_
  intro p e s m args below meth c hx hb hr hml hts hown hlocks hin A hA hK hO hP hD hS ls hl
  have hown : s.vm.findClass RX11 = some m.cls := hown
  have hl : lv_has ls 6 [(0, .ref x), (1, .int a0)] := hl
  have C0 : Cx p s m args c cX11_quickest 6 RX11 G t := ⟨hx, hb, hml, hown, hts, hK, hO⟩
  refine lv_aload_n hx hb dX11_quickest_0 rfl (lv_at hl 0 rfl) ?_
  refine gf hx hb hts hown hK hP 0 inT11 rfl rfl 11 (by decide) tw2_138 rfl dX11_quickest_1 ?_
  refine goI (rnV C0 (c_isTold l G t xhl ha1 ha2 ha3 ha4 ha5 ha6 ha7 ha8 hc) lkX11_179 ⟨by decide, by decide⟩ (hP.sub (ws' := [(xhl, .inr (5, [.int 0, .int 0, .int 0, .int 0, .int 0, .int 0, .long 0, .ref ha1, .ref ha2, .ref ha3, .ref ha4, .ref ha5, .ref ha6, .ref ha7, .ref ha8, .ref hc]))]) [1] rfl) (hD.sub (ws' := [(xhl, .inr (5, [.int 0, .int 0, .int 0, .int 0, .int 0, .int 0, .long 0, .ref ha1, .ref ha2, .ref ha3, .ref ha4, .ref ha5, .ref ha6, .ref ha7, .ref ha8, .ref hc]))]) [1] (by decide) rfl) 0 5 rfl rfl rfl rfl hl.1 (rest := []) rfl (Nat.le_of_ble_eq_true rfl) dX11_quickest_4 ⟨by decide, by decide⟩) hP hD hS hA [1] [0] (wr := [(x, .inr (11, [.ref tp, .ref rd, .ref im, .ref mk, .ref sl, .ref ac, .ref cl, .ref xhb, .ref rs, .ref sd, .ref cr, .ref xhl, .ref df]))]) rfl rfl (by decide) (by decide) (fun r_1 u H locs h_2 hP hD hS => ?_)
  have hP : va_P G vwCl [(x, .inr (11, [.ref tp, .ref rd, .ref im, .ref mk, .ref sl, .ref ac, .ref cl, .ref xhb, .ref rs, .ref sd, .ref cr, .ref xhl, .ref df])), (xhl, .inr (5, [.int 0, .int 0, .int 0, .int 0, .int 0, .int 0, .long 0, .ref ha1, .ref ha2, .ref ha3, .ref ha4, .ref ha5, .ref ha6, .ref ha7, .ref ha8, .ref hc]))] H := hP
  have hD : va_D A [(x, .inr (11, [.ref tp, .ref rd, .ref im, .ref mk, .ref sl, .ref ac, .ref cl, .ref xhb, .ref rs, .ref sd, .ref cr, .ref xhl, .ref df])), (xhl, .inr (5, [.int 0, .int 0, .int 0, .int 0, .int 0, .int 0, .long 0, .ref ha1, .ref ha2, .ref ha3, .ref ha4, .ref ha5, .ref ha6, .ref ha7, .ref ha8, .ref hc]))] := hD
  refine W.widen (k := 0) (n := 0) (Nat.le_of_ble_eq_true rfl) (Nat.le_of_ble_eq_true rfl) ?_
  obtain rfl : r_1 = 0 := h_2
  refine lv_if_eq (tgt := 17) hx hb dX11_quickest_7 (by decide) (fun _ => ?_) (fun c_3 => absurd (by decide) c_3)
  refine lv_bipush (v := (-2)) hx hb dX11_quickest_17 (by decide) ?_
  refine W.widen (k := 0) (n := 0) (by decide) (by decide) ?_
  exact rtI hx hb hr hlocks hS () (rfl) (hP.sub [] rfl) (hD.sub [] (by decide) rfl) dX11_quickest_19

set_option maxHeartbeats 4000000 in
set_option maxRecDepth 100000 in
theorem x_wider (l : Launch) (G : va_G) (t : Nat → ClassId) (x : Nat) (tp : Nat) (rd : Nat) (im : Nat) (mk : Nat) (sl : Nat) (ac : Nat) (cl : Nat) (xhb : Nat) (rs : Nat) (sd : Nat) (cr : Nat) (xhl : Nat) (df : Nat) (ha1 : Nat) (ha2 : Nat) (ha3 : Nat) (ha4 : Nat) (ha5 : Nat) (ha6 : Nat) (ha7 : Nat) (ha8 : Nat) (hc : Nat) (a0 : Int32) (b0 : Int32) (c0 : Int32) : Ct l G t yX11_wider cX11_wider 4 (some .int) ({ frames := 1, cells := 0, slots := 0, locals := 21 }) [.ref x, .int a0, .int b0, .int c0] [(x, .inr (11, [.ref tp, .ref rd, .ref im, .ref mk, .ref sl, .ref ac, .ref cl, .ref xhb, .ref rs, .ref sd, .ref cr, .ref xhl, .ref df])), (xhl, .inr (5, [.int 0, .int 0, .int 0, .int 0, .int 0, .int 0, .long 0, .ref ha1, .ref ha2, .ref ha3, .ref ha4, .ref ha5, .ref ha6, .ref ha7, .ref ha8, .ref hc]))] (QI G (fun r (u : Unit) => r = (-2)) (fun (u : Unit) => [])) := by
  refine ent (by decide) (Nat.le_of_ble_eq_true rfl) ?_
  intro p e s m args below meth c hx hb hr hml hts hown hlocks hin A hA hK hO hP hD hS ls hl
  have hown : s.vm.findClass RX11 = some m.cls := hown
  have hl : lv_has ls 4 [(0, .ref x), (1, .int a0), (2, .int b0), (3, .int c0)] := hl
  have C0 : Cx p s m args c cX11_wider 4 RX11 G t := ⟨hx, hb, hml, hown, hts, hK, hO⟩
  refine lv_aload_n hx hb dX11_wider_0 rfl (lv_at hl 0 rfl) ?_
  refine gf hx hb hts hown hK hP 0 inT11 rfl rfl 11 (by decide) tw2_138 rfl dX11_wider_1 ?_
  refine lv_iload_n hx hb dX11_wider_4 rfl (lv_at hl 3 rfl) ?_
  refine goI (rnV C0 (c_hasExit l G t xhl ha1 ha2 ha3 ha4 ha5 ha6 ha7 ha8 hc c0) lkX11_141 ⟨by decide, by decide⟩ (hP.sub (ws' := [(xhl, .inr (5, [.int 0, .int 0, .int 0, .int 0, .int 0, .int 0, .long 0, .ref ha1, .ref ha2, .ref ha3, .ref ha4, .ref ha5, .ref ha6, .ref ha7, .ref ha8, .ref hc]))]) [1] rfl) (hD.sub (ws' := [(xhl, .inr (5, [.int 0, .int 0, .int 0, .int 0, .int 0, .int 0, .long 0, .ref ha1, .ref ha2, .ref ha3, .ref ha4, .ref ha5, .ref ha6, .ref ha7, .ref ha8, .ref hc]))]) [1] (by decide) rfl) 0 5 rfl rfl rfl rfl hl.1 (rest := []) rfl (Nat.le_of_ble_eq_true rfl) dX11_wider_5 ⟨by decide, by decide⟩) hP hD hS hA [1] [0] (wr := [(x, .inr (11, [.ref tp, .ref rd, .ref im, .ref mk, .ref sl, .ref ac, .ref cl, .ref xhb, .ref rs, .ref sd, .ref cr, .ref xhl, .ref df]))]) rfl rfl (by decide) (by decide) (fun r_1 u H locs h_2 hP hD hS => ?_)
  have hP : va_P G vwCl [(x, .inr (11, [.ref tp, .ref rd, .ref im, .ref mk, .ref sl, .ref ac, .ref cl, .ref xhb, .ref rs, .ref sd, .ref cr, .ref xhl, .ref df])), (xhl, .inr (5, [.int 0, .int 0, .int 0, .int 0, .int 0, .int 0, .long 0, .ref ha1, .ref ha2, .ref ha3, .ref ha4, .ref ha5, .ref ha6, .ref ha7, .ref ha8, .ref hc]))] H := hP
  have hD : va_D A [(x, .inr (11, [.ref tp, .ref rd, .ref im, .ref mk, .ref sl, .ref ac, .ref cl, .ref xhb, .ref rs, .ref sd, .ref cr, .ref xhl, .ref df])), (xhl, .inr (5, [.int 0, .int 0, .int 0, .int 0, .int 0, .int 0, .long 0, .ref ha1, .ref ha2, .ref ha3, .ref ha4, .ref ha5, .ref ha6, .ref ha7, .ref ha8, .ref hc]))] := hD
  refine W.widen (k := 0) (n := 0) (Nat.le_of_ble_eq_true rfl) (Nat.le_of_ble_eq_true rfl) ?_
  obtain rfl : r_1 = 0 := h_2
  refine lv_if_eq (tgt := 28) hx hb dX11_wider_8 (by decide) (fun _ => ?_) (fun c_3 => absurd (by decide) c_3)
  refine lv_bipush (v := (-2)) hx hb dX11_wider_28 (by decide) ?_
  refine W.widen (k := 0) (n := 0) (by decide) (by decide) ?_
  exact rtI hx hb hr hlocks hS () (rfl) (hP.sub [] rfl) (hD.sub [] (by decide) rfl) dX11_wider_30

set_option maxHeartbeats 4000000 in
set_option maxRecDepth 100000 in
theorem x_stand (l : Launch) (G : va_G) (t : Nat → ClassId) (x : Nat) (tp : Nat) (rd : Nat) (im : Nat) (mk : Nat) (sl : Nat) (ac : Nat) (cl : Nat) (xhb : Nat) (rs : Nat) (sd : Nat) (cr : Nat) (xhl : Nat) (df : Nat) (ha1 : Nat) (ha2 : Nat) (ha3 : Nat) (ha4 : Nat) (ha5 : Nat) (ha6 : Nat) (ha7 : Nat) (ha8 : Nat) (hc : Nat) (a0 : Int32) : Ct l G t yX11_stand cX11_stand 2 (some .int) ({ frames := 1, cells := 0, slots := 0, locals := 20 }) [.ref x, .int a0] [(x, .inr (11, [.ref tp, .ref rd, .ref im, .ref mk, .ref sl, .ref ac, .ref cl, .ref xhb, .ref rs, .ref sd, .ref cr, .ref xhl, .ref df])), (xhl, .inr (5, [.int 0, .int 0, .int 0, .int 0, .int 0, .int 0, .long 0, .ref ha1, .ref ha2, .ref ha3, .ref ha4, .ref ha5, .ref ha6, .ref ha7, .ref ha8, .ref hc]))] (QI G (fun r (u : Unit) => r = (-2)) (fun (u : Unit) => [])) := by
  refine ent (by decide) (Nat.le_of_ble_eq_true rfl) ?_
  intro p e s m args below meth c hx hb hr hml hts hown hlocks hin A hA hK hO hP hD hS ls hl
  have hown : s.vm.findClass RX11 = some m.cls := hown
  have hl : lv_has ls 2 [(0, .ref x), (1, .int a0)] := hl
  have C0 : Cx p s m args c cX11_stand 2 RX11 G t := ⟨hx, hb, hml, hown, hts, hK, hO⟩
  refine lv_aload_n hx hb dX11_stand_0 rfl (lv_at hl 0 rfl) ?_
  refine gf hx hb hts hown hK hP 0 inT11 rfl rfl 11 (by decide) tw2_138 rfl dX11_stand_1 ?_
  refine goI (rnV C0 (c_isTold l G t xhl ha1 ha2 ha3 ha4 ha5 ha6 ha7 ha8 hc) lkX11_179 ⟨by decide, by decide⟩ (hP.sub (ws' := [(xhl, .inr (5, [.int 0, .int 0, .int 0, .int 0, .int 0, .int 0, .long 0, .ref ha1, .ref ha2, .ref ha3, .ref ha4, .ref ha5, .ref ha6, .ref ha7, .ref ha8, .ref hc]))]) [1] rfl) (hD.sub (ws' := [(xhl, .inr (5, [.int 0, .int 0, .int 0, .int 0, .int 0, .int 0, .long 0, .ref ha1, .ref ha2, .ref ha3, .ref ha4, .ref ha5, .ref ha6, .ref ha7, .ref ha8, .ref hc]))]) [1] (by decide) rfl) 0 5 rfl rfl rfl rfl hl.1 (rest := []) rfl (Nat.le_of_ble_eq_true rfl) dX11_stand_4 ⟨by decide, by decide⟩) hP hD hS hA [1] [0] (wr := [(x, .inr (11, [.ref tp, .ref rd, .ref im, .ref mk, .ref sl, .ref ac, .ref cl, .ref xhb, .ref rs, .ref sd, .ref cr, .ref xhl, .ref df]))]) rfl rfl (by decide) (by decide) (fun r_1 u H locs h_2 hP hD hS => ?_)
  have hP : va_P G vwCl [(x, .inr (11, [.ref tp, .ref rd, .ref im, .ref mk, .ref sl, .ref ac, .ref cl, .ref xhb, .ref rs, .ref sd, .ref cr, .ref xhl, .ref df])), (xhl, .inr (5, [.int 0, .int 0, .int 0, .int 0, .int 0, .int 0, .long 0, .ref ha1, .ref ha2, .ref ha3, .ref ha4, .ref ha5, .ref ha6, .ref ha7, .ref ha8, .ref hc]))] H := hP
  have hD : va_D A [(x, .inr (11, [.ref tp, .ref rd, .ref im, .ref mk, .ref sl, .ref ac, .ref cl, .ref xhb, .ref rs, .ref sd, .ref cr, .ref xhl, .ref df])), (xhl, .inr (5, [.int 0, .int 0, .int 0, .int 0, .int 0, .int 0, .long 0, .ref ha1, .ref ha2, .ref ha3, .ref ha4, .ref ha5, .ref ha6, .ref ha7, .ref ha8, .ref hc]))] := hD
  refine W.widen (k := 0) (n := 0) (Nat.le_of_ble_eq_true rfl) (Nat.le_of_ble_eq_true rfl) ?_
  obtain rfl : r_1 = 0 := h_2
  refine lv_if_eq (tgt := 20) hx hb dX11_stand_7 (by decide) (fun _ => ?_) (fun c_3 => absurd (by decide) c_3)
  refine lv_bipush (v := (-2)) hx hb dX11_stand_20 (by decide) ?_
  refine W.widen (k := 0) (n := 0) (by decide) (by decide) ?_
  exact rtI hx hb hr hlocks hS () (rfl) (hP.sub [] rfl) (hD.sub [] (by decide) rfl) dX11_stand_22

set_option maxHeartbeats 4000000 in
set_option maxRecDepth 100000 in
theorem x_stands (l : Launch) (G : va_G) (t : Nat → ClassId) (x : Nat) (tp : Nat) (rd : Nat) (im : Nat) (mk : Nat) (sl : Nat) (ac : Nat) (cl : Nat) (xhb : Nat) (rs : Nat) (sd : Nat) (cr : Nat) (xhl : Nat) (df : Nat) (ha1 : Nat) (ha2 : Nat) (ha3 : Nat) (ha4 : Nat) (ha5 : Nat) (ha6 : Nat) (ha7 : Nat) (ha8 : Nat) (hc : Nat) (a0 : Int32) : Ct l G t yX11_stands cX11_stands 3 (some .int) ({ frames := 1, cells := 0, slots := 0, locals := 20 }) [.ref x, .int a0] [(x, .inr (11, [.ref tp, .ref rd, .ref im, .ref mk, .ref sl, .ref ac, .ref cl, .ref xhb, .ref rs, .ref sd, .ref cr, .ref xhl, .ref df])), (xhl, .inr (5, [.int 0, .int 0, .int 0, .int 0, .int 0, .int 0, .long 0, .ref ha1, .ref ha2, .ref ha3, .ref ha4, .ref ha5, .ref ha6, .ref ha7, .ref ha8, .ref hc]))] (QI G (fun r (u : Unit) => r = (-2)) (fun (u : Unit) => [])) := by
  refine ent (by decide) (Nat.le_of_ble_eq_true rfl) ?_
  intro p e s m args below meth c hx hb hr hml hts hown hlocks hin A hA hK hO hP hD hS ls hl
  have hown : s.vm.findClass RX11 = some m.cls := hown
  have hl : lv_has ls 3 [(0, .ref x), (1, .int a0)] := hl
  have C0 : Cx p s m args c cX11_stands 3 RX11 G t := ⟨hx, hb, hml, hown, hts, hK, hO⟩
  refine lv_aload_n hx hb dX11_stands_0 rfl (lv_at hl 0 rfl) ?_
  refine gf hx hb hts hown hK hP 0 inT11 rfl rfl 11 (by decide) tw2_138 rfl dX11_stands_1 ?_
  refine goI (rnV C0 (c_isTold l G t xhl ha1 ha2 ha3 ha4 ha5 ha6 ha7 ha8 hc) lkX11_179 ⟨by decide, by decide⟩ (hP.sub (ws' := [(xhl, .inr (5, [.int 0, .int 0, .int 0, .int 0, .int 0, .int 0, .long 0, .ref ha1, .ref ha2, .ref ha3, .ref ha4, .ref ha5, .ref ha6, .ref ha7, .ref ha8, .ref hc]))]) [1] rfl) (hD.sub (ws' := [(xhl, .inr (5, [.int 0, .int 0, .int 0, .int 0, .int 0, .int 0, .long 0, .ref ha1, .ref ha2, .ref ha3, .ref ha4, .ref ha5, .ref ha6, .ref ha7, .ref ha8, .ref hc]))]) [1] (by decide) rfl) 0 5 rfl rfl rfl rfl hl.1 (rest := []) rfl (Nat.le_of_ble_eq_true rfl) dX11_stands_4 ⟨by decide, by decide⟩) hP hD hS hA [1] [0] (wr := [(x, .inr (11, [.ref tp, .ref rd, .ref im, .ref mk, .ref sl, .ref ac, .ref cl, .ref xhb, .ref rs, .ref sd, .ref cr, .ref xhl, .ref df]))]) rfl rfl (by decide) (by decide) (fun r_1 u H locs h_2 hP hD hS => ?_)
  have hP : va_P G vwCl [(x, .inr (11, [.ref tp, .ref rd, .ref im, .ref mk, .ref sl, .ref ac, .ref cl, .ref xhb, .ref rs, .ref sd, .ref cr, .ref xhl, .ref df])), (xhl, .inr (5, [.int 0, .int 0, .int 0, .int 0, .int 0, .int 0, .long 0, .ref ha1, .ref ha2, .ref ha3, .ref ha4, .ref ha5, .ref ha6, .ref ha7, .ref ha8, .ref hc]))] H := hP
  have hD : va_D A [(x, .inr (11, [.ref tp, .ref rd, .ref im, .ref mk, .ref sl, .ref ac, .ref cl, .ref xhb, .ref rs, .ref sd, .ref cr, .ref xhl, .ref df])), (xhl, .inr (5, [.int 0, .int 0, .int 0, .int 0, .int 0, .int 0, .long 0, .ref ha1, .ref ha2, .ref ha3, .ref ha4, .ref ha5, .ref ha6, .ref ha7, .ref ha8, .ref hc]))] := hD
  refine W.widen (k := 0) (n := 0) (Nat.le_of_ble_eq_true rfl) (Nat.le_of_ble_eq_true rfl) ?_
  obtain rfl : r_1 = 0 := h_2
  refine lv_if_eq (tgt := 20) hx hb dX11_stands_7 (by decide) (fun _ => ?_) (fun c_3 => absurd (by decide) c_3)
  refine lv_bipush (v := (-2)) hx hb dX11_stands_20 (by decide) ?_
  refine W.widen (k := 0) (n := 0) (by decide) (by decide) ?_
  exact rtI hx hb hr hlocks hS () (rfl) (hP.sub [] rfl) (hD.sub [] (by decide) rfl) dX11_stands_22

set_option maxHeartbeats 4000000 in
set_option maxRecDepth 100000 in
theorem x_needs (l : Launch) (G : va_G) (t : Nat → ClassId) (x : Nat) (tp : Nat) (rd : Nat) (im : Nat) (mk : Nat) (sl : Nat) (ac : Nat) (cl : Nat) (xhb : Nat) (rs : Nat) (sd : Nat) (cr : Nat) (xhl : Nat) (df : Nat) (ha1 : Nat) (ha2 : Nat) (ha3 : Nat) (ha4 : Nat) (ha5 : Nat) (ha6 : Nat) (ha7 : Nat) (ha8 : Nat) (hc : Nat) : Ct l G t yX11_needs cX11_needs 2 (some .int) ({ frames := 1, cells := 0, slots := 0, locals := 20 }) [.ref x] [(x, .inr (11, [.ref tp, .ref rd, .ref im, .ref mk, .ref sl, .ref ac, .ref cl, .ref xhb, .ref rs, .ref sd, .ref cr, .ref xhl, .ref df])), (xhl, .inr (5, [.int 0, .int 0, .int 0, .int 0, .int 0, .int 0, .long 0, .ref ha1, .ref ha2, .ref ha3, .ref ha4, .ref ha5, .ref ha6, .ref ha7, .ref ha8, .ref hc]))] (QI G (fun r (u : Unit) => r = (-2)) (fun (u : Unit) => [])) := by
  refine ent (by decide) (Nat.le_of_ble_eq_true rfl) ?_
  intro p e s m args below meth c hx hb hr hml hts hown hlocks hin A hA hK hO hP hD hS ls hl
  have hown : s.vm.findClass RX11 = some m.cls := hown
  have hl : lv_has ls 2 [(0, .ref x)] := hl
  have C0 : Cx p s m args c cX11_needs 2 RX11 G t := ⟨hx, hb, hml, hown, hts, hK, hO⟩
  refine lv_aload_n hx hb dX11_needs_0 rfl (lv_at hl 0 rfl) ?_
  refine gf hx hb hts hown hK hP 0 inT11 rfl rfl 11 (by decide) tw2_138 rfl dX11_needs_1 ?_
  refine goI (rnV C0 (c_isTold l G t xhl ha1 ha2 ha3 ha4 ha5 ha6 ha7 ha8 hc) lkX11_179 ⟨by decide, by decide⟩ (hP.sub (ws' := [(xhl, .inr (5, [.int 0, .int 0, .int 0, .int 0, .int 0, .int 0, .long 0, .ref ha1, .ref ha2, .ref ha3, .ref ha4, .ref ha5, .ref ha6, .ref ha7, .ref ha8, .ref hc]))]) [1] rfl) (hD.sub (ws' := [(xhl, .inr (5, [.int 0, .int 0, .int 0, .int 0, .int 0, .int 0, .long 0, .ref ha1, .ref ha2, .ref ha3, .ref ha4, .ref ha5, .ref ha6, .ref ha7, .ref ha8, .ref hc]))]) [1] (by decide) rfl) 0 5 rfl rfl rfl rfl hl.1 (rest := []) rfl (Nat.le_of_ble_eq_true rfl) dX11_needs_4 ⟨by decide, by decide⟩) hP hD hS hA [1] [0] (wr := [(x, .inr (11, [.ref tp, .ref rd, .ref im, .ref mk, .ref sl, .ref ac, .ref cl, .ref xhb, .ref rs, .ref sd, .ref cr, .ref xhl, .ref df]))]) rfl rfl (by decide) (by decide) (fun r_1 u H locs h_2 hP hD hS => ?_)
  have hP : va_P G vwCl [(x, .inr (11, [.ref tp, .ref rd, .ref im, .ref mk, .ref sl, .ref ac, .ref cl, .ref xhb, .ref rs, .ref sd, .ref cr, .ref xhl, .ref df])), (xhl, .inr (5, [.int 0, .int 0, .int 0, .int 0, .int 0, .int 0, .long 0, .ref ha1, .ref ha2, .ref ha3, .ref ha4, .ref ha5, .ref ha6, .ref ha7, .ref ha8, .ref hc]))] H := hP
  have hD : va_D A [(x, .inr (11, [.ref tp, .ref rd, .ref im, .ref mk, .ref sl, .ref ac, .ref cl, .ref xhb, .ref rs, .ref sd, .ref cr, .ref xhl, .ref df])), (xhl, .inr (5, [.int 0, .int 0, .int 0, .int 0, .int 0, .int 0, .long 0, .ref ha1, .ref ha2, .ref ha3, .ref ha4, .ref ha5, .ref ha6, .ref ha7, .ref ha8, .ref hc]))] := hD
  refine W.widen (k := 0) (n := 0) (Nat.le_of_ble_eq_true rfl) (Nat.le_of_ble_eq_true rfl) ?_
  obtain rfl : r_1 = 0 := h_2
  refine lv_if_ne (tgt := 13) hx hb dX11_needs_7 (by decide) (fun c_3 => absurd (by decide) c_3) (fun _ => ?_)
  refine lv_bipush (v := (-2)) hx hb dX11_needs_10 (by decide) ?_
  refine W.widen (k := 0) (n := 0) (by decide) (by decide) ?_
  exact rtI hx hb hr hlocks hS () (rfl) (hP.sub [] rfl) (hD.sub [] (by decide) rfl) dX11_needs_12

set_option maxHeartbeats 4000000 in
set_option maxRecDepth 100000 in
theorem x_wind (l : Launch) (G : va_G) (t : Nat → ClassId) (x : Nat) (tp : Nat) (rd : Nat) (im : Nat) (mk : Nat) (sl : Nat) (ac : Nat) (cl : Nat) (xhb : Nat) (rs : Nat) (sd : Nat) (cr : Nat) (xhl : Nat) (df : Nat) (ha1 : Nat) (ha2 : Nat) (ha3 : Nat) (ha4 : Nat) (ha5 : Nat) (ha6 : Nat) (ha7 : Nat) (ha8 : Nat) (hc : Nat) (a0 : Int32) : Ct l G t yX11_wind cX11_wind 2 (some .int) ({ frames := 1, cells := 0, slots := 0, locals := 20 }) [.ref x, .int a0] [(x, .inr (11, [.ref tp, .ref rd, .ref im, .ref mk, .ref sl, .ref ac, .ref cl, .ref xhb, .ref rs, .ref sd, .ref cr, .ref xhl, .ref df])), (xhl, .inr (5, [.int 0, .int 0, .int 0, .int 0, .int 0, .int 0, .long 0, .ref ha1, .ref ha2, .ref ha3, .ref ha4, .ref ha5, .ref ha6, .ref ha7, .ref ha8, .ref hc]))] (QI G (fun r (u : Unit) => r = (-2)) (fun (u : Unit) => [])) := by
  refine ent (by decide) (Nat.le_of_ble_eq_true rfl) ?_
  intro p e s m args below meth c hx hb hr hml hts hown hlocks hin A hA hK hO hP hD hS ls hl
  have hown : s.vm.findClass RX11 = some m.cls := hown
  have hl : lv_has ls 2 [(0, .ref x), (1, .int a0)] := hl
  have C0 : Cx p s m args c cX11_wind 2 RX11 G t := ⟨hx, hb, hml, hown, hts, hK, hO⟩
  refine lv_aload_n hx hb dX11_wind_0 rfl (lv_at hl 0 rfl) ?_
  refine gf hx hb hts hown hK hP 0 inT11 rfl rfl 11 (by decide) tw2_138 rfl dX11_wind_1 ?_
  refine goI (rnV C0 (c_isTold l G t xhl ha1 ha2 ha3 ha4 ha5 ha6 ha7 ha8 hc) lkX11_179 ⟨by decide, by decide⟩ (hP.sub (ws' := [(xhl, .inr (5, [.int 0, .int 0, .int 0, .int 0, .int 0, .int 0, .long 0, .ref ha1, .ref ha2, .ref ha3, .ref ha4, .ref ha5, .ref ha6, .ref ha7, .ref ha8, .ref hc]))]) [1] rfl) (hD.sub (ws' := [(xhl, .inr (5, [.int 0, .int 0, .int 0, .int 0, .int 0, .int 0, .long 0, .ref ha1, .ref ha2, .ref ha3, .ref ha4, .ref ha5, .ref ha6, .ref ha7, .ref ha8, .ref hc]))]) [1] (by decide) rfl) 0 5 rfl rfl rfl rfl hl.1 (rest := []) rfl (Nat.le_of_ble_eq_true rfl) dX11_wind_4 ⟨by decide, by decide⟩) hP hD hS hA [1] [0] (wr := [(x, .inr (11, [.ref tp, .ref rd, .ref im, .ref mk, .ref sl, .ref ac, .ref cl, .ref xhb, .ref rs, .ref sd, .ref cr, .ref xhl, .ref df]))]) rfl rfl (by decide) (by decide) (fun r_1 u H locs h_2 hP hD hS => ?_)
  have hP : va_P G vwCl [(x, .inr (11, [.ref tp, .ref rd, .ref im, .ref mk, .ref sl, .ref ac, .ref cl, .ref xhb, .ref rs, .ref sd, .ref cr, .ref xhl, .ref df])), (xhl, .inr (5, [.int 0, .int 0, .int 0, .int 0, .int 0, .int 0, .long 0, .ref ha1, .ref ha2, .ref ha3, .ref ha4, .ref ha5, .ref ha6, .ref ha7, .ref ha8, .ref hc]))] H := hP
  have hD : va_D A [(x, .inr (11, [.ref tp, .ref rd, .ref im, .ref mk, .ref sl, .ref ac, .ref cl, .ref xhb, .ref rs, .ref sd, .ref cr, .ref xhl, .ref df])), (xhl, .inr (5, [.int 0, .int 0, .int 0, .int 0, .int 0, .int 0, .long 0, .ref ha1, .ref ha2, .ref ha3, .ref ha4, .ref ha5, .ref ha6, .ref ha7, .ref ha8, .ref hc]))] := hD
  refine W.widen (k := 0) (n := 0) (Nat.le_of_ble_eq_true rfl) (Nat.le_of_ble_eq_true rfl) ?_
  obtain rfl : r_1 = 0 := h_2
  refine lv_if_eq (tgt := 17) hx hb dX11_wind_7 (by decide) (fun _ => ?_) (fun c_3 => absurd (by decide) c_3)
  refine lv_bipush (v := (-2)) hx hb dX11_wind_17 (by decide) ?_
  refine W.widen (k := 0) (n := 0) (by decide) (by decide) ?_
  exact rtI hx hb hr hlocks hS () (rfl) (hP.sub [] rfl) (hD.sub [] (by decide) rfl) dX11_wind_19

set_option maxHeartbeats 4000000 in
set_option maxRecDepth 100000 in
theorem x_calmest (l : Launch) (G : va_G) (t : Nat → ClassId) (x : Nat) (tp : Nat) (rd : Nat) (im : Nat) (mk : Nat) (sl : Nat) (ac : Nat) (cl : Nat) (xhb : Nat) (rs : Nat) (sd : Nat) (cr : Nat) (xhl : Nat) (df : Nat) (ha1 : Nat) (ha2 : Nat) (ha3 : Nat) (ha4 : Nat) (ha5 : Nat) (ha6 : Nat) (ha7 : Nat) (ha8 : Nat) (hc : Nat) (a0 : Int32) : Ct l G t yX11_calmest cX11_calmest 6 (some .int) ({ frames := 1, cells := 0, slots := 0, locals := 20 }) [.ref x, .int a0] [(x, .inr (11, [.ref tp, .ref rd, .ref im, .ref mk, .ref sl, .ref ac, .ref cl, .ref xhb, .ref rs, .ref sd, .ref cr, .ref xhl, .ref df])), (xhl, .inr (5, [.int 0, .int 0, .int 0, .int 0, .int 0, .int 0, .long 0, .ref ha1, .ref ha2, .ref ha3, .ref ha4, .ref ha5, .ref ha6, .ref ha7, .ref ha8, .ref hc]))] (QI G (fun r (u : Unit) => r = (-2)) (fun (u : Unit) => [])) := by
  refine ent (by decide) (Nat.le_of_ble_eq_true rfl) ?_
  intro p e s m args below meth c hx hb hr hml hts hown hlocks hin A hA hK hO hP hD hS ls hl
  have hown : s.vm.findClass RX11 = some m.cls := hown
  have hl : lv_has ls 6 [(0, .ref x), (1, .int a0)] := hl
  have C0 : Cx p s m args c cX11_calmest 6 RX11 G t := ⟨hx, hb, hml, hown, hts, hK, hO⟩
  refine lv_aload_n hx hb dX11_calmest_0 rfl (lv_at hl 0 rfl) ?_
  refine gf hx hb hts hown hK hP 0 inT11 rfl rfl 11 (by decide) tw2_138 rfl dX11_calmest_1 ?_
  refine goI (rnV C0 (c_isTold l G t xhl ha1 ha2 ha3 ha4 ha5 ha6 ha7 ha8 hc) lkX11_179 ⟨by decide, by decide⟩ (hP.sub (ws' := [(xhl, .inr (5, [.int 0, .int 0, .int 0, .int 0, .int 0, .int 0, .long 0, .ref ha1, .ref ha2, .ref ha3, .ref ha4, .ref ha5, .ref ha6, .ref ha7, .ref ha8, .ref hc]))]) [1] rfl) (hD.sub (ws' := [(xhl, .inr (5, [.int 0, .int 0, .int 0, .int 0, .int 0, .int 0, .long 0, .ref ha1, .ref ha2, .ref ha3, .ref ha4, .ref ha5, .ref ha6, .ref ha7, .ref ha8, .ref hc]))]) [1] (by decide) rfl) 0 5 rfl rfl rfl rfl hl.1 (rest := []) rfl (Nat.le_of_ble_eq_true rfl) dX11_calmest_4 ⟨by decide, by decide⟩) hP hD hS hA [1] [0] (wr := [(x, .inr (11, [.ref tp, .ref rd, .ref im, .ref mk, .ref sl, .ref ac, .ref cl, .ref xhb, .ref rs, .ref sd, .ref cr, .ref xhl, .ref df]))]) rfl rfl (by decide) (by decide) (fun r_1 u H locs h_2 hP hD hS => ?_)
  have hP : va_P G vwCl [(x, .inr (11, [.ref tp, .ref rd, .ref im, .ref mk, .ref sl, .ref ac, .ref cl, .ref xhb, .ref rs, .ref sd, .ref cr, .ref xhl, .ref df])), (xhl, .inr (5, [.int 0, .int 0, .int 0, .int 0, .int 0, .int 0, .long 0, .ref ha1, .ref ha2, .ref ha3, .ref ha4, .ref ha5, .ref ha6, .ref ha7, .ref ha8, .ref hc]))] H := hP
  have hD : va_D A [(x, .inr (11, [.ref tp, .ref rd, .ref im, .ref mk, .ref sl, .ref ac, .ref cl, .ref xhb, .ref rs, .ref sd, .ref cr, .ref xhl, .ref df])), (xhl, .inr (5, [.int 0, .int 0, .int 0, .int 0, .int 0, .int 0, .long 0, .ref ha1, .ref ha2, .ref ha3, .ref ha4, .ref ha5, .ref ha6, .ref ha7, .ref ha8, .ref hc]))] := hD
  refine W.widen (k := 0) (n := 0) (Nat.le_of_ble_eq_true rfl) (Nat.le_of_ble_eq_true rfl) ?_
  obtain rfl : r_1 = 0 := h_2
  refine lv_if_eq (tgt := 17) hx hb dX11_calmest_7 (by decide) (fun _ => ?_) (fun c_3 => absurd (by decide) c_3)
  refine lv_bipush (v := (-2)) hx hb dX11_calmest_17 (by decide) ?_
  refine W.widen (k := 0) (n := 0) (by decide) (by decide) ?_
  exact rtI hx hb hr hlocks hS () (rfl) (hP.sub [] rfl) (hD.sub [] (by decide) rfl) dX11_calmest_19

set_option maxHeartbeats 4000000 in
set_option maxRecDepth 100000 in
theorem x_seen (l : Launch) (G : va_G) (t : Nat → ClassId) (x : Nat) (tp : Nat) (rd : Nat) (im : Nat) (mk : Nat) (sl : Nat) (ac : Nat) (cl : Nat) (xhb : Nat) (rs : Nat) (sd : Nat) (cr : Nat) (xhl : Nat) (df : Nat) (ha1 : Nat) (ha2 : Nat) (ha3 : Nat) (ha4 : Nat) (ha5 : Nat) (ha6 : Nat) (ha7 : Nat) (ha8 : Nat) (hc : Nat) (a0 : Int32) : Ct l G t yX11_seen cX11_seen 3 (some .long) ({ frames := 3, cells := 0, slots := 0, locals := 64 }) [.ref x, .int a0] [(x, .inr (11, [.ref tp, .ref rd, .ref im, .ref mk, .ref sl, .ref ac, .ref cl, .ref xhb, .ref rs, .ref sd, .ref cr, .ref xhl, .ref df])), (xhl, .inr (5, [.int 0, .int 0, .int 0, .int 0, .int 0, .int 0, .long 0, .ref ha1, .ref ha2, .ref ha3, .ref ha4, .ref ha5, .ref ha6, .ref ha7, .ref ha8, .ref hc]))] (QL G (fun r (u : Unit) => r = (-2)) (fun (u : Unit) => [])) := by
  refine ent (by decide) (Nat.le_of_ble_eq_true rfl) ?_
  intro p e s m args below meth c hx hb hr hml hts hown hlocks hin A hA hK hO hP hD hS ls hl
  have hown : s.vm.findClass RX11 = some m.cls := hown
  have hl : lv_has ls 3 [(0, .ref x), (1, .int a0)] := hl
  have C0 : Cx p s m args c cX11_seen 3 RX11 G t := ⟨hx, hb, hml, hown, hts, hK, hO⟩
  refine lv_aload_n hx hb dX11_seen_0 rfl (lv_at hl 0 rfl) ?_
  refine lv_iload_n hx hb dX11_seen_1 rfl (lv_at hl 1 rfl) ?_
  refine goI (rnV C0 (c_refusalOfSeen l G t x tp rd im mk sl ac cl xhb rs sd cr xhl df ha1 ha2 ha3 ha4 ha5 ha6 ha7 ha8 hc a0) lkX11_243 ⟨by decide, by decide⟩ (hP.sub (ws' := [(x, .inr (11, [.ref tp, .ref rd, .ref im, .ref mk, .ref sl, .ref ac, .ref cl, .ref xhb, .ref rs, .ref sd, .ref cr, .ref xhl, .ref df])), (xhl, .inr (5, [.int 0, .int 0, .int 0, .int 0, .int 0, .int 0, .long 0, .ref ha1, .ref ha2, .ref ha3, .ref ha4, .ref ha5, .ref ha6, .ref ha7, .ref ha8, .ref hc]))]) [0, 1] rfl) (hD.sub (ws' := [(x, .inr (11, [.ref tp, .ref rd, .ref im, .ref mk, .ref sl, .ref ac, .ref cl, .ref xhb, .ref rs, .ref sd, .ref cr, .ref xhl, .ref df])), (xhl, .inr (5, [.int 0, .int 0, .int 0, .int 0, .int 0, .int 0, .long 0, .ref ha1, .ref ha2, .ref ha3, .ref ha4, .ref ha5, .ref ha6, .ref ha7, .ref ha8, .ref hc]))]) [0, 1] (by decide) rfl) 0 11 rfl rfl rfl rfl hl.1 (rest := []) rfl (Nat.le_of_ble_eq_true rfl) dX11_seen_2 ⟨by decide, by decide⟩) hP hD hS hA [0, 1] [] (wr := []) rfl rfl (by decide) (by decide) (fun r_1 u H locs h_2 hP hD hS => ?_)
  have hP : va_P G vwCl [(x, .inr (11, [.ref tp, .ref rd, .ref im, .ref mk, .ref sl, .ref ac, .ref cl, .ref xhb, .ref rs, .ref sd, .ref cr, .ref xhl, .ref df])), (xhl, .inr (5, [.int 0, .int 0, .int 0, .int 0, .int 0, .int 0, .long 0, .ref ha1, .ref ha2, .ref ha3, .ref ha4, .ref ha5, .ref ha6, .ref ha7, .ref ha8, .ref hc]))] H := hP
  have hD : va_D A [(x, .inr (11, [.ref tp, .ref rd, .ref im, .ref mk, .ref sl, .ref ac, .ref cl, .ref xhb, .ref rs, .ref sd, .ref cr, .ref xhl, .ref df])), (xhl, .inr (5, [.int 0, .int 0, .int 0, .int 0, .int 0, .int 0, .long 0, .ref ha1, .ref ha2, .ref ha3, .ref ha4, .ref ha5, .ref ha6, .ref ha7, .ref ha8, .ref hc]))] := hD
  refine W.widen (k := 0) (n := 0) (Nat.le_of_ble_eq_true rfl) (Nat.le_of_ble_eq_true rfl) ?_
  obtain rfl : r_1 = (-2) := h_2
  refine lv_istore_n (lv' := [(2, .int (-2)), (0, .ref x), (1, .int a0)]) hx hb dX11_seen_5 rfl hl (by decide) rfl (fun ls hl => ?_)
  refine lv_iload_n hx hb dX11_seen_6 rfl (lv_at hl 0 rfl) ?_
  refine lv_if_eq (tgt := 15) hx hb dX11_seen_7 (by decide) (fun c_3 => absurd c_3 (by decide)) (fun _ => ?_)
  refine lv_iload_n hx hb dX11_seen_10 rfl (lv_at hl 0 rfl) ?_
  refine lv_i2l (v := (-2)) hx hb dX11_seen_11 (by decide) ?_
  refine lv_goto (tgt := 28) hx hb dX11_seen_12 (by decide) ?_
  refine W.widen (k := 0) (n := 0) (by decide) (by decide) ?_
  exact rtL hx hb hr hlocks hS () (rfl) (hP.sub [] rfl) (hD.sub [] (by decide) rfl) dX11_seen_28

set_option maxHeartbeats 4000000 in
set_option maxRecDepth 100000 in
theorem x_ask (l : Launch) (G : va_G) (t : Nat → ClassId) (x : Nat) (tp : Nat) (rd : Nat) (im : Nat) (mk : Nat) (sl : Nat) (ac : Nat) (cl : Nat) (xhb : Nat) (rs : Nat) (sd : Nat) (cr : Nat) (xhl : Nat) (df : Nat) (ha1 : Nat) (ha2 : Nat) (ha3 : Nat) (ha4 : Nat) (ha5 : Nat) (ha6 : Nat) (ha7 : Nat) (ha8 : Nat) (hc : Nat) (a0 : Int32) : Ct l G t yX11_ask cX11_ask 3 (some .int) ({ frames := 3, cells := 0, slots := 0, locals := 64 }) [.ref x, .int a0] [(x, .inr (11, [.ref tp, .ref rd, .ref im, .ref mk, .ref sl, .ref ac, .ref cl, .ref xhb, .ref rs, .ref sd, .ref cr, .ref xhl, .ref df])), (xhl, .inr (5, [.int 0, .int 0, .int 0, .int 0, .int 0, .int 0, .long 0, .ref ha1, .ref ha2, .ref ha3, .ref ha4, .ref ha5, .ref ha6, .ref ha7, .ref ha8, .ref hc]))] (QI G (fun r (u : Unit) => r = (-2)) (fun (u : Unit) => [])) := by
  refine ent (by decide) (Nat.le_of_ble_eq_true rfl) ?_
  intro p e s m args below meth c hx hb hr hml hts hown hlocks hin A hA hK hO hP hD hS ls hl
  have hown : s.vm.findClass RX11 = some m.cls := hown
  have hl : lv_has ls 3 [(0, .ref x), (1, .int a0)] := hl
  have C0 : Cx p s m args c cX11_ask 3 RX11 G t := ⟨hx, hb, hml, hown, hts, hK, hO⟩
  refine lv_aload_n hx hb dX11_ask_0 rfl (lv_at hl 0 rfl) ?_
  refine lv_iload_n hx hb dX11_ask_1 rfl (lv_at hl 1 rfl) ?_
  refine goI (rnV C0 (c_refusalOfSeen l G t x tp rd im mk sl ac cl xhb rs sd cr xhl df ha1 ha2 ha3 ha4 ha5 ha6 ha7 ha8 hc a0) lkX11_243 ⟨by decide, by decide⟩ (hP.sub (ws' := [(x, .inr (11, [.ref tp, .ref rd, .ref im, .ref mk, .ref sl, .ref ac, .ref cl, .ref xhb, .ref rs, .ref sd, .ref cr, .ref xhl, .ref df])), (xhl, .inr (5, [.int 0, .int 0, .int 0, .int 0, .int 0, .int 0, .long 0, .ref ha1, .ref ha2, .ref ha3, .ref ha4, .ref ha5, .ref ha6, .ref ha7, .ref ha8, .ref hc]))]) [0, 1] rfl) (hD.sub (ws' := [(x, .inr (11, [.ref tp, .ref rd, .ref im, .ref mk, .ref sl, .ref ac, .ref cl, .ref xhb, .ref rs, .ref sd, .ref cr, .ref xhl, .ref df])), (xhl, .inr (5, [.int 0, .int 0, .int 0, .int 0, .int 0, .int 0, .long 0, .ref ha1, .ref ha2, .ref ha3, .ref ha4, .ref ha5, .ref ha6, .ref ha7, .ref ha8, .ref hc]))]) [0, 1] (by decide) rfl) 0 11 rfl rfl rfl rfl hl.1 (rest := []) rfl (Nat.le_of_ble_eq_true rfl) dX11_ask_2 ⟨by decide, by decide⟩) hP hD hS hA [0, 1] [] (wr := []) rfl rfl (by decide) (by decide) (fun r_1 u H locs h_2 hP hD hS => ?_)
  have hP : va_P G vwCl [(x, .inr (11, [.ref tp, .ref rd, .ref im, .ref mk, .ref sl, .ref ac, .ref cl, .ref xhb, .ref rs, .ref sd, .ref cr, .ref xhl, .ref df])), (xhl, .inr (5, [.int 0, .int 0, .int 0, .int 0, .int 0, .int 0, .long 0, .ref ha1, .ref ha2, .ref ha3, .ref ha4, .ref ha5, .ref ha6, .ref ha7, .ref ha8, .ref hc]))] H := hP
  have hD : va_D A [(x, .inr (11, [.ref tp, .ref rd, .ref im, .ref mk, .ref sl, .ref ac, .ref cl, .ref xhb, .ref rs, .ref sd, .ref cr, .ref xhl, .ref df])), (xhl, .inr (5, [.int 0, .int 0, .int 0, .int 0, .int 0, .int 0, .long 0, .ref ha1, .ref ha2, .ref ha3, .ref ha4, .ref ha5, .ref ha6, .ref ha7, .ref ha8, .ref hc]))] := hD
  refine W.widen (k := 0) (n := 0) (Nat.le_of_ble_eq_true rfl) (Nat.le_of_ble_eq_true rfl) ?_
  obtain rfl : r_1 = (-2) := h_2
  refine lv_istore_n (lv' := [(2, .int (-2)), (0, .ref x), (1, .int a0)]) hx hb dX11_ask_5 rfl hl (by decide) rfl (fun ls hl => ?_)
  refine lv_iload_n hx hb dX11_ask_6 rfl (lv_at hl 0 rfl) ?_
  refine lv_if_eq (tgt := 14) hx hb dX11_ask_7 (by decide) (fun c_3 => absurd c_3 (by decide)) (fun _ => ?_)
  refine lv_iload_n hx hb dX11_ask_10 rfl (lv_at hl 0 rfl) ?_
  refine lv_goto (tgt := 34) hx hb dX11_ask_11 (by decide) ?_
  refine W.widen (k := 0) (n := 0) (by decide) (by decide) ?_
  exact rtI hx hb hr hlocks hS () (rfl) (hP.sub [] rfl) (hD.sub [] (by decide) rfl) dX11_ask_34

set_option maxHeartbeats 4000000 in
set_option maxRecDepth 100000 in
theorem x_leaves (l : Launch) (G : va_G) (t : Nat → ClassId) (x : Nat) (tp : Nat) (rd : Nat) (im : Nat) (mk : Nat) (sl : Nat) (ac : Nat) (cl : Nat) (xhb : Nat) (rs : Nat) (sd : Nat) (cr : Nat) (xhl : Nat) (df : Nat) (ha1 : Nat) (ha2 : Nat) (ha3 : Nat) (ha4 : Nat) (ha5 : Nat) (ha6 : Nat) (ha7 : Nat) (ha8 : Nat) (hc : Nat) (a0 : Int32) : Ct l G t yX11_leaves cX11_leaves 3 (some .int) ({ frames := 3, cells := 0, slots := 0, locals := 64 }) [.ref x, .int a0] [(x, .inr (11, [.ref tp, .ref rd, .ref im, .ref mk, .ref sl, .ref ac, .ref cl, .ref xhb, .ref rs, .ref sd, .ref cr, .ref xhl, .ref df])), (xhl, .inr (5, [.int 0, .int 0, .int 0, .int 0, .int 0, .int 0, .long 0, .ref ha1, .ref ha2, .ref ha3, .ref ha4, .ref ha5, .ref ha6, .ref ha7, .ref ha8, .ref hc]))] (QI G (fun r (u : Unit) => r = (-2)) (fun (u : Unit) => [])) := by
  refine ent (by decide) (Nat.le_of_ble_eq_true rfl) ?_
  intro p e s m args below meth c hx hb hr hml hts hown hlocks hin A hA hK hO hP hD hS ls hl
  have hown : s.vm.findClass RX11 = some m.cls := hown
  have hl : lv_has ls 3 [(0, .ref x), (1, .int a0)] := hl
  have C0 : Cx p s m args c cX11_leaves 3 RX11 G t := ⟨hx, hb, hml, hown, hts, hK, hO⟩
  refine lv_aload_n hx hb dX11_leaves_0 rfl (lv_at hl 0 rfl) ?_
  refine lv_iload_n hx hb dX11_leaves_1 rfl (lv_at hl 1 rfl) ?_
  refine goI (rnV C0 (c_refusalOfSeen l G t x tp rd im mk sl ac cl xhb rs sd cr xhl df ha1 ha2 ha3 ha4 ha5 ha6 ha7 ha8 hc a0) lkX11_243 ⟨by decide, by decide⟩ (hP.sub (ws' := [(x, .inr (11, [.ref tp, .ref rd, .ref im, .ref mk, .ref sl, .ref ac, .ref cl, .ref xhb, .ref rs, .ref sd, .ref cr, .ref xhl, .ref df])), (xhl, .inr (5, [.int 0, .int 0, .int 0, .int 0, .int 0, .int 0, .long 0, .ref ha1, .ref ha2, .ref ha3, .ref ha4, .ref ha5, .ref ha6, .ref ha7, .ref ha8, .ref hc]))]) [0, 1] rfl) (hD.sub (ws' := [(x, .inr (11, [.ref tp, .ref rd, .ref im, .ref mk, .ref sl, .ref ac, .ref cl, .ref xhb, .ref rs, .ref sd, .ref cr, .ref xhl, .ref df])), (xhl, .inr (5, [.int 0, .int 0, .int 0, .int 0, .int 0, .int 0, .long 0, .ref ha1, .ref ha2, .ref ha3, .ref ha4, .ref ha5, .ref ha6, .ref ha7, .ref ha8, .ref hc]))]) [0, 1] (by decide) rfl) 0 11 rfl rfl rfl rfl hl.1 (rest := []) rfl (Nat.le_of_ble_eq_true rfl) dX11_leaves_2 ⟨by decide, by decide⟩) hP hD hS hA [0, 1] [] (wr := []) rfl rfl (by decide) (by decide) (fun r_1 u H locs h_2 hP hD hS => ?_)
  have hP : va_P G vwCl [(x, .inr (11, [.ref tp, .ref rd, .ref im, .ref mk, .ref sl, .ref ac, .ref cl, .ref xhb, .ref rs, .ref sd, .ref cr, .ref xhl, .ref df])), (xhl, .inr (5, [.int 0, .int 0, .int 0, .int 0, .int 0, .int 0, .long 0, .ref ha1, .ref ha2, .ref ha3, .ref ha4, .ref ha5, .ref ha6, .ref ha7, .ref ha8, .ref hc]))] H := hP
  have hD : va_D A [(x, .inr (11, [.ref tp, .ref rd, .ref im, .ref mk, .ref sl, .ref ac, .ref cl, .ref xhb, .ref rs, .ref sd, .ref cr, .ref xhl, .ref df])), (xhl, .inr (5, [.int 0, .int 0, .int 0, .int 0, .int 0, .int 0, .long 0, .ref ha1, .ref ha2, .ref ha3, .ref ha4, .ref ha5, .ref ha6, .ref ha7, .ref ha8, .ref hc]))] := hD
  refine W.widen (k := 0) (n := 0) (Nat.le_of_ble_eq_true rfl) (Nat.le_of_ble_eq_true rfl) ?_
  obtain rfl : r_1 = (-2) := h_2
  refine lv_istore_n (lv' := [(2, .int (-2)), (0, .ref x), (1, .int a0)]) hx hb dX11_leaves_5 rfl hl (by decide) rfl (fun ls hl => ?_)
  refine lv_iload_n hx hb dX11_leaves_6 rfl (lv_at hl 0 rfl) ?_
  refine lv_if_eq (tgt := 14) hx hb dX11_leaves_7 (by decide) (fun c_3 => absurd c_3 (by decide)) (fun _ => ?_)
  refine lv_iload_n hx hb dX11_leaves_10 rfl (lv_at hl 0 rfl) ?_
  refine lv_goto (tgt := 34) hx hb dX11_leaves_11 (by decide) ?_
  refine W.widen (k := 0) (n := 0) (by decide) (by decide) ?_
  exact rtI hx hb hr hlocks hS () (rfl) (hP.sub [] rfl) (hD.sub [] (by decide) rfl) dX11_leaves_34

set_option maxHeartbeats 4000000 in
set_option maxRecDepth 100000 in
theorem x_fell (l : Launch) (G : va_G) (t : Nat → ClassId) (x : Nat) (tp : Nat) (rd : Nat) (im : Nat) (mk : Nat) (sl : Nat) (ac : Nat) (cl : Nat) (xhb : Nat) (rs : Nat) (sd : Nat) (cr : Nat) (xhl : Nat) (df : Nat) (ha1 : Nat) (ha2 : Nat) (ha3 : Nat) (ha4 : Nat) (ha5 : Nat) (ha6 : Nat) (ha7 : Nat) (ha8 : Nat) (hc : Nat) (a0 : Int32) : Ct l G t yX11_fell cX11_fell 3 (some .long) ({ frames := 3, cells := 0, slots := 0, locals := 64 }) [.ref x, .int a0] [(x, .inr (11, [.ref tp, .ref rd, .ref im, .ref mk, .ref sl, .ref ac, .ref cl, .ref xhb, .ref rs, .ref sd, .ref cr, .ref xhl, .ref df])), (xhl, .inr (5, [.int 0, .int 0, .int 0, .int 0, .int 0, .int 0, .long 0, .ref ha1, .ref ha2, .ref ha3, .ref ha4, .ref ha5, .ref ha6, .ref ha7, .ref ha8, .ref hc]))] (QL G (fun r (u : Unit) => r = (-2)) (fun (u : Unit) => [])) := by
  refine ent (by decide) (Nat.le_of_ble_eq_true rfl) ?_
  intro p e s m args below meth c hx hb hr hml hts hown hlocks hin A hA hK hO hP hD hS ls hl
  have hown : s.vm.findClass RX11 = some m.cls := hown
  have hl : lv_has ls 3 [(0, .ref x), (1, .int a0)] := hl
  have C0 : Cx p s m args c cX11_fell 3 RX11 G t := ⟨hx, hb, hml, hown, hts, hK, hO⟩
  refine lv_aload_n hx hb dX11_fell_0 rfl (lv_at hl 0 rfl) ?_
  refine lv_iload_n hx hb dX11_fell_1 rfl (lv_at hl 1 rfl) ?_
  refine goI (rnV C0 (c_refusalOfFell l G t x tp rd im mk sl ac cl xhb rs sd cr xhl df ha1 ha2 ha3 ha4 ha5 ha6 ha7 ha8 hc a0) lkX11_257 ⟨by decide, by decide⟩ (hP.sub (ws' := [(x, .inr (11, [.ref tp, .ref rd, .ref im, .ref mk, .ref sl, .ref ac, .ref cl, .ref xhb, .ref rs, .ref sd, .ref cr, .ref xhl, .ref df])), (xhl, .inr (5, [.int 0, .int 0, .int 0, .int 0, .int 0, .int 0, .long 0, .ref ha1, .ref ha2, .ref ha3, .ref ha4, .ref ha5, .ref ha6, .ref ha7, .ref ha8, .ref hc]))]) [0, 1] rfl) (hD.sub (ws' := [(x, .inr (11, [.ref tp, .ref rd, .ref im, .ref mk, .ref sl, .ref ac, .ref cl, .ref xhb, .ref rs, .ref sd, .ref cr, .ref xhl, .ref df])), (xhl, .inr (5, [.int 0, .int 0, .int 0, .int 0, .int 0, .int 0, .long 0, .ref ha1, .ref ha2, .ref ha3, .ref ha4, .ref ha5, .ref ha6, .ref ha7, .ref ha8, .ref hc]))]) [0, 1] (by decide) rfl) 0 11 rfl rfl rfl rfl hl.1 (rest := []) rfl (Nat.le_of_ble_eq_true rfl) dX11_fell_2 ⟨by decide, by decide⟩) hP hD hS hA [0, 1] [] (wr := []) rfl rfl (by decide) (by decide) (fun r_1 u H locs h_2 hP hD hS => ?_)
  have hP : va_P G vwCl [(x, .inr (11, [.ref tp, .ref rd, .ref im, .ref mk, .ref sl, .ref ac, .ref cl, .ref xhb, .ref rs, .ref sd, .ref cr, .ref xhl, .ref df])), (xhl, .inr (5, [.int 0, .int 0, .int 0, .int 0, .int 0, .int 0, .long 0, .ref ha1, .ref ha2, .ref ha3, .ref ha4, .ref ha5, .ref ha6, .ref ha7, .ref ha8, .ref hc]))] H := hP
  have hD : va_D A [(x, .inr (11, [.ref tp, .ref rd, .ref im, .ref mk, .ref sl, .ref ac, .ref cl, .ref xhb, .ref rs, .ref sd, .ref cr, .ref xhl, .ref df])), (xhl, .inr (5, [.int 0, .int 0, .int 0, .int 0, .int 0, .int 0, .long 0, .ref ha1, .ref ha2, .ref ha3, .ref ha4, .ref ha5, .ref ha6, .ref ha7, .ref ha8, .ref hc]))] := hD
  refine W.widen (k := 0) (n := 0) (Nat.le_of_ble_eq_true rfl) (Nat.le_of_ble_eq_true rfl) ?_
  obtain rfl : r_1 = (-2) := h_2
  refine lv_istore_n (lv' := [(2, .int (-2)), (0, .ref x), (1, .int a0)]) hx hb dX11_fell_5 rfl hl (by decide) rfl (fun ls hl => ?_)
  refine lv_iload_n hx hb dX11_fell_6 rfl (lv_at hl 0 rfl) ?_
  refine lv_if_eq (tgt := 15) hx hb dX11_fell_7 (by decide) (fun c_3 => absurd c_3 (by decide)) (fun _ => ?_)
  refine lv_iload_n hx hb dX11_fell_10 rfl (lv_at hl 0 rfl) ?_
  refine lv_i2l (v := (-2)) hx hb dX11_fell_11 (by decide) ?_
  refine lv_goto (tgt := 28) hx hb dX11_fell_12 (by decide) ?_
  refine W.widen (k := 0) (n := 0) (by decide) (by decide) ?_
  exact rtL hx hb hr hlocks hS () (rfl) (hP.sub [] rfl) (hD.sub [] (by decide) rfl) dX11_fell_28

set_option maxHeartbeats 4000000 in
set_option maxRecDepth 100000 in
theorem x_many (l : Launch) (G : va_G) (t : Nat → ClassId) (x : Nat) (tp : Nat) (rd : Nat) (im : Nat) (mk : Nat) (sl : Nat) (ac : Nat) (cl : Nat) (xhb : Nat) (rs : Nat) (sd : Nat) (cr : Nat) (xhl : Nat) (df : Nat) (ha1 : Nat) (ha2 : Nat) (ha3 : Nat) (ha4 : Nat) (ha5 : Nat) (ha6 : Nat) (ha7 : Nat) (ha8 : Nat) (hc : Nat) (a0 : Int32) : Ct l G t yX11_many cX11_many 3 (some .int) ({ frames := 3, cells := 0, slots := 0, locals := 64 }) [.ref x, .int a0] [(x, .inr (11, [.ref tp, .ref rd, .ref im, .ref mk, .ref sl, .ref ac, .ref cl, .ref xhb, .ref rs, .ref sd, .ref cr, .ref xhl, .ref df])), (xhl, .inr (5, [.int 0, .int 0, .int 0, .int 0, .int 0, .int 0, .long 0, .ref ha1, .ref ha2, .ref ha3, .ref ha4, .ref ha5, .ref ha6, .ref ha7, .ref ha8, .ref hc]))] (QI G (fun r (u : Unit) => r = (-2)) (fun (u : Unit) => [])) := by
  refine ent (by decide) (Nat.le_of_ble_eq_true rfl) ?_
  intro p e s m args below meth c hx hb hr hml hts hown hlocks hin A hA hK hO hP hD hS ls hl
  have hown : s.vm.findClass RX11 = some m.cls := hown
  have hl : lv_has ls 3 [(0, .ref x), (1, .int a0)] := hl
  have C0 : Cx p s m args c cX11_many 3 RX11 G t := ⟨hx, hb, hml, hown, hts, hK, hO⟩
  refine lv_aload_n hx hb dX11_many_0 rfl (lv_at hl 0 rfl) ?_
  refine lv_iload_n hx hb dX11_many_1 rfl (lv_at hl 1 rfl) ?_
  refine goI (rnV C0 (c_refusalOfFell l G t x tp rd im mk sl ac cl xhb rs sd cr xhl df ha1 ha2 ha3 ha4 ha5 ha6 ha7 ha8 hc a0) lkX11_257 ⟨by decide, by decide⟩ (hP.sub (ws' := [(x, .inr (11, [.ref tp, .ref rd, .ref im, .ref mk, .ref sl, .ref ac, .ref cl, .ref xhb, .ref rs, .ref sd, .ref cr, .ref xhl, .ref df])), (xhl, .inr (5, [.int 0, .int 0, .int 0, .int 0, .int 0, .int 0, .long 0, .ref ha1, .ref ha2, .ref ha3, .ref ha4, .ref ha5, .ref ha6, .ref ha7, .ref ha8, .ref hc]))]) [0, 1] rfl) (hD.sub (ws' := [(x, .inr (11, [.ref tp, .ref rd, .ref im, .ref mk, .ref sl, .ref ac, .ref cl, .ref xhb, .ref rs, .ref sd, .ref cr, .ref xhl, .ref df])), (xhl, .inr (5, [.int 0, .int 0, .int 0, .int 0, .int 0, .int 0, .long 0, .ref ha1, .ref ha2, .ref ha3, .ref ha4, .ref ha5, .ref ha6, .ref ha7, .ref ha8, .ref hc]))]) [0, 1] (by decide) rfl) 0 11 rfl rfl rfl rfl hl.1 (rest := []) rfl (Nat.le_of_ble_eq_true rfl) dX11_many_2 ⟨by decide, by decide⟩) hP hD hS hA [0, 1] [] (wr := []) rfl rfl (by decide) (by decide) (fun r_1 u H locs h_2 hP hD hS => ?_)
  have hP : va_P G vwCl [(x, .inr (11, [.ref tp, .ref rd, .ref im, .ref mk, .ref sl, .ref ac, .ref cl, .ref xhb, .ref rs, .ref sd, .ref cr, .ref xhl, .ref df])), (xhl, .inr (5, [.int 0, .int 0, .int 0, .int 0, .int 0, .int 0, .long 0, .ref ha1, .ref ha2, .ref ha3, .ref ha4, .ref ha5, .ref ha6, .ref ha7, .ref ha8, .ref hc]))] H := hP
  have hD : va_D A [(x, .inr (11, [.ref tp, .ref rd, .ref im, .ref mk, .ref sl, .ref ac, .ref cl, .ref xhb, .ref rs, .ref sd, .ref cr, .ref xhl, .ref df])), (xhl, .inr (5, [.int 0, .int 0, .int 0, .int 0, .int 0, .int 0, .long 0, .ref ha1, .ref ha2, .ref ha3, .ref ha4, .ref ha5, .ref ha6, .ref ha7, .ref ha8, .ref hc]))] := hD
  refine W.widen (k := 0) (n := 0) (Nat.le_of_ble_eq_true rfl) (Nat.le_of_ble_eq_true rfl) ?_
  obtain rfl : r_1 = (-2) := h_2
  refine lv_istore_n (lv' := [(2, .int (-2)), (0, .ref x), (1, .int a0)]) hx hb dX11_many_5 rfl hl (by decide) rfl (fun ls hl => ?_)
  refine lv_iload_n hx hb dX11_many_6 rfl (lv_at hl 0 rfl) ?_
  refine lv_if_eq (tgt := 14) hx hb dX11_many_7 (by decide) (fun c_3 => absurd c_3 (by decide)) (fun _ => ?_)
  refine lv_iload_n hx hb dX11_many_10 rfl (lv_at hl 0 rfl) ?_
  refine lv_goto (tgt := 30) hx hb dX11_many_11 (by decide) ?_
  refine W.widen (k := 0) (n := 0) (by decide) (by decide) ?_
  exact rtI hx hb hr hlocks hS () (rfl) (hP.sub [] rfl) (hD.sub [] (by decide) rfl) dX11_many_30

set_option maxHeartbeats 4000000 in
set_option maxRecDepth 100000 in
theorem x_sure (l : Launch) (G : va_G) (t : Nat → ClassId) (x : Nat) (tp : Nat) (rd : Nat) (im : Nat) (mk : Nat) (sl : Nat) (ac : Nat) (cl : Nat) (xhb : Nat) (rs : Nat) (sd : Nat) (cr : Nat) (xhl : Nat) (df : Nat) (ha1 : Nat) (ha2 : Nat) (ha3 : Nat) (ha4 : Nat) (ha5 : Nat) (ha6 : Nat) (ha7 : Nat) (ha8 : Nat) (hc : Nat) (a0 : Int32) (b0 : Int32) : Ct l G t yX11_sure cX11_sure 4 (some .int) ({ frames := 1, cells := 0, slots := 0, locals := 21 }) [.ref x, .int a0, .int b0] [(x, .inr (11, [.ref tp, .ref rd, .ref im, .ref mk, .ref sl, .ref ac, .ref cl, .ref xhb, .ref rs, .ref sd, .ref cr, .ref xhl, .ref df])), (xhl, .inr (5, [.int 0, .int 0, .int 0, .int 0, .int 0, .int 0, .long 0, .ref ha1, .ref ha2, .ref ha3, .ref ha4, .ref ha5, .ref ha6, .ref ha7, .ref ha8, .ref hc]))] (QI G (fun r (u : Unit) => r = (-2)) (fun (u : Unit) => [])) := by
  refine ent (by decide) (Nat.le_of_ble_eq_true rfl) ?_
  intro p e s m args below meth c hx hb hr hml hts hown hlocks hin A hA hK hO hP hD hS ls hl
  have hown : s.vm.findClass RX11 = some m.cls := hown
  have hl : lv_has ls 4 [(0, .ref x), (1, .int a0), (2, .int b0)] := hl
  have C0 : Cx p s m args c cX11_sure 4 RX11 G t := ⟨hx, hb, hml, hown, hts, hK, hO⟩
  refine lv_aload_n hx hb dX11_sure_0 rfl (lv_at hl 0 rfl) ?_
  refine gf hx hb hts hown hK hP 0 inT11 rfl rfl 11 (by decide) tw2_138 rfl dX11_sure_1 ?_
  refine lv_iload_n hx hb dX11_sure_4 rfl (lv_at hl 2 rfl) ?_
  refine goI (rnV C0 (c_hasExit l G t xhl ha1 ha2 ha3 ha4 ha5 ha6 ha7 ha8 hc b0) lkX11_141 ⟨by decide, by decide⟩ (hP.sub (ws' := [(xhl, .inr (5, [.int 0, .int 0, .int 0, .int 0, .int 0, .int 0, .long 0, .ref ha1, .ref ha2, .ref ha3, .ref ha4, .ref ha5, .ref ha6, .ref ha7, .ref ha8, .ref hc]))]) [1] rfl) (hD.sub (ws' := [(xhl, .inr (5, [.int 0, .int 0, .int 0, .int 0, .int 0, .int 0, .long 0, .ref ha1, .ref ha2, .ref ha3, .ref ha4, .ref ha5, .ref ha6, .ref ha7, .ref ha8, .ref hc]))]) [1] (by decide) rfl) 0 5 rfl rfl rfl rfl hl.1 (rest := []) rfl (Nat.le_of_ble_eq_true rfl) dX11_sure_5 ⟨by decide, by decide⟩) hP hD hS hA [1] [0] (wr := [(x, .inr (11, [.ref tp, .ref rd, .ref im, .ref mk, .ref sl, .ref ac, .ref cl, .ref xhb, .ref rs, .ref sd, .ref cr, .ref xhl, .ref df]))]) rfl rfl (by decide) (by decide) (fun r_1 u H locs h_2 hP hD hS => ?_)
  have hP : va_P G vwCl [(x, .inr (11, [.ref tp, .ref rd, .ref im, .ref mk, .ref sl, .ref ac, .ref cl, .ref xhb, .ref rs, .ref sd, .ref cr, .ref xhl, .ref df])), (xhl, .inr (5, [.int 0, .int 0, .int 0, .int 0, .int 0, .int 0, .long 0, .ref ha1, .ref ha2, .ref ha3, .ref ha4, .ref ha5, .ref ha6, .ref ha7, .ref ha8, .ref hc]))] H := hP
  have hD : va_D A [(x, .inr (11, [.ref tp, .ref rd, .ref im, .ref mk, .ref sl, .ref ac, .ref cl, .ref xhb, .ref rs, .ref sd, .ref cr, .ref xhl, .ref df])), (xhl, .inr (5, [.int 0, .int 0, .int 0, .int 0, .int 0, .int 0, .long 0, .ref ha1, .ref ha2, .ref ha3, .ref ha4, .ref ha5, .ref ha6, .ref ha7, .ref ha8, .ref hc]))] := hD
  refine W.widen (k := 0) (n := 0) (Nat.le_of_ble_eq_true rfl) (Nat.le_of_ble_eq_true rfl) ?_
  obtain rfl : r_1 = 0 := h_2
  refine lv_if_ne (tgt := 14) hx hb dX11_sure_8 (by decide) (fun c_3 => absurd (by decide) c_3) (fun _ => ?_)
  refine lv_bipush (v := (-2)) hx hb dX11_sure_11 (by decide) ?_
  refine W.widen (k := 0) (n := 0) (by decide) (by decide) ?_
  exact rtI hx hb hr hlocks hS () (rfl) (hP.sub [] rfl) (hD.sub [] (by decide) rfl) dX11_sure_13

set_option maxHeartbeats 4000000 in
set_option maxRecDepth 100000 in
theorem x_known (l : Launch) (G : va_G) (t : Nat → ClassId) (x : Nat) (tp : Nat) (rd : Nat) (im : Nat) (mk : Nat) (sl : Nat) (ac : Nat) (cl : Nat) (xhb : Nat) (rs : Nat) (sd : Nat) (cr : Nat) (xhl : Nat) (df : Nat) (ha1 : Nat) (ha2 : Nat) (ha3 : Nat) (ha4 : Nat) (ha5 : Nat) (ha6 : Nat) (ha7 : Nat) (ha8 : Nat) (hc : Nat) (a0 : Int32) (b0 : Int32) (c0 : Int32) : Ct l G t yX11_known cX11_known 4 (some .int) ({ frames := 1, cells := 0, slots := 0, locals := 22 }) [.ref x, .int a0, .int b0, .int c0] [(x, .inr (11, [.ref tp, .ref rd, .ref im, .ref mk, .ref sl, .ref ac, .ref cl, .ref xhb, .ref rs, .ref sd, .ref cr, .ref xhl, .ref df])), (xhl, .inr (5, [.int 0, .int 0, .int 0, .int 0, .int 0, .int 0, .long 0, .ref ha1, .ref ha2, .ref ha3, .ref ha4, .ref ha5, .ref ha6, .ref ha7, .ref ha8, .ref hc]))] (QI G (fun r (u : Unit) => r = (-2)) (fun (u : Unit) => [])) := by
  refine ent (by decide) (Nat.le_of_ble_eq_true rfl) ?_
  intro p e s m args below meth c hx hb hr hml hts hown hlocks hin A hA hK hO hP hD hS ls hl
  have hown : s.vm.findClass RX11 = some m.cls := hown
  have hl : lv_has ls 4 [(0, .ref x), (1, .int a0), (2, .int b0), (3, .int c0)] := hl
  have C0 : Cx p s m args c cX11_known 4 RX11 G t := ⟨hx, hb, hml, hown, hts, hK, hO⟩
  refine lv_aload_n hx hb dX11_known_0 rfl (lv_at hl 0 rfl) ?_
  refine gf hx hb hts hown hK hP 0 inT11 rfl rfl 11 (by decide) tw2_138 rfl dX11_known_1 ?_
  refine lv_iload_n hx hb dX11_known_4 rfl (lv_at hl 1 rfl) ?_
  refine lv_iload_n hx hb dX11_known_5 rfl (lv_at hl 2 rfl) ?_
  refine goI (rnV C0 (c_hasSeat l G t xhl ha1 ha2 ha3 ha4 ha5 ha6 ha7 ha8 hc a0 b0) lkX11_156 ⟨by decide, by decide⟩ (hP.sub (ws' := [(xhl, .inr (5, [.int 0, .int 0, .int 0, .int 0, .int 0, .int 0, .long 0, .ref ha1, .ref ha2, .ref ha3, .ref ha4, .ref ha5, .ref ha6, .ref ha7, .ref ha8, .ref hc]))]) [1] rfl) (hD.sub (ws' := [(xhl, .inr (5, [.int 0, .int 0, .int 0, .int 0, .int 0, .int 0, .long 0, .ref ha1, .ref ha2, .ref ha3, .ref ha4, .ref ha5, .ref ha6, .ref ha7, .ref ha8, .ref hc]))]) [1] (by decide) rfl) 0 5 rfl rfl rfl rfl hl.1 (rest := []) rfl (Nat.le_of_ble_eq_true rfl) dX11_known_6 ⟨by decide, by decide⟩) hP hD hS hA [1] [0] (wr := [(x, .inr (11, [.ref tp, .ref rd, .ref im, .ref mk, .ref sl, .ref ac, .ref cl, .ref xhb, .ref rs, .ref sd, .ref cr, .ref xhl, .ref df]))]) rfl rfl (by decide) (by decide) (fun r_1 u H locs h_2 hP hD hS => ?_)
  have hP : va_P G vwCl [(x, .inr (11, [.ref tp, .ref rd, .ref im, .ref mk, .ref sl, .ref ac, .ref cl, .ref xhb, .ref rs, .ref sd, .ref cr, .ref xhl, .ref df])), (xhl, .inr (5, [.int 0, .int 0, .int 0, .int 0, .int 0, .int 0, .long 0, .ref ha1, .ref ha2, .ref ha3, .ref ha4, .ref ha5, .ref ha6, .ref ha7, .ref ha8, .ref hc]))] H := hP
  have hD : va_D A [(x, .inr (11, [.ref tp, .ref rd, .ref im, .ref mk, .ref sl, .ref ac, .ref cl, .ref xhb, .ref rs, .ref sd, .ref cr, .ref xhl, .ref df])), (xhl, .inr (5, [.int 0, .int 0, .int 0, .int 0, .int 0, .int 0, .long 0, .ref ha1, .ref ha2, .ref ha3, .ref ha4, .ref ha5, .ref ha6, .ref ha7, .ref ha8, .ref hc]))] := hD
  refine W.widen (k := 0) (n := 0) (Nat.le_of_ble_eq_true rfl) (Nat.le_of_ble_eq_true rfl) ?_
  obtain rfl : r_1 = 0 := h_2
  refine lv_if_eq (tgt := 19) hx hb dX11_known_9 (by decide) (fun _ => ?_) (fun c_3 => absurd (by decide) c_3)
  refine lv_bipush (v := (-2)) hx hb dX11_known_19 (by decide) ?_
  refine W.widen (k := 0) (n := 0) (by decide) (by decide) ?_
  exact rtI hx hb hr hlocks hS () (rfl) (hP.sub [] rfl) (hD.sub [] (by decide) rfl) dX11_known_21

set_option maxHeartbeats 4000000 in
set_option maxRecDepth 100000 in
theorem x_blind (l : Launch) (G : va_G) (t : Nat → ClassId) (x : Nat) (tp : Nat) (rd : Nat) (im : Nat) (mk : Nat) (sl : Nat) (ac : Nat) (cl : Nat) (xhb : Nat) (rs : Nat) (sd : Nat) (cr : Nat) (xhl : Nat) (df : Nat) (ha1 : Nat) (ha2 : Nat) (ha3 : Nat) (ha4 : Nat) (ha5 : Nat) (ha6 : Nat) (ha7 : Nat) (ha8 : Nat) (hc : Nat) (a0 : Int32) (b0 : Int32) (c0 : Int32) : Ct l G t yX11_blind cX11_blind 5 (some .int) ({ frames := 1, cells := 0, slots := 0, locals := 22 }) [.ref x, .int a0, .int b0, .int c0] [(x, .inr (11, [.ref tp, .ref rd, .ref im, .ref mk, .ref sl, .ref ac, .ref cl, .ref xhb, .ref rs, .ref sd, .ref cr, .ref xhl, .ref df])), (xhl, .inr (5, [.int 0, .int 0, .int 0, .int 0, .int 0, .int 0, .long 0, .ref ha1, .ref ha2, .ref ha3, .ref ha4, .ref ha5, .ref ha6, .ref ha7, .ref ha8, .ref hc]))] (QI G (fun r (u : Unit) => r = (-2)) (fun (u : Unit) => [])) := by
  refine ent (by decide) (Nat.le_of_ble_eq_true rfl) ?_
  intro p e s m args below meth c hx hb hr hml hts hown hlocks hin A hA hK hO hP hD hS ls hl
  have hown : s.vm.findClass RX11 = some m.cls := hown
  have hl : lv_has ls 5 [(0, .ref x), (1, .int a0), (2, .int b0), (3, .int c0)] := hl
  have C0 : Cx p s m args c cX11_blind 5 RX11 G t := ⟨hx, hb, hml, hown, hts, hK, hO⟩
  refine lv_aload_n hx hb dX11_blind_0 rfl (lv_at hl 0 rfl) ?_
  refine gf hx hb hts hown hK hP 0 inT11 rfl rfl 11 (by decide) tw2_138 rfl dX11_blind_1 ?_
  refine lv_iload_n hx hb dX11_blind_4 rfl (lv_at hl 1 rfl) ?_
  refine lv_iload_n hx hb dX11_blind_5 rfl (lv_at hl 2 rfl) ?_
  refine goI (rnV C0 (c_hasSeat l G t xhl ha1 ha2 ha3 ha4 ha5 ha6 ha7 ha8 hc a0 b0) lkX11_156 ⟨by decide, by decide⟩ (hP.sub (ws' := [(xhl, .inr (5, [.int 0, .int 0, .int 0, .int 0, .int 0, .int 0, .long 0, .ref ha1, .ref ha2, .ref ha3, .ref ha4, .ref ha5, .ref ha6, .ref ha7, .ref ha8, .ref hc]))]) [1] rfl) (hD.sub (ws' := [(xhl, .inr (5, [.int 0, .int 0, .int 0, .int 0, .int 0, .int 0, .long 0, .ref ha1, .ref ha2, .ref ha3, .ref ha4, .ref ha5, .ref ha6, .ref ha7, .ref ha8, .ref hc]))]) [1] (by decide) rfl) 0 5 rfl rfl rfl rfl hl.1 (rest := []) rfl (Nat.le_of_ble_eq_true rfl) dX11_blind_6 ⟨by decide, by decide⟩) hP hD hS hA [1] [0] (wr := [(x, .inr (11, [.ref tp, .ref rd, .ref im, .ref mk, .ref sl, .ref ac, .ref cl, .ref xhb, .ref rs, .ref sd, .ref cr, .ref xhl, .ref df]))]) rfl rfl (by decide) (by decide) (fun r_1 u H locs h_2 hP hD hS => ?_)
  have hP : va_P G vwCl [(x, .inr (11, [.ref tp, .ref rd, .ref im, .ref mk, .ref sl, .ref ac, .ref cl, .ref xhb, .ref rs, .ref sd, .ref cr, .ref xhl, .ref df])), (xhl, .inr (5, [.int 0, .int 0, .int 0, .int 0, .int 0, .int 0, .long 0, .ref ha1, .ref ha2, .ref ha3, .ref ha4, .ref ha5, .ref ha6, .ref ha7, .ref ha8, .ref hc]))] H := hP
  have hD : va_D A [(x, .inr (11, [.ref tp, .ref rd, .ref im, .ref mk, .ref sl, .ref ac, .ref cl, .ref xhb, .ref rs, .ref sd, .ref cr, .ref xhl, .ref df])), (xhl, .inr (5, [.int 0, .int 0, .int 0, .int 0, .int 0, .int 0, .long 0, .ref ha1, .ref ha2, .ref ha3, .ref ha4, .ref ha5, .ref ha6, .ref ha7, .ref ha8, .ref hc]))] := hD
  refine W.widen (k := 0) (n := 0) (Nat.le_of_ble_eq_true rfl) (Nat.le_of_ble_eq_true rfl) ?_
  obtain rfl : r_1 = 0 := h_2
  refine lv_if_eq (tgt := 29) hx hb dX11_blind_9 (by decide) (fun _ => ?_) (fun c_3 => absurd (by decide) c_3)
  refine lv_bipush (v := (-2)) hx hb dX11_blind_29 (by decide) ?_
  refine W.widen (k := 0) (n := 0) (by decide) (by decide) ?_
  exact rtI hx hb hr hlocks hS () (rfl) (hP.sub [] rfl) (hD.sub [] (by decide) rfl) dX11_blind_31

set_option maxHeartbeats 4000000 in
set_option maxRecDepth 100000 in
theorem x_goes (l : Launch) (G : va_G) (t : Nat → ClassId) (x : Nat) (tp : Nat) (rd : Nat) (im : Nat) (mk : Nat) (sl : Nat) (ac : Nat) (cl : Nat) (xhb : Nat) (rs : Nat) (sd : Nat) (cr : Nat) (xhl : Nat) (df : Nat) (ha1 : Nat) (ha2 : Nat) (ha3 : Nat) (ha4 : Nat) (ha5 : Nat) (ha6 : Nat) (ha7 : Nat) (ha8 : Nat) (hc : Nat) (a0 : Int32) (b0 : Int32) (c0 : Int32) : Ct l G t yX11_goes cX11_goes 4 (some .int) ({ frames := 1, cells := 0, slots := 0, locals := 22 }) [.ref x, .int a0, .int b0, .int c0] [(x, .inr (11, [.ref tp, .ref rd, .ref im, .ref mk, .ref sl, .ref ac, .ref cl, .ref xhb, .ref rs, .ref sd, .ref cr, .ref xhl, .ref df])), (xhl, .inr (5, [.int 0, .int 0, .int 0, .int 0, .int 0, .int 0, .long 0, .ref ha1, .ref ha2, .ref ha3, .ref ha4, .ref ha5, .ref ha6, .ref ha7, .ref ha8, .ref hc]))] (QI G (fun r (u : Unit) => r = (-2)) (fun (u : Unit) => [])) := by
  refine ent (by decide) (Nat.le_of_ble_eq_true rfl) ?_
  intro p e s m args below meth c hx hb hr hml hts hown hlocks hin A hA hK hO hP hD hS ls hl
  have hown : s.vm.findClass RX11 = some m.cls := hown
  have hl : lv_has ls 4 [(0, .ref x), (1, .int a0), (2, .int b0), (3, .int c0)] := hl
  have C0 : Cx p s m args c cX11_goes 4 RX11 G t := ⟨hx, hb, hml, hown, hts, hK, hO⟩
  refine lv_aload_n hx hb dX11_goes_0 rfl (lv_at hl 0 rfl) ?_
  refine gf hx hb hts hown hK hP 0 inT11 rfl rfl 11 (by decide) tw2_138 rfl dX11_goes_1 ?_
  refine lv_iload_n hx hb dX11_goes_4 rfl (lv_at hl 1 rfl) ?_
  refine lv_iload_n hx hb dX11_goes_5 rfl (lv_at hl 2 rfl) ?_
  refine goI (rnV C0 (c_hasSeat l G t xhl ha1 ha2 ha3 ha4 ha5 ha6 ha7 ha8 hc a0 b0) lkX11_156 ⟨by decide, by decide⟩ (hP.sub (ws' := [(xhl, .inr (5, [.int 0, .int 0, .int 0, .int 0, .int 0, .int 0, .long 0, .ref ha1, .ref ha2, .ref ha3, .ref ha4, .ref ha5, .ref ha6, .ref ha7, .ref ha8, .ref hc]))]) [1] rfl) (hD.sub (ws' := [(xhl, .inr (5, [.int 0, .int 0, .int 0, .int 0, .int 0, .int 0, .long 0, .ref ha1, .ref ha2, .ref ha3, .ref ha4, .ref ha5, .ref ha6, .ref ha7, .ref ha8, .ref hc]))]) [1] (by decide) rfl) 0 5 rfl rfl rfl rfl hl.1 (rest := []) rfl (Nat.le_of_ble_eq_true rfl) dX11_goes_6 ⟨by decide, by decide⟩) hP hD hS hA [1] [0] (wr := [(x, .inr (11, [.ref tp, .ref rd, .ref im, .ref mk, .ref sl, .ref ac, .ref cl, .ref xhb, .ref rs, .ref sd, .ref cr, .ref xhl, .ref df]))]) rfl rfl (by decide) (by decide) (fun r_1 u H locs h_2 hP hD hS => ?_)
  have hP : va_P G vwCl [(x, .inr (11, [.ref tp, .ref rd, .ref im, .ref mk, .ref sl, .ref ac, .ref cl, .ref xhb, .ref rs, .ref sd, .ref cr, .ref xhl, .ref df])), (xhl, .inr (5, [.int 0, .int 0, .int 0, .int 0, .int 0, .int 0, .long 0, .ref ha1, .ref ha2, .ref ha3, .ref ha4, .ref ha5, .ref ha6, .ref ha7, .ref ha8, .ref hc]))] H := hP
  have hD : va_D A [(x, .inr (11, [.ref tp, .ref rd, .ref im, .ref mk, .ref sl, .ref ac, .ref cl, .ref xhb, .ref rs, .ref sd, .ref cr, .ref xhl, .ref df])), (xhl, .inr (5, [.int 0, .int 0, .int 0, .int 0, .int 0, .int 0, .long 0, .ref ha1, .ref ha2, .ref ha3, .ref ha4, .ref ha5, .ref ha6, .ref ha7, .ref ha8, .ref hc]))] := hD
  refine W.widen (k := 0) (n := 0) (Nat.le_of_ble_eq_true rfl) (Nat.le_of_ble_eq_true rfl) ?_
  obtain rfl : r_1 = 0 := h_2
  refine lv_if_eq (tgt := 29) hx hb dX11_goes_9 (by decide) (fun _ => ?_) (fun c_3 => absurd (by decide) c_3)
  refine lv_bipush (v := (-2)) hx hb dX11_goes_29 (by decide) ?_
  refine W.widen (k := 0) (n := 0) (by decide) (by decide) ?_
  exact rtI hx hb hr hlocks hS () (rfl) (hP.sub [] rfl) (hD.sub [] (by decide) rfl) dX11_goes_31

set_option maxHeartbeats 4000000 in
set_option maxRecDepth 100000 in
theorem x_worth (l : Launch) (G : va_G) (t : Nat → ClassId) (x : Nat) (tp : Nat) (rd : Nat) (im : Nat) (mk : Nat) (sl : Nat) (ac : Nat) (cl : Nat) (xhb : Nat) (rs : Nat) (sd : Nat) (cr : Nat) (xhl : Nat) (df : Nat) (ha1 : Nat) (ha2 : Nat) (ha3 : Nat) (ha4 : Nat) (ha5 : Nat) (ha6 : Nat) (ha7 : Nat) (ha8 : Nat) (hc : Nat) (a0 : Int32) : Ct l G t yX11_worth cX11_worth 4 (some .int) ({ frames := 1, cells := 0, slots := 0, locals := 20 }) [.ref x, .int a0] [(x, .inr (11, [.ref tp, .ref rd, .ref im, .ref mk, .ref sl, .ref ac, .ref cl, .ref xhb, .ref rs, .ref sd, .ref cr, .ref xhl, .ref df])), (xhl, .inr (5, [.int 0, .int 0, .int 0, .int 0, .int 0, .int 0, .long 0, .ref ha1, .ref ha2, .ref ha3, .ref ha4, .ref ha5, .ref ha6, .ref ha7, .ref ha8, .ref hc]))] (QI G (fun r (u : Unit) => r = (-2)) (fun (u : Unit) => [])) := by
  refine ent (by decide) (Nat.le_of_ble_eq_true rfl) ?_
  intro p e s m args below meth c hx hb hr hml hts hown hlocks hin A hA hK hO hP hD hS ls hl
  have hown : s.vm.findClass RX11 = some m.cls := hown
  have hl : lv_has ls 4 [(0, .ref x), (1, .int a0)] := hl
  have C0 : Cx p s m args c cX11_worth 4 RX11 G t := ⟨hx, hb, hml, hown, hts, hK, hO⟩
  refine lv_iload_n hx hb dX11_worth_0 rfl (lv_at hl 1 rfl) ?_
  refine goI (rnS C0 (c_isCountOfActs l G t a0) lkX11_226 ⟨by decide, by decide⟩ (hP.sub (ws' := []) [] rfl) (hD.sub (ws' := []) [] (by decide) rfl) rfl hl.1 (rest := []) rfl (Nat.le_of_ble_eq_true rfl) dX11_worth_1 ⟨by decide, by decide⟩) hP hD hS hA [] [0, 1] (wr := [(x, .inr (11, [.ref tp, .ref rd, .ref im, .ref mk, .ref sl, .ref ac, .ref cl, .ref xhb, .ref rs, .ref sd, .ref cr, .ref xhl, .ref df])), (xhl, .inr (5, [.int 0, .int 0, .int 0, .int 0, .int 0, .int 0, .long 0, .ref ha1, .ref ha2, .ref ha3, .ref ha4, .ref ha5, .ref ha6, .ref ha7, .ref ha8, .ref hc]))]) rfl rfl (by decide) (by decide) (fun r_1 u H locs h_2 hP hD hS => ?_)
  have hP : va_P G vwCl [(x, .inr (11, [.ref tp, .ref rd, .ref im, .ref mk, .ref sl, .ref ac, .ref cl, .ref xhb, .ref rs, .ref sd, .ref cr, .ref xhl, .ref df])), (xhl, .inr (5, [.int 0, .int 0, .int 0, .int 0, .int 0, .int 0, .long 0, .ref ha1, .ref ha2, .ref ha3, .ref ha4, .ref ha5, .ref ha6, .ref ha7, .ref ha8, .ref hc]))] H := hP
  have hD : va_D A [(x, .inr (11, [.ref tp, .ref rd, .ref im, .ref mk, .ref sl, .ref ac, .ref cl, .ref xhb, .ref rs, .ref sd, .ref cr, .ref xhl, .ref df])), (xhl, .inr (5, [.int 0, .int 0, .int 0, .int 0, .int 0, .int 0, .long 0, .ref ha1, .ref ha2, .ref ha3, .ref ha4, .ref ha5, .ref ha6, .ref ha7, .ref ha8, .ref hc]))] := hD
  refine W.widen (k := 0) (n := 0) (Nat.le_of_ble_eq_true rfl) (Nat.le_of_ble_eq_true rfl) ?_
  have h_2 : (r_1 = 0 ∧ True) ∨ (r_1 = 1 ∧ True) := h_2
  rcases h_2 with ⟨rfl, f_3⟩ | ⟨rfl, f_3⟩
  · refine lv_if_eq (tgt := 17) hx hb dX11_worth_4 (by decide) (fun _ => ?_) (fun c_4 => absurd (by decide) c_4)
    refine lv_bipush (v := (-2)) hx hb dX11_worth_17 (by decide) ?_
    refine W.widen (k := 0) (n := 0) (by decide) (by decide) ?_
    exact rtI hx hb hr hlocks hS () (rfl) (hP.sub [] rfl) (hD.sub [] (by decide) rfl) dX11_worth_19
  · refine lv_if_eq (tgt := 17) hx hb dX11_worth_4 (by decide) (fun c_5 => absurd c_5 (by decide)) (fun _ => ?_)
    refine lv_aload_n hx hb dX11_worth_7 rfl (lv_at hl 0 rfl) ?_
    refine gf hx hb hts hown hK hP 0 inT11 rfl rfl 11 (by decide) tw2_138 rfl dX11_worth_8 ?_
    refine gf hx hb hts hown hK hP 1 inT5 rfl rfl 4 (by decide) tw1_101 rfl dX11_worth_11 ?_
    refine lv_if_ne (tgt := 20) hx hb dX11_worth_14 (by decide) (fun c_6 => absurd (by decide) c_6) (fun _ => ?_)
    refine lv_bipush (v := (-2)) hx hb dX11_worth_17 (by decide) ?_
    refine W.widen (k := 0) (n := 0) (by decide) (by decide) ?_
    exact rtI hx hb hr hlocks hS () (rfl) (hP.sub [] rfl) (hD.sub [] (by decide) rfl) dX11_worth_19

set_option maxHeartbeats 4000000 in
set_option maxRecDepth 100000 in
theorem x_lured (l : Launch) (G : va_G) (t : Nat → ClassId) (x : Nat) (tp : Nat) (rd : Nat) (im : Nat) (mk : Nat) (sl : Nat) (ac : Nat) (cl : Nat) (xhb : Nat) (rs : Nat) (sd : Nat) (cr : Nat) (xhl : Nat) (df : Nat) (ha1 : Nat) (ha2 : Nat) (ha3 : Nat) (ha4 : Nat) (ha5 : Nat) (ha6 : Nat) (ha7 : Nat) (ha8 : Nat) (hc : Nat) (a0 : Int32) (b0 : Int32) : Ct l G t yX11_lured cX11_lured 3 (some .int) ({ frames := 1, cells := 0, slots := 0, locals := 20 }) [.ref x, .int a0, .int b0] [(x, .inr (11, [.ref tp, .ref rd, .ref im, .ref mk, .ref sl, .ref ac, .ref cl, .ref xhb, .ref rs, .ref sd, .ref cr, .ref xhl, .ref df])), (xhl, .inr (5, [.int 0, .int 0, .int 0, .int 0, .int 0, .int 0, .long 0, .ref ha1, .ref ha2, .ref ha3, .ref ha4, .ref ha5, .ref ha6, .ref ha7, .ref ha8, .ref hc]))] (QI G (fun r (u : Unit) => r = (-2)) (fun (u : Unit) => [])) := by
  refine ent (by decide) (Nat.le_of_ble_eq_true rfl) ?_
  intro p e s m args below meth c hx hb hr hml hts hown hlocks hin A hA hK hO hP hD hS ls hl
  have hown : s.vm.findClass RX11 = some m.cls := hown
  have hl : lv_has ls 3 [(0, .ref x), (1, .int a0), (2, .int b0)] := hl
  have C0 : Cx p s m args c cX11_lured 3 RX11 G t := ⟨hx, hb, hml, hown, hts, hK, hO⟩
  refine lv_aload_n hx hb dX11_lured_0 rfl (lv_at hl 0 rfl) ?_
  refine gf hx hb hts hown hK hP 0 inT11 rfl rfl 11 (by decide) tw2_138 rfl dX11_lured_1 ?_
  refine goI (rnV C0 (c_isTold l G t xhl ha1 ha2 ha3 ha4 ha5 ha6 ha7 ha8 hc) lkX11_179 ⟨by decide, by decide⟩ (hP.sub (ws' := [(xhl, .inr (5, [.int 0, .int 0, .int 0, .int 0, .int 0, .int 0, .long 0, .ref ha1, .ref ha2, .ref ha3, .ref ha4, .ref ha5, .ref ha6, .ref ha7, .ref ha8, .ref hc]))]) [1] rfl) (hD.sub (ws' := [(xhl, .inr (5, [.int 0, .int 0, .int 0, .int 0, .int 0, .int 0, .long 0, .ref ha1, .ref ha2, .ref ha3, .ref ha4, .ref ha5, .ref ha6, .ref ha7, .ref ha8, .ref hc]))]) [1] (by decide) rfl) 0 5 rfl rfl rfl rfl hl.1 (rest := []) rfl (Nat.le_of_ble_eq_true rfl) dX11_lured_4 ⟨by decide, by decide⟩) hP hD hS hA [1] [0] (wr := [(x, .inr (11, [.ref tp, .ref rd, .ref im, .ref mk, .ref sl, .ref ac, .ref cl, .ref xhb, .ref rs, .ref sd, .ref cr, .ref xhl, .ref df]))]) rfl rfl (by decide) (by decide) (fun r_1 u H locs h_2 hP hD hS => ?_)
  have hP : va_P G vwCl [(x, .inr (11, [.ref tp, .ref rd, .ref im, .ref mk, .ref sl, .ref ac, .ref cl, .ref xhb, .ref rs, .ref sd, .ref cr, .ref xhl, .ref df])), (xhl, .inr (5, [.int 0, .int 0, .int 0, .int 0, .int 0, .int 0, .long 0, .ref ha1, .ref ha2, .ref ha3, .ref ha4, .ref ha5, .ref ha6, .ref ha7, .ref ha8, .ref hc]))] H := hP
  have hD : va_D A [(x, .inr (11, [.ref tp, .ref rd, .ref im, .ref mk, .ref sl, .ref ac, .ref cl, .ref xhb, .ref rs, .ref sd, .ref cr, .ref xhl, .ref df])), (xhl, .inr (5, [.int 0, .int 0, .int 0, .int 0, .int 0, .int 0, .long 0, .ref ha1, .ref ha2, .ref ha3, .ref ha4, .ref ha5, .ref ha6, .ref ha7, .ref ha8, .ref hc]))] := hD
  refine W.widen (k := 0) (n := 0) (Nat.le_of_ble_eq_true rfl) (Nat.le_of_ble_eq_true rfl) ?_
  obtain rfl : r_1 = 0 := h_2
  refine lv_if_eq (tgt := 24) hx hb dX11_lured_7 (by decide) (fun _ => ?_) (fun c_3 => absurd (by decide) c_3)
  refine lv_bipush (v := (-2)) hx hb dX11_lured_24 (by decide) ?_
  refine W.widen (k := 0) (n := 0) (by decide) (by decide) ?_
  exact rtI hx hb hr hlocks hS () (rfl) (hP.sub [] rfl) (hD.sub [] (by decide) rfl) dX11_lured_26

set_option maxHeartbeats 4000000 in
set_option maxRecDepth 100000 in
theorem x_danger (l : Launch) (G : va_G) (t : Nat → ClassId) (x : Nat) (tp : Nat) (rd : Nat) (im : Nat) (mk : Nat) (sl : Nat) (ac : Nat) (cl : Nat) (xhb : Nat) (rs : Nat) (sd : Nat) (cr : Nat) (xhl : Nat) (df : Nat) (ha1 : Nat) (ha2 : Nat) (ha3 : Nat) (ha4 : Nat) (ha5 : Nat) (ha6 : Nat) (ha7 : Nat) (ha8 : Nat) (hc : Nat) (a0 : Int32) : Ct l G t yX11_danger cX11_danger 6 (some .int) ({ frames := 1, cells := 0, slots := 0, locals := 20 }) [.ref x, .int a0] [(x, .inr (11, [.ref tp, .ref rd, .ref im, .ref mk, .ref sl, .ref ac, .ref cl, .ref xhb, .ref rs, .ref sd, .ref cr, .ref xhl, .ref df])), (xhl, .inr (5, [.int 0, .int 0, .int 0, .int 0, .int 0, .int 0, .long 0, .ref ha1, .ref ha2, .ref ha3, .ref ha4, .ref ha5, .ref ha6, .ref ha7, .ref ha8, .ref hc]))] (QI G (fun r (u : Unit) => r = (-2)) (fun (u : Unit) => [])) := by
  refine ent (by decide) (Nat.le_of_ble_eq_true rfl) ?_
  intro p e s m args below meth c hx hb hr hml hts hown hlocks hin A hA hK hO hP hD hS ls hl
  have hown : s.vm.findClass RX11 = some m.cls := hown
  have hl : lv_has ls 6 [(0, .ref x), (1, .int a0)] := hl
  have C0 : Cx p s m args c cX11_danger 6 RX11 G t := ⟨hx, hb, hml, hown, hts, hK, hO⟩
  refine lv_aload_n hx hb dX11_danger_0 rfl (lv_at hl 0 rfl) ?_
  refine gf hx hb hts hown hK hP 0 inT11 rfl rfl 11 (by decide) tw2_138 rfl dX11_danger_1 ?_
  refine goI (rnV C0 (c_isTold l G t xhl ha1 ha2 ha3 ha4 ha5 ha6 ha7 ha8 hc) lkX11_179 ⟨by decide, by decide⟩ (hP.sub (ws' := [(xhl, .inr (5, [.int 0, .int 0, .int 0, .int 0, .int 0, .int 0, .long 0, .ref ha1, .ref ha2, .ref ha3, .ref ha4, .ref ha5, .ref ha6, .ref ha7, .ref ha8, .ref hc]))]) [1] rfl) (hD.sub (ws' := [(xhl, .inr (5, [.int 0, .int 0, .int 0, .int 0, .int 0, .int 0, .long 0, .ref ha1, .ref ha2, .ref ha3, .ref ha4, .ref ha5, .ref ha6, .ref ha7, .ref ha8, .ref hc]))]) [1] (by decide) rfl) 0 5 rfl rfl rfl rfl hl.1 (rest := []) rfl (Nat.le_of_ble_eq_true rfl) dX11_danger_4 ⟨by decide, by decide⟩) hP hD hS hA [1] [0] (wr := [(x, .inr (11, [.ref tp, .ref rd, .ref im, .ref mk, .ref sl, .ref ac, .ref cl, .ref xhb, .ref rs, .ref sd, .ref cr, .ref xhl, .ref df]))]) rfl rfl (by decide) (by decide) (fun r_1 u H locs h_2 hP hD hS => ?_)
  have hP : va_P G vwCl [(x, .inr (11, [.ref tp, .ref rd, .ref im, .ref mk, .ref sl, .ref ac, .ref cl, .ref xhb, .ref rs, .ref sd, .ref cr, .ref xhl, .ref df])), (xhl, .inr (5, [.int 0, .int 0, .int 0, .int 0, .int 0, .int 0, .long 0, .ref ha1, .ref ha2, .ref ha3, .ref ha4, .ref ha5, .ref ha6, .ref ha7, .ref ha8, .ref hc]))] H := hP
  have hD : va_D A [(x, .inr (11, [.ref tp, .ref rd, .ref im, .ref mk, .ref sl, .ref ac, .ref cl, .ref xhb, .ref rs, .ref sd, .ref cr, .ref xhl, .ref df])), (xhl, .inr (5, [.int 0, .int 0, .int 0, .int 0, .int 0, .int 0, .long 0, .ref ha1, .ref ha2, .ref ha3, .ref ha4, .ref ha5, .ref ha6, .ref ha7, .ref ha8, .ref hc]))] := hD
  refine W.widen (k := 0) (n := 0) (Nat.le_of_ble_eq_true rfl) (Nat.le_of_ble_eq_true rfl) ?_
  obtain rfl : r_1 = 0 := h_2
  refine lv_if_eq (tgt := 17) hx hb dX11_danger_7 (by decide) (fun _ => ?_) (fun c_3 => absurd (by decide) c_3)
  refine lv_bipush (v := (-2)) hx hb dX11_danger_17 (by decide) ?_
  refine W.widen (k := 0) (n := 0) (by decide) (by decide) ?_
  exact rtI hx hb hr hlocks hS () (rfl) (hP.sub [] rfl) (hD.sub [] (by decide) rfl) dX11_danger_19

set_option maxHeartbeats 4000000 in
set_option maxRecDepth 100000 in
theorem x_claque (l : Launch) (G : va_G) (t : Nat → ClassId) (x : Nat) (tp : Nat) (rd : Nat) (im : Nat) (mk : Nat) (sl : Nat) (ac : Nat) (cl : Nat) (xhb : Nat) (rs : Nat) (sd : Nat) (cr : Nat) (xhl : Nat) (df : Nat) (ha1 : Nat) (ha2 : Nat) (ha3 : Nat) (ha4 : Nat) (ha5 : Nat) (ha6 : Nat) (ha7 : Nat) (ha8 : Nat) (hc : Nat) (a0 : Int32) (b0 : Int32) : Ct l G t yX11_claque cX11_claque 3 (some .int) ({ frames := 1, cells := 0, slots := 0, locals := 21 }) [.ref x, .int a0, .int b0] [(x, .inr (11, [.ref tp, .ref rd, .ref im, .ref mk, .ref sl, .ref ac, .ref cl, .ref xhb, .ref rs, .ref sd, .ref cr, .ref xhl, .ref df])), (xhl, .inr (5, [.int 0, .int 0, .int 0, .int 0, .int 0, .int 0, .long 0, .ref ha1, .ref ha2, .ref ha3, .ref ha4, .ref ha5, .ref ha6, .ref ha7, .ref ha8, .ref hc]))] (QI G (fun r (u : Unit) => r = (-2)) (fun (u : Unit) => [])) := by
  refine ent (by decide) (Nat.le_of_ble_eq_true rfl) ?_
  intro p e s m args below meth c hx hb hr hml hts hown hlocks hin A hA hK hO hP hD hS ls hl
  have hown : s.vm.findClass RX11 = some m.cls := hown
  have hl : lv_has ls 3 [(0, .ref x), (1, .int a0), (2, .int b0)] := hl
  have C0 : Cx p s m args c cX11_claque 3 RX11 G t := ⟨hx, hb, hml, hown, hts, hK, hO⟩
  refine lv_aload_n hx hb dX11_claque_0 rfl (lv_at hl 0 rfl) ?_
  refine gf hx hb hts hown hK hP 0 inT11 rfl rfl 11 (by decide) tw2_138 rfl dX11_claque_1 ?_
  refine lv_iload_n hx hb dX11_claque_4 rfl (lv_at hl 1 rfl) ?_
  refine goI (rnV C0 (c_hasExit l G t xhl ha1 ha2 ha3 ha4 ha5 ha6 ha7 ha8 hc a0) lkX11_141 ⟨by decide, by decide⟩ (hP.sub (ws' := [(xhl, .inr (5, [.int 0, .int 0, .int 0, .int 0, .int 0, .int 0, .long 0, .ref ha1, .ref ha2, .ref ha3, .ref ha4, .ref ha5, .ref ha6, .ref ha7, .ref ha8, .ref hc]))]) [1] rfl) (hD.sub (ws' := [(xhl, .inr (5, [.int 0, .int 0, .int 0, .int 0, .int 0, .int 0, .long 0, .ref ha1, .ref ha2, .ref ha3, .ref ha4, .ref ha5, .ref ha6, .ref ha7, .ref ha8, .ref hc]))]) [1] (by decide) rfl) 0 5 rfl rfl rfl rfl hl.1 (rest := []) rfl (Nat.le_of_ble_eq_true rfl) dX11_claque_5 ⟨by decide, by decide⟩) hP hD hS hA [1] [0] (wr := [(x, .inr (11, [.ref tp, .ref rd, .ref im, .ref mk, .ref sl, .ref ac, .ref cl, .ref xhb, .ref rs, .ref sd, .ref cr, .ref xhl, .ref df]))]) rfl rfl (by decide) (by decide) (fun r_1 u H locs h_2 hP hD hS => ?_)
  have hP : va_P G vwCl [(x, .inr (11, [.ref tp, .ref rd, .ref im, .ref mk, .ref sl, .ref ac, .ref cl, .ref xhb, .ref rs, .ref sd, .ref cr, .ref xhl, .ref df])), (xhl, .inr (5, [.int 0, .int 0, .int 0, .int 0, .int 0, .int 0, .long 0, .ref ha1, .ref ha2, .ref ha3, .ref ha4, .ref ha5, .ref ha6, .ref ha7, .ref ha8, .ref hc]))] H := hP
  have hD : va_D A [(x, .inr (11, [.ref tp, .ref rd, .ref im, .ref mk, .ref sl, .ref ac, .ref cl, .ref xhb, .ref rs, .ref sd, .ref cr, .ref xhl, .ref df])), (xhl, .inr (5, [.int 0, .int 0, .int 0, .int 0, .int 0, .int 0, .long 0, .ref ha1, .ref ha2, .ref ha3, .ref ha4, .ref ha5, .ref ha6, .ref ha7, .ref ha8, .ref hc]))] := hD
  refine W.widen (k := 0) (n := 0) (Nat.le_of_ble_eq_true rfl) (Nat.le_of_ble_eq_true rfl) ?_
  obtain rfl : r_1 = 0 := h_2
  refine lv_if_eq (tgt := 18) hx hb dX11_claque_8 (by decide) (fun _ => ?_) (fun c_3 => absurd (by decide) c_3)
  refine lv_bipush (v := (-2)) hx hb dX11_claque_18 (by decide) ?_
  refine W.widen (k := 0) (n := 0) (by decide) (by decide) ?_
  exact rtI hx hb hr hlocks hS () (rfl) (hP.sub [] rfl) (hD.sub [] (by decide) rfl) dX11_claque_20

set_option maxHeartbeats 4000000 in
set_option maxRecDepth 100000 in
theorem x_lastly (l : Launch) (G : va_G) (t : Nat → ClassId) (x : Nat) (tp : Nat) (rd : Nat) (im : Nat) (mk : Nat) (sl : Nat) (ac : Nat) (cl : Nat) (xhb : Nat) (rs : Nat) (sd : Nat) (cr : Nat) (xhl : Nat) (df : Nat) (ha1 : Nat) (ha2 : Nat) (ha3 : Nat) (ha4 : Nat) (ha5 : Nat) (ha6 : Nat) (ha7 : Nat) (ha8 : Nat) (hc : Nat) (a0 : Int32) (b0 : Int32) : Ct l G t yX11_lastly cX11_lastly 4 (some .int) ({ frames := 1, cells := 0, slots := 0, locals := 21 }) [.ref x, .int a0, .int b0] [(x, .inr (11, [.ref tp, .ref rd, .ref im, .ref mk, .ref sl, .ref ac, .ref cl, .ref xhb, .ref rs, .ref sd, .ref cr, .ref xhl, .ref df])), (xhl, .inr (5, [.int 0, .int 0, .int 0, .int 0, .int 0, .int 0, .long 0, .ref ha1, .ref ha2, .ref ha3, .ref ha4, .ref ha5, .ref ha6, .ref ha7, .ref ha8, .ref hc]))] (QI G (fun r (u : Unit) => r = (-2)) (fun (u : Unit) => [])) := by
  refine ent (by decide) (Nat.le_of_ble_eq_true rfl) ?_
  intro p e s m args below meth c hx hb hr hml hts hown hlocks hin A hA hK hO hP hD hS ls hl
  have hown : s.vm.findClass RX11 = some m.cls := hown
  have hl : lv_has ls 4 [(0, .ref x), (1, .int a0), (2, .int b0)] := hl
  have C0 : Cx p s m args c cX11_lastly 4 RX11 G t := ⟨hx, hb, hml, hown, hts, hK, hO⟩
  refine lv_aload_n hx hb dX11_lastly_0 rfl (lv_at hl 0 rfl) ?_
  refine gf hx hb hts hown hK hP 0 inT11 rfl rfl 11 (by decide) tw2_138 rfl dX11_lastly_1 ?_
  refine lv_iload_n hx hb dX11_lastly_4 rfl (lv_at hl 1 rfl) ?_
  refine goI (rnV C0 (c_hasExit l G t xhl ha1 ha2 ha3 ha4 ha5 ha6 ha7 ha8 hc a0) lkX11_141 ⟨by decide, by decide⟩ (hP.sub (ws' := [(xhl, .inr (5, [.int 0, .int 0, .int 0, .int 0, .int 0, .int 0, .long 0, .ref ha1, .ref ha2, .ref ha3, .ref ha4, .ref ha5, .ref ha6, .ref ha7, .ref ha8, .ref hc]))]) [1] rfl) (hD.sub (ws' := [(xhl, .inr (5, [.int 0, .int 0, .int 0, .int 0, .int 0, .int 0, .long 0, .ref ha1, .ref ha2, .ref ha3, .ref ha4, .ref ha5, .ref ha6, .ref ha7, .ref ha8, .ref hc]))]) [1] (by decide) rfl) 0 5 rfl rfl rfl rfl hl.1 (rest := []) rfl (Nat.le_of_ble_eq_true rfl) dX11_lastly_5 ⟨by decide, by decide⟩) hP hD hS hA [1] [0] (wr := [(x, .inr (11, [.ref tp, .ref rd, .ref im, .ref mk, .ref sl, .ref ac, .ref cl, .ref xhb, .ref rs, .ref sd, .ref cr, .ref xhl, .ref df]))]) rfl rfl (by decide) (by decide) (fun r_1 u H locs h_2 hP hD hS => ?_)
  have hP : va_P G vwCl [(x, .inr (11, [.ref tp, .ref rd, .ref im, .ref mk, .ref sl, .ref ac, .ref cl, .ref xhb, .ref rs, .ref sd, .ref cr, .ref xhl, .ref df])), (xhl, .inr (5, [.int 0, .int 0, .int 0, .int 0, .int 0, .int 0, .long 0, .ref ha1, .ref ha2, .ref ha3, .ref ha4, .ref ha5, .ref ha6, .ref ha7, .ref ha8, .ref hc]))] H := hP
  have hD : va_D A [(x, .inr (11, [.ref tp, .ref rd, .ref im, .ref mk, .ref sl, .ref ac, .ref cl, .ref xhb, .ref rs, .ref sd, .ref cr, .ref xhl, .ref df])), (xhl, .inr (5, [.int 0, .int 0, .int 0, .int 0, .int 0, .int 0, .long 0, .ref ha1, .ref ha2, .ref ha3, .ref ha4, .ref ha5, .ref ha6, .ref ha7, .ref ha8, .ref hc]))] := hD
  refine W.widen (k := 0) (n := 0) (Nat.le_of_ble_eq_true rfl) (Nat.le_of_ble_eq_true rfl) ?_
  obtain rfl : r_1 = 0 := h_2
  refine lv_if_eq (tgt := 18) hx hb dX11_lastly_8 (by decide) (fun _ => ?_) (fun c_3 => absurd (by decide) c_3)
  refine lv_bipush (v := (-2)) hx hb dX11_lastly_18 (by decide) ?_
  refine W.widen (k := 0) (n := 0) (by decide) (by decide) ?_
  exact rtI hx hb hr hlocks hS () (rfl) (hP.sub [] rfl) (hD.sub [] (by decide) rfl) dX11_lastly_20

set_option maxHeartbeats 4000000 in
set_option maxRecDepth 100000 in
theorem x_screw (l : Launch) (G : va_G) (t : Nat → ClassId) (x : Nat) (tp : Nat) (rd : Nat) (im : Nat) (mk : Nat) (sl : Nat) (ac : Nat) (cl : Nat) (xhb : Nat) (rs : Nat) (sd : Nat) (cr : Nat) (xhl : Nat) (df : Nat) (ha1 : Nat) (ha2 : Nat) (ha3 : Nat) (ha4 : Nat) (ha5 : Nat) (ha6 : Nat) (ha7 : Nat) (ha8 : Nat) (hc : Nat) (a0 : Int32) (b0 : Int32) : Ct l G t yX11_screw cX11_screw 4 (some .int) ({ frames := 1, cells := 0, slots := 0, locals := 21 }) [.ref x, .int a0, .int b0] [(x, .inr (11, [.ref tp, .ref rd, .ref im, .ref mk, .ref sl, .ref ac, .ref cl, .ref xhb, .ref rs, .ref sd, .ref cr, .ref xhl, .ref df])), (xhl, .inr (5, [.int 0, .int 0, .int 0, .int 0, .int 0, .int 0, .long 0, .ref ha1, .ref ha2, .ref ha3, .ref ha4, .ref ha5, .ref ha6, .ref ha7, .ref ha8, .ref hc]))] (QI G (fun r (u : Unit) => r = (-2)) (fun (u : Unit) => [])) := by
  refine ent (by decide) (Nat.le_of_ble_eq_true rfl) ?_
  intro p e s m args below meth c hx hb hr hml hts hown hlocks hin A hA hK hO hP hD hS ls hl
  have hown : s.vm.findClass RX11 = some m.cls := hown
  have hl : lv_has ls 4 [(0, .ref x), (1, .int a0), (2, .int b0)] := hl
  have C0 : Cx p s m args c cX11_screw 4 RX11 G t := ⟨hx, hb, hml, hown, hts, hK, hO⟩
  refine lv_aload_n hx hb dX11_screw_0 rfl (lv_at hl 0 rfl) ?_
  refine gf hx hb hts hown hK hP 0 inT11 rfl rfl 11 (by decide) tw2_138 rfl dX11_screw_1 ?_
  refine lv_iload_n hx hb dX11_screw_4 rfl (lv_at hl 1 rfl) ?_
  refine goI (rnV C0 (c_hasPlace l G t xhl ha1 ha2 ha3 ha4 ha5 ha6 ha7 ha8 hc a0) lkX11_124 ⟨by decide, by decide⟩ (hP.sub (ws' := [(xhl, .inr (5, [.int 0, .int 0, .int 0, .int 0, .int 0, .int 0, .long 0, .ref ha1, .ref ha2, .ref ha3, .ref ha4, .ref ha5, .ref ha6, .ref ha7, .ref ha8, .ref hc]))]) [1] rfl) (hD.sub (ws' := [(xhl, .inr (5, [.int 0, .int 0, .int 0, .int 0, .int 0, .int 0, .long 0, .ref ha1, .ref ha2, .ref ha3, .ref ha4, .ref ha5, .ref ha6, .ref ha7, .ref ha8, .ref hc]))]) [1] (by decide) rfl) 0 5 rfl rfl rfl rfl hl.1 (rest := []) rfl (Nat.le_of_ble_eq_true rfl) dX11_screw_5 ⟨by decide, by decide⟩) hP hD hS hA [1] [0] (wr := [(x, .inr (11, [.ref tp, .ref rd, .ref im, .ref mk, .ref sl, .ref ac, .ref cl, .ref xhb, .ref rs, .ref sd, .ref cr, .ref xhl, .ref df]))]) rfl rfl (by decide) (by decide) (fun r_1 u H locs h_2 hP hD hS => ?_)
  have hP : va_P G vwCl [(x, .inr (11, [.ref tp, .ref rd, .ref im, .ref mk, .ref sl, .ref ac, .ref cl, .ref xhb, .ref rs, .ref sd, .ref cr, .ref xhl, .ref df])), (xhl, .inr (5, [.int 0, .int 0, .int 0, .int 0, .int 0, .int 0, .long 0, .ref ha1, .ref ha2, .ref ha3, .ref ha4, .ref ha5, .ref ha6, .ref ha7, .ref ha8, .ref hc]))] H := hP
  have hD : va_D A [(x, .inr (11, [.ref tp, .ref rd, .ref im, .ref mk, .ref sl, .ref ac, .ref cl, .ref xhb, .ref rs, .ref sd, .ref cr, .ref xhl, .ref df])), (xhl, .inr (5, [.int 0, .int 0, .int 0, .int 0, .int 0, .int 0, .long 0, .ref ha1, .ref ha2, .ref ha3, .ref ha4, .ref ha5, .ref ha6, .ref ha7, .ref ha8, .ref hc]))] := hD
  refine W.widen (k := 0) (n := 0) (Nat.le_of_ble_eq_true rfl) (Nat.le_of_ble_eq_true rfl) ?_
  obtain rfl : r_1 = 0 := h_2
  refine lv_if_eq (tgt := 21) hx hb dX11_screw_8 (by decide) (fun _ => ?_) (fun c_3 => absurd (by decide) c_3)
  refine lv_bipush (v := (-2)) hx hb dX11_screw_21 (by decide) ?_
  refine W.widen (k := 0) (n := 0) (by decide) (by decide) ?_
  exact rtI hx hb hr hlocks hS () (rfl) (hP.sub [] rfl) (hD.sub [] (by decide) rfl) dX11_screw_23

set_option maxHeartbeats 4000000 in
set_option maxRecDepth 100000 in
theorem x_king (l : Launch) (G : va_G) (t : Nat → ClassId) (x : Nat) (tp : Nat) (rd : Nat) (im : Nat) (mk : Nat) (sl : Nat) (ac : Nat) (cl : Nat) (xhb : Nat) (rs : Nat) (sd : Nat) (cr : Nat) (xhl : Nat) (df : Nat) (ha1 : Nat) (ha2 : Nat) (ha3 : Nat) (ha4 : Nat) (ha5 : Nat) (ha6 : Nat) (ha7 : Nat) (ha8 : Nat) (hc : Nat) (a0 : Int32) (b0 : Int32) (c0 : Int32) : Ct l G t yX11_king cX11_king 5 (some .int) ({ frames := 1, cells := 0, slots := 0, locals := 21 }) [.ref x, .int a0, .int b0, .int c0] [(x, .inr (11, [.ref tp, .ref rd, .ref im, .ref mk, .ref sl, .ref ac, .ref cl, .ref xhb, .ref rs, .ref sd, .ref cr, .ref xhl, .ref df])), (xhl, .inr (5, [.int 0, .int 0, .int 0, .int 0, .int 0, .int 0, .long 0, .ref ha1, .ref ha2, .ref ha3, .ref ha4, .ref ha5, .ref ha6, .ref ha7, .ref ha8, .ref hc]))] (QI G (fun r (u : Unit) => r = (-2)) (fun (u : Unit) => [])) := by
  refine ent (by decide) (Nat.le_of_ble_eq_true rfl) ?_
  intro p e s m args below meth c hx hb hr hml hts hown hlocks hin A hA hK hO hP hD hS ls hl
  have hown : s.vm.findClass RX11 = some m.cls := hown
  have hl : lv_has ls 5 [(0, .ref x), (1, .int a0), (2, .int b0), (3, .int c0)] := hl
  have C0 : Cx p s m args c cX11_king 5 RX11 G t := ⟨hx, hb, hml, hown, hts, hK, hO⟩
  refine lv_iload_n hx hb dX11_king_0 rfl (lv_at hl 2 rfl) ?_
  refine lv_iconst (v := (-1)) hx hb dX11_king_1 (by decide) ?_
  refine lv_icmp_ne (tgt := 14) hx hb dX11_king_2 (by decide) (fun c_1 => ?_) (fun c_1 => ?_)
  · refine lv_iconst (v := 0) hx hb dX11_king_14 (by decide) ?_
    refine lv_istore (lv' := [(4, .int 0), (0, .ref x), (1, .int a0), (2, .int b0), (3, .int c0)]) hx hb dX11_king_15 hl (by decide) rfl (fun ls hl => ?_)
    refine lv_aload_n hx hb dX11_king_17 rfl (lv_at hl 1 rfl) ?_
    refine gf hx hb hts hown hK hP 0 inT11 rfl rfl 11 (by decide) tw2_138 rfl dX11_king_18 ?_
    refine lv_iload_n hx hb dX11_king_21 rfl (lv_at hl 2 rfl) ?_
    refine goI (rnV C0 (c_hasExit l G t xhl ha1 ha2 ha3 ha4 ha5 ha6 ha7 ha8 hc a0) lkX11_141 ⟨by decide, by decide⟩ (hP.sub (ws' := [(xhl, .inr (5, [.int 0, .int 0, .int 0, .int 0, .int 0, .int 0, .long 0, .ref ha1, .ref ha2, .ref ha3, .ref ha4, .ref ha5, .ref ha6, .ref ha7, .ref ha8, .ref hc]))]) [1] rfl) (hD.sub (ws' := [(xhl, .inr (5, [.int 0, .int 0, .int 0, .int 0, .int 0, .int 0, .long 0, .ref ha1, .ref ha2, .ref ha3, .ref ha4, .ref ha5, .ref ha6, .ref ha7, .ref ha8, .ref hc]))]) [1] (by decide) rfl) 0 5 rfl rfl rfl rfl hl.1 (rest := []) rfl (Nat.le_of_ble_eq_true rfl) dX11_king_22 ⟨by decide, by decide⟩) hP hD hS hA [1] [0] (wr := [(x, .inr (11, [.ref tp, .ref rd, .ref im, .ref mk, .ref sl, .ref ac, .ref cl, .ref xhb, .ref rs, .ref sd, .ref cr, .ref xhl, .ref df]))]) rfl rfl (by decide) (by decide) (fun r_2 u H locs h_3 hP hD hS => ?_)
    have hP : va_P G vwCl [(x, .inr (11, [.ref tp, .ref rd, .ref im, .ref mk, .ref sl, .ref ac, .ref cl, .ref xhb, .ref rs, .ref sd, .ref cr, .ref xhl, .ref df])), (xhl, .inr (5, [.int 0, .int 0, .int 0, .int 0, .int 0, .int 0, .long 0, .ref ha1, .ref ha2, .ref ha3, .ref ha4, .ref ha5, .ref ha6, .ref ha7, .ref ha8, .ref hc]))] H := hP
    have hD : va_D A [(x, .inr (11, [.ref tp, .ref rd, .ref im, .ref mk, .ref sl, .ref ac, .ref cl, .ref xhb, .ref rs, .ref sd, .ref cr, .ref xhl, .ref df])), (xhl, .inr (5, [.int 0, .int 0, .int 0, .int 0, .int 0, .int 0, .long 0, .ref ha1, .ref ha2, .ref ha3, .ref ha4, .ref ha5, .ref ha6, .ref ha7, .ref ha8, .ref hc]))] := hD
    refine W.widen (k := 0) (n := 0) (Nat.le_of_ble_eq_true rfl) (Nat.le_of_ble_eq_true rfl) ?_
    obtain rfl : r_2 = 0 := h_3
    refine lv_if_eq (tgt := 52) hx hb dX11_king_25 (by decide) (fun _ => ?_) (fun c_4 => absurd (by decide) c_4)
    refine lv_bipush (v := (-2)) hx hb dX11_king_52 (by decide) ?_
    refine W.widen (k := 0) (n := 0) (by decide) (by decide) ?_
    exact rtI hx hb hr hlocks hS () (rfl) (hP.sub [] rfl) (hD.sub [] (by decide) rfl) dX11_king_54
  · refine lv_iload_n hx hb dX11_king_5 rfl (lv_at hl 3 rfl) ?_
    refine lv_iconst (v := (-1)) hx hb dX11_king_6 (by decide) ?_
    refine lv_icmp_ne (tgt := 14) hx hb dX11_king_7 (by decide) (fun c_5 => ?_) (fun c_5 => ?_)
    · refine lv_iconst (v := 0) hx hb dX11_king_14 (by decide) ?_
      refine lv_istore (lv' := [(4, .int 0), (0, .ref x), (1, .int a0), (2, .int b0), (3, .int c0)]) hx hb dX11_king_15 hl (by decide) rfl (fun ls hl => ?_)
      refine lv_aload_n hx hb dX11_king_17 rfl (lv_at hl 1 rfl) ?_
      refine gf hx hb hts hown hK hP 0 inT11 rfl rfl 11 (by decide) tw2_138 rfl dX11_king_18 ?_
      refine lv_iload_n hx hb dX11_king_21 rfl (lv_at hl 2 rfl) ?_
      refine goI (rnV C0 (c_hasExit l G t xhl ha1 ha2 ha3 ha4 ha5 ha6 ha7 ha8 hc a0) lkX11_141 ⟨by decide, by decide⟩ (hP.sub (ws' := [(xhl, .inr (5, [.int 0, .int 0, .int 0, .int 0, .int 0, .int 0, .long 0, .ref ha1, .ref ha2, .ref ha3, .ref ha4, .ref ha5, .ref ha6, .ref ha7, .ref ha8, .ref hc]))]) [1] rfl) (hD.sub (ws' := [(xhl, .inr (5, [.int 0, .int 0, .int 0, .int 0, .int 0, .int 0, .long 0, .ref ha1, .ref ha2, .ref ha3, .ref ha4, .ref ha5, .ref ha6, .ref ha7, .ref ha8, .ref hc]))]) [1] (by decide) rfl) 0 5 rfl rfl rfl rfl hl.1 (rest := []) rfl (Nat.le_of_ble_eq_true rfl) dX11_king_22 ⟨by decide, by decide⟩) hP hD hS hA [1] [0] (wr := [(x, .inr (11, [.ref tp, .ref rd, .ref im, .ref mk, .ref sl, .ref ac, .ref cl, .ref xhb, .ref rs, .ref sd, .ref cr, .ref xhl, .ref df]))]) rfl rfl (by decide) (by decide) (fun r_6 u H locs h_7 hP hD hS => ?_)
      have hP : va_P G vwCl [(x, .inr (11, [.ref tp, .ref rd, .ref im, .ref mk, .ref sl, .ref ac, .ref cl, .ref xhb, .ref rs, .ref sd, .ref cr, .ref xhl, .ref df])), (xhl, .inr (5, [.int 0, .int 0, .int 0, .int 0, .int 0, .int 0, .long 0, .ref ha1, .ref ha2, .ref ha3, .ref ha4, .ref ha5, .ref ha6, .ref ha7, .ref ha8, .ref hc]))] H := hP
      have hD : va_D A [(x, .inr (11, [.ref tp, .ref rd, .ref im, .ref mk, .ref sl, .ref ac, .ref cl, .ref xhb, .ref rs, .ref sd, .ref cr, .ref xhl, .ref df])), (xhl, .inr (5, [.int 0, .int 0, .int 0, .int 0, .int 0, .int 0, .long 0, .ref ha1, .ref ha2, .ref ha3, .ref ha4, .ref ha5, .ref ha6, .ref ha7, .ref ha8, .ref hc]))] := hD
      refine W.widen (k := 0) (n := 0) (Nat.le_of_ble_eq_true rfl) (Nat.le_of_ble_eq_true rfl) ?_
      obtain rfl : r_6 = 0 := h_7
      refine lv_if_eq (tgt := 52) hx hb dX11_king_25 (by decide) (fun _ => ?_) (fun c_8 => absurd (by decide) c_8)
      refine lv_bipush (v := (-2)) hx hb dX11_king_52 (by decide) ?_
      refine W.widen (k := 0) (n := 0) (by decide) (by decide) ?_
      exact rtI hx hb hr hlocks hS () (rfl) (hP.sub [] rfl) (hD.sub [] (by decide) rfl) dX11_king_54
    · refine lv_iconst (v := 1) hx hb dX11_king_10 (by decide) ?_
      refine lv_goto (tgt := 15) hx hb dX11_king_11 (by decide) ?_
      refine lv_istore (lv' := [(4, .int 1), (0, .ref x), (1, .int a0), (2, .int b0), (3, .int c0)]) hx hb dX11_king_15 hl (by decide) rfl (fun ls hl => ?_)
      refine lv_aload_n hx hb dX11_king_17 rfl (lv_at hl 1 rfl) ?_
      refine gf hx hb hts hown hK hP 0 inT11 rfl rfl 11 (by decide) tw2_138 rfl dX11_king_18 ?_
      refine lv_iload_n hx hb dX11_king_21 rfl (lv_at hl 2 rfl) ?_
      refine goI (rnV C0 (c_hasExit l G t xhl ha1 ha2 ha3 ha4 ha5 ha6 ha7 ha8 hc a0) lkX11_141 ⟨by decide, by decide⟩ (hP.sub (ws' := [(xhl, .inr (5, [.int 0, .int 0, .int 0, .int 0, .int 0, .int 0, .long 0, .ref ha1, .ref ha2, .ref ha3, .ref ha4, .ref ha5, .ref ha6, .ref ha7, .ref ha8, .ref hc]))]) [1] rfl) (hD.sub (ws' := [(xhl, .inr (5, [.int 0, .int 0, .int 0, .int 0, .int 0, .int 0, .long 0, .ref ha1, .ref ha2, .ref ha3, .ref ha4, .ref ha5, .ref ha6, .ref ha7, .ref ha8, .ref hc]))]) [1] (by decide) rfl) 0 5 rfl rfl rfl rfl hl.1 (rest := []) rfl (Nat.le_of_ble_eq_true rfl) dX11_king_22 ⟨by decide, by decide⟩) hP hD hS hA [1] [0] (wr := [(x, .inr (11, [.ref tp, .ref rd, .ref im, .ref mk, .ref sl, .ref ac, .ref cl, .ref xhb, .ref rs, .ref sd, .ref cr, .ref xhl, .ref df]))]) rfl rfl (by decide) (by decide) (fun r_9 u H locs h_10 hP hD hS => ?_)
      have hP : va_P G vwCl [(x, .inr (11, [.ref tp, .ref rd, .ref im, .ref mk, .ref sl, .ref ac, .ref cl, .ref xhb, .ref rs, .ref sd, .ref cr, .ref xhl, .ref df])), (xhl, .inr (5, [.int 0, .int 0, .int 0, .int 0, .int 0, .int 0, .long 0, .ref ha1, .ref ha2, .ref ha3, .ref ha4, .ref ha5, .ref ha6, .ref ha7, .ref ha8, .ref hc]))] H := hP
      have hD : va_D A [(x, .inr (11, [.ref tp, .ref rd, .ref im, .ref mk, .ref sl, .ref ac, .ref cl, .ref xhb, .ref rs, .ref sd, .ref cr, .ref xhl, .ref df])), (xhl, .inr (5, [.int 0, .int 0, .int 0, .int 0, .int 0, .int 0, .long 0, .ref ha1, .ref ha2, .ref ha3, .ref ha4, .ref ha5, .ref ha6, .ref ha7, .ref ha8, .ref hc]))] := hD
      refine W.widen (k := 0) (n := 0) (Nat.le_of_ble_eq_true rfl) (Nat.le_of_ble_eq_true rfl) ?_
      obtain rfl : r_9 = 0 := h_10
      refine lv_if_eq (tgt := 52) hx hb dX11_king_25 (by decide) (fun _ => ?_) (fun c_11 => absurd (by decide) c_11)
      refine lv_bipush (v := (-2)) hx hb dX11_king_52 (by decide) ?_
      refine W.widen (k := 0) (n := 0) (by decide) (by decide) ?_
      exact rtI hx hb hr hlocks hS () (rfl) (hP.sub [] rfl) (hD.sub [] (by decide) rfl) dX11_king_54

set_option maxHeartbeats 4000000 in
set_option maxRecDepth 100000 in
theorem x_seats (l : Launch) (G : va_G) (t : Nat → ClassId) (x : Nat) (tp : Nat) (rd : Nat) (im : Nat) (mk : Nat) (sl : Nat) (ac : Nat) (cl : Nat) (xhb : Nat) (rs : Nat) (sd : Nat) (cr : Nat) (xhl : Nat) (df : Nat) (ha1 : Nat) (ha2 : Nat) (ha3 : Nat) (ha4 : Nat) (ha5 : Nat) (ha6 : Nat) (ha7 : Nat) (ha8 : Nat) (hc : Nat) (a0 : Int32) (b0 : Int32) (c0 : Int32) : Ct l G t yX11_seats cX11_seats 6 (some .int) ({ frames := 1, cells := 0, slots := 0, locals := 22 }) [.ref x, .int a0, .int b0, .int c0] [(x, .inr (11, [.ref tp, .ref rd, .ref im, .ref mk, .ref sl, .ref ac, .ref cl, .ref xhb, .ref rs, .ref sd, .ref cr, .ref xhl, .ref df])), (xhl, .inr (5, [.int 0, .int 0, .int 0, .int 0, .int 0, .int 0, .long 0, .ref ha1, .ref ha2, .ref ha3, .ref ha4, .ref ha5, .ref ha6, .ref ha7, .ref ha8, .ref hc]))] (QI G (fun r (u : Unit) => r = (-2)) (fun (u : Unit) => [])) := by
  refine ent (by decide) (Nat.le_of_ble_eq_true rfl) ?_
  intro p e s m args below meth c hx hb hr hml hts hown hlocks hin A hA hK hO hP hD hS ls hl
  have hown : s.vm.findClass RX11 = some m.cls := hown
  have hl : lv_has ls 6 [(0, .ref x), (1, .int a0), (2, .int b0), (3, .int c0)] := hl
  have C0 : Cx p s m args c cX11_seats 6 RX11 G t := ⟨hx, hb, hml, hown, hts, hK, hO⟩
  refine lv_aload_n hx hb dX11_seats_0 rfl (lv_at hl 0 rfl) ?_
  refine gf hx hb hts hown hK hP 0 inT11 rfl rfl 11 (by decide) tw2_138 rfl dX11_seats_1 ?_
  refine lv_iload_n hx hb dX11_seats_4 rfl (lv_at hl 1 rfl) ?_
  refine lv_iload_n hx hb dX11_seats_5 rfl (lv_at hl 2 rfl) ?_
  refine goI (rnV C0 (c_hasSeat l G t xhl ha1 ha2 ha3 ha4 ha5 ha6 ha7 ha8 hc a0 b0) lkX11_156 ⟨by decide, by decide⟩ (hP.sub (ws' := [(xhl, .inr (5, [.int 0, .int 0, .int 0, .int 0, .int 0, .int 0, .long 0, .ref ha1, .ref ha2, .ref ha3, .ref ha4, .ref ha5, .ref ha6, .ref ha7, .ref ha8, .ref hc]))]) [1] rfl) (hD.sub (ws' := [(xhl, .inr (5, [.int 0, .int 0, .int 0, .int 0, .int 0, .int 0, .long 0, .ref ha1, .ref ha2, .ref ha3, .ref ha4, .ref ha5, .ref ha6, .ref ha7, .ref ha8, .ref hc]))]) [1] (by decide) rfl) 0 5 rfl rfl rfl rfl hl.1 (rest := []) rfl (Nat.le_of_ble_eq_true rfl) dX11_seats_6 ⟨by decide, by decide⟩) hP hD hS hA [1] [0] (wr := [(x, .inr (11, [.ref tp, .ref rd, .ref im, .ref mk, .ref sl, .ref ac, .ref cl, .ref xhb, .ref rs, .ref sd, .ref cr, .ref xhl, .ref df]))]) rfl rfl (by decide) (by decide) (fun r_1 u H locs h_2 hP hD hS => ?_)
  have hP : va_P G vwCl [(x, .inr (11, [.ref tp, .ref rd, .ref im, .ref mk, .ref sl, .ref ac, .ref cl, .ref xhb, .ref rs, .ref sd, .ref cr, .ref xhl, .ref df])), (xhl, .inr (5, [.int 0, .int 0, .int 0, .int 0, .int 0, .int 0, .long 0, .ref ha1, .ref ha2, .ref ha3, .ref ha4, .ref ha5, .ref ha6, .ref ha7, .ref ha8, .ref hc]))] H := hP
  have hD : va_D A [(x, .inr (11, [.ref tp, .ref rd, .ref im, .ref mk, .ref sl, .ref ac, .ref cl, .ref xhb, .ref rs, .ref sd, .ref cr, .ref xhl, .ref df])), (xhl, .inr (5, [.int 0, .int 0, .int 0, .int 0, .int 0, .int 0, .long 0, .ref ha1, .ref ha2, .ref ha3, .ref ha4, .ref ha5, .ref ha6, .ref ha7, .ref ha8, .ref hc]))] := hD
  refine W.widen (k := 0) (n := 0) (Nat.le_of_ble_eq_true rfl) (Nat.le_of_ble_eq_true rfl) ?_
  obtain rfl : r_1 = 0 := h_2
  refine lv_if_eq (tgt := 21) hx hb dX11_seats_9 (by decide) (fun _ => ?_) (fun c_3 => absurd (by decide) c_3)
  refine lv_bipush (v := (-2)) hx hb dX11_seats_21 (by decide) ?_
  refine W.widen (k := 0) (n := 0) (by decide) (by decide) ?_
  exact rtI hx hb hr hlocks hS () (rfl) (hP.sub [] rfl) (hD.sub [] (by decide) rfl) dX11_seats_23

set_option maxHeartbeats 4000000 in
set_option maxRecDepth 100000 in
theorem x_undo (l : Launch) (G : va_G) (t : Nat → ClassId) (x : Nat) (tp : Nat) (rd : Nat) (im : Nat) (mk : Nat) (sl : Nat) (ac : Nat) (cl : Nat) (xhb : Nat) (rs : Nat) (sd : Nat) (cr : Nat) (xhl : Nat) (df : Nat) (ha1 : Nat) (ha2 : Nat) (ha3 : Nat) (ha4 : Nat) (ha5 : Nat) (ha6 : Nat) (ha7 : Nat) (ha8 : Nat) (hc : Nat) : Ct l G t yX11_undo cX11_undo 1 (some .int) ({ frames := 1, cells := 0, slots := 0, locals := 20 }) [.ref x] [(x, .inr (11, [.ref tp, .ref rd, .ref im, .ref mk, .ref sl, .ref ac, .ref cl, .ref xhb, .ref rs, .ref sd, .ref cr, .ref xhl, .ref df])), (xhl, .inr (5, [.int 0, .int 0, .int 0, .int 0, .int 0, .int 0, .long 0, .ref ha1, .ref ha2, .ref ha3, .ref ha4, .ref ha5, .ref ha6, .ref ha7, .ref ha8, .ref hc]))] (QI G (fun r (u : Unit) => r = (-2)) (fun (u : Unit) => [])) := by
  refine ent (by decide) (Nat.le_of_ble_eq_true rfl) ?_
  intro p e s m args below meth c hx hb hr hml hts hown hlocks hin A hA hK hO hP hD hS ls hl
  have hown : s.vm.findClass RX11 = some m.cls := hown
  have hl : lv_has ls 1 [(0, .ref x)] := hl
  have C0 : Cx p s m args c cX11_undo 1 RX11 G t := ⟨hx, hb, hml, hown, hts, hK, hO⟩
  refine lv_aload_n hx hb dX11_undo_0 rfl (lv_at hl 0 rfl) ?_
  refine gf hx hb hts hown hK hP 0 inT11 rfl rfl 11 (by decide) tw2_138 rfl dX11_undo_1 ?_
  refine goI (rnV C0 (c_isTold l G t xhl ha1 ha2 ha3 ha4 ha5 ha6 ha7 ha8 hc) lkX11_179 ⟨by decide, by decide⟩ (hP.sub (ws' := [(xhl, .inr (5, [.int 0, .int 0, .int 0, .int 0, .int 0, .int 0, .long 0, .ref ha1, .ref ha2, .ref ha3, .ref ha4, .ref ha5, .ref ha6, .ref ha7, .ref ha8, .ref hc]))]) [1] rfl) (hD.sub (ws' := [(xhl, .inr (5, [.int 0, .int 0, .int 0, .int 0, .int 0, .int 0, .long 0, .ref ha1, .ref ha2, .ref ha3, .ref ha4, .ref ha5, .ref ha6, .ref ha7, .ref ha8, .ref hc]))]) [1] (by decide) rfl) 0 5 rfl rfl rfl rfl hl.1 (rest := []) rfl (Nat.le_of_ble_eq_true rfl) dX11_undo_4 ⟨by decide, by decide⟩) hP hD hS hA [1] [0] (wr := [(x, .inr (11, [.ref tp, .ref rd, .ref im, .ref mk, .ref sl, .ref ac, .ref cl, .ref xhb, .ref rs, .ref sd, .ref cr, .ref xhl, .ref df]))]) rfl rfl (by decide) (by decide) (fun r_1 u H locs h_2 hP hD hS => ?_)
  have hP : va_P G vwCl [(x, .inr (11, [.ref tp, .ref rd, .ref im, .ref mk, .ref sl, .ref ac, .ref cl, .ref xhb, .ref rs, .ref sd, .ref cr, .ref xhl, .ref df])), (xhl, .inr (5, [.int 0, .int 0, .int 0, .int 0, .int 0, .int 0, .long 0, .ref ha1, .ref ha2, .ref ha3, .ref ha4, .ref ha5, .ref ha6, .ref ha7, .ref ha8, .ref hc]))] H := hP
  have hD : va_D A [(x, .inr (11, [.ref tp, .ref rd, .ref im, .ref mk, .ref sl, .ref ac, .ref cl, .ref xhb, .ref rs, .ref sd, .ref cr, .ref xhl, .ref df])), (xhl, .inr (5, [.int 0, .int 0, .int 0, .int 0, .int 0, .int 0, .long 0, .ref ha1, .ref ha2, .ref ha3, .ref ha4, .ref ha5, .ref ha6, .ref ha7, .ref ha8, .ref hc]))] := hD
  refine W.widen (k := 0) (n := 0) (Nat.le_of_ble_eq_true rfl) (Nat.le_of_ble_eq_true rfl) ?_
  obtain rfl : r_1 = 0 := h_2
  refine lv_if_ne (tgt := 13) hx hb dX11_undo_7 (by decide) (fun c_3 => absurd (by decide) c_3) (fun _ => ?_)
  refine lv_bipush (v := (-2)) hx hb dX11_undo_10 (by decide) ?_
  refine W.widen (k := 0) (n := 0) (by decide) (by decide) ?_
  exact rtI hx hb hr hlocks hS () (rfl) (hP.sub [] rfl) (hD.sub [] (by decide) rfl) dX11_undo_12

set_option maxHeartbeats 4000000 in
set_option maxRecDepth 100000 in
theorem x_drawn (l : Launch) (G : va_G) (t : Nat → ClassId) (x : Nat) (tp : Nat) (rd : Nat) (im : Nat) (mk : Nat) (sl : Nat) (ac : Nat) (cl : Nat) (xhb : Nat) (rs : Nat) (sd : Nat) (cr : Nat) (xhl : Nat) (df : Nat) (ha1 : Nat) (ha2 : Nat) (ha3 : Nat) (ha4 : Nat) (ha5 : Nat) (ha6 : Nat) (ha7 : Nat) (ha8 : Nat) (hc : Nat) (a0 : Int32) (b0 : Int32) (c0 : Int32) : Ct l G t yX11_drawn cX11_drawn 4 (some .int) ({ frames := 2, cells := 0, slots := 0, locals := 42 }) [.ref x, .int a0, .int b0, .int c0] [(x, .inr (11, [.ref tp, .ref rd, .ref im, .ref mk, .ref sl, .ref ac, .ref cl, .ref xhb, .ref rs, .ref sd, .ref cr, .ref xhl, .ref df])), (xhl, .inr (5, [.int 0, .int 0, .int 0, .int 0, .int 0, .int 0, .long 0, .ref ha1, .ref ha2, .ref ha3, .ref ha4, .ref ha5, .ref ha6, .ref ha7, .ref ha8, .ref hc]))] (QI G (fun r (u : Unit) => r = (-2)) (fun (u : Unit) => [])) := by
  refine ent (by decide) (Nat.le_of_ble_eq_true rfl) ?_
  intro p e s m args below meth c hx hb hr hml hts hown hlocks hin A hA hK hO hP hD hS ls hl
  have hown : s.vm.findClass RX11 = some m.cls := hown
  have hl : lv_has ls 4 [(0, .ref x), (1, .int a0), (2, .int b0), (3, .int c0)] := hl
  have C0 : Cx p s m args c cX11_drawn 4 RX11 G t := ⟨hx, hb, hml, hown, hts, hK, hO⟩
  refine lv_aload_n hx hb dX11_drawn_0 rfl (lv_at hl 0 rfl) ?_
  refine lv_iload_n hx hb dX11_drawn_1 rfl (lv_at hl 1 rfl) ?_
  refine lv_iload_n hx hb dX11_drawn_2 rfl (lv_at hl 2 rfl) ?_
  refine goI (rnV C0 (c_canDraw l G t x tp rd im mk sl ac cl xhb rs sd cr xhl df ha1 ha2 ha3 ha4 ha5 ha6 ha7 ha8 hc a0 b0) lkX11_318 ⟨by decide, by decide⟩ (hP.sub (ws' := [(x, .inr (11, [.ref tp, .ref rd, .ref im, .ref mk, .ref sl, .ref ac, .ref cl, .ref xhb, .ref rs, .ref sd, .ref cr, .ref xhl, .ref df])), (xhl, .inr (5, [.int 0, .int 0, .int 0, .int 0, .int 0, .int 0, .long 0, .ref ha1, .ref ha2, .ref ha3, .ref ha4, .ref ha5, .ref ha6, .ref ha7, .ref ha8, .ref hc]))]) [0, 1] rfl) (hD.sub (ws' := [(x, .inr (11, [.ref tp, .ref rd, .ref im, .ref mk, .ref sl, .ref ac, .ref cl, .ref xhb, .ref rs, .ref sd, .ref cr, .ref xhl, .ref df])), (xhl, .inr (5, [.int 0, .int 0, .int 0, .int 0, .int 0, .int 0, .long 0, .ref ha1, .ref ha2, .ref ha3, .ref ha4, .ref ha5, .ref ha6, .ref ha7, .ref ha8, .ref hc]))]) [0, 1] (by decide) rfl) 0 11 rfl rfl rfl rfl hl.1 (rest := []) rfl (Nat.le_of_ble_eq_true rfl) dX11_drawn_3 ⟨by decide, by decide⟩) hP hD hS hA [0, 1] [] (wr := []) rfl rfl (by decide) (by decide) (fun r_1 u H locs h_2 hP hD hS => ?_)
  have hP : va_P G vwCl [(x, .inr (11, [.ref tp, .ref rd, .ref im, .ref mk, .ref sl, .ref ac, .ref cl, .ref xhb, .ref rs, .ref sd, .ref cr, .ref xhl, .ref df])), (xhl, .inr (5, [.int 0, .int 0, .int 0, .int 0, .int 0, .int 0, .long 0, .ref ha1, .ref ha2, .ref ha3, .ref ha4, .ref ha5, .ref ha6, .ref ha7, .ref ha8, .ref hc]))] H := hP
  have hD : va_D A [(x, .inr (11, [.ref tp, .ref rd, .ref im, .ref mk, .ref sl, .ref ac, .ref cl, .ref xhb, .ref rs, .ref sd, .ref cr, .ref xhl, .ref df])), (xhl, .inr (5, [.int 0, .int 0, .int 0, .int 0, .int 0, .int 0, .long 0, .ref ha1, .ref ha2, .ref ha3, .ref ha4, .ref ha5, .ref ha6, .ref ha7, .ref ha8, .ref hc]))] := hD
  refine W.widen (k := 0) (n := 0) (Nat.le_of_ble_eq_true rfl) (Nat.le_of_ble_eq_true rfl) ?_
  obtain rfl : r_1 = 0 := h_2
  refine lv_if_eq (tgt := 18) hx hb dX11_drawn_6 (by decide) (fun _ => ?_) (fun c_3 => absurd (by decide) c_3)
  refine lv_bipush (v := (-2)) hx hb dX11_drawn_18 (by decide) ?_
  refine W.widen (k := 0) (n := 0) (by decide) (by decide) ?_
  exact rtI hx hb hr hlocks hS () (rfl) (hP.sub [] rfl) (hD.sub [] (by decide) rfl) dX11_drawn_20

set_option maxHeartbeats 4000000 in
set_option maxRecDepth 100000 in
theorem x_lucky (l : Launch) (G : va_G) (t : Nat → ClassId) (x : Nat) (tp : Nat) (rd : Nat) (im : Nat) (mk : Nat) (sl : Nat) (ac : Nat) (cl : Nat) (xhb : Nat) (rs : Nat) (sd : Nat) (cr : Nat) (xhl : Nat) (df : Nat) (ha1 : Nat) (ha2 : Nat) (ha3 : Nat) (ha4 : Nat) (ha5 : Nat) (ha6 : Nat) (ha7 : Nat) (ha8 : Nat) (hc : Nat) (a0 : Int32) (b0 : Int32) (c0 : Int32) : Ct l G t yX11_lucky cX11_lucky 6 (some .int) ({ frames := 2, cells := 0, slots := 0, locals := 42 }) [.ref x, .int a0, .int b0, .int c0] [(x, .inr (11, [.ref tp, .ref rd, .ref im, .ref mk, .ref sl, .ref ac, .ref cl, .ref xhb, .ref rs, .ref sd, .ref cr, .ref xhl, .ref df])), (xhl, .inr (5, [.int 0, .int 0, .int 0, .int 0, .int 0, .int 0, .long 0, .ref ha1, .ref ha2, .ref ha3, .ref ha4, .ref ha5, .ref ha6, .ref ha7, .ref ha8, .ref hc]))] (QI G (fun r (u : Unit) => r = (-2)) (fun (u : Unit) => [])) := by
  refine ent (by decide) (Nat.le_of_ble_eq_true rfl) ?_
  intro p e s m args below meth c hx hb hr hml hts hown hlocks hin A hA hK hO hP hD hS ls hl
  have hown : s.vm.findClass RX11 = some m.cls := hown
  have hl : lv_has ls 6 [(0, .ref x), (1, .int a0), (2, .int b0), (3, .int c0)] := hl
  have C0 : Cx p s m args c cX11_lucky 6 RX11 G t := ⟨hx, hb, hml, hown, hts, hK, hO⟩
  refine lv_aload_n hx hb dX11_lucky_0 rfl (lv_at hl 0 rfl) ?_
  refine lv_iload_n hx hb dX11_lucky_1 rfl (lv_at hl 1 rfl) ?_
  refine lv_iload_n hx hb dX11_lucky_2 rfl (lv_at hl 3 rfl) ?_
  refine goI (rnV C0 (c_canDraw l G t x tp rd im mk sl ac cl xhb rs sd cr xhl df ha1 ha2 ha3 ha4 ha5 ha6 ha7 ha8 hc a0 c0) lkX11_318 ⟨by decide, by decide⟩ (hP.sub (ws' := [(x, .inr (11, [.ref tp, .ref rd, .ref im, .ref mk, .ref sl, .ref ac, .ref cl, .ref xhb, .ref rs, .ref sd, .ref cr, .ref xhl, .ref df])), (xhl, .inr (5, [.int 0, .int 0, .int 0, .int 0, .int 0, .int 0, .long 0, .ref ha1, .ref ha2, .ref ha3, .ref ha4, .ref ha5, .ref ha6, .ref ha7, .ref ha8, .ref hc]))]) [0, 1] rfl) (hD.sub (ws' := [(x, .inr (11, [.ref tp, .ref rd, .ref im, .ref mk, .ref sl, .ref ac, .ref cl, .ref xhb, .ref rs, .ref sd, .ref cr, .ref xhl, .ref df])), (xhl, .inr (5, [.int 0, .int 0, .int 0, .int 0, .int 0, .int 0, .long 0, .ref ha1, .ref ha2, .ref ha3, .ref ha4, .ref ha5, .ref ha6, .ref ha7, .ref ha8, .ref hc]))]) [0, 1] (by decide) rfl) 0 11 rfl rfl rfl rfl hl.1 (rest := []) rfl (Nat.le_of_ble_eq_true rfl) dX11_lucky_3 ⟨by decide, by decide⟩) hP hD hS hA [0, 1] [] (wr := []) rfl rfl (by decide) (by decide) (fun r_1 u H locs h_2 hP hD hS => ?_)
  have hP : va_P G vwCl [(x, .inr (11, [.ref tp, .ref rd, .ref im, .ref mk, .ref sl, .ref ac, .ref cl, .ref xhb, .ref rs, .ref sd, .ref cr, .ref xhl, .ref df])), (xhl, .inr (5, [.int 0, .int 0, .int 0, .int 0, .int 0, .int 0, .long 0, .ref ha1, .ref ha2, .ref ha3, .ref ha4, .ref ha5, .ref ha6, .ref ha7, .ref ha8, .ref hc]))] H := hP
  have hD : va_D A [(x, .inr (11, [.ref tp, .ref rd, .ref im, .ref mk, .ref sl, .ref ac, .ref cl, .ref xhb, .ref rs, .ref sd, .ref cr, .ref xhl, .ref df])), (xhl, .inr (5, [.int 0, .int 0, .int 0, .int 0, .int 0, .int 0, .long 0, .ref ha1, .ref ha2, .ref ha3, .ref ha4, .ref ha5, .ref ha6, .ref ha7, .ref ha8, .ref hc]))] := hD
  refine W.widen (k := 0) (n := 0) (Nat.le_of_ble_eq_true rfl) (Nat.le_of_ble_eq_true rfl) ?_
  obtain rfl : r_1 = 0 := h_2
  refine lv_if_eq (tgt := 20) hx hb dX11_lucky_6 (by decide) (fun _ => ?_) (fun c_3 => absurd (by decide) c_3)
  refine lv_bipush (v := (-2)) hx hb dX11_lucky_20 (by decide) ?_
  refine W.widen (k := 0) (n := 0) (by decide) (by decide) ?_
  exact rtI hx hb hr hlocks hS () (rfl) (hP.sub [] rfl) (hD.sub [] (by decide) rfl) dX11_lucky_22

set_option maxHeartbeats 4000000 in
set_option maxRecDepth 100000 in
theorem c_Changes_init (l : Launch) (G : va_G) (t : Nat → ClassId) (h0 : Nat) : Ct l G t yX1_init cX1_init 1 none ({ frames := 1, cells := 4, slots := 160, locals := 12 }) [.ref h0] [(h0, .inr (1, [.int 0, .null, .null, .null, .null]))] (QV G (fun (u : (Nat) × (Nat) × (Nat) × (Nat)) => True) (fun (u : (Nat) × (Nat) × (Nat) × (Nat)) => [(h0, .inr (1, [.int 0, .ref u.1, .ref u.2.1, .ref u.2.2.1, .ref u.2.2.2])), (u.1, .inl (t 1, 40, .inl (fun _ => 0))), (u.2.1, .inl (t 1, 40, .inl (fun _ => 0))), (u.2.2.1, .inl (t 1, 40, .inl (fun _ => 0))), (u.2.2.2, .inl (t 1, 40, .inl (fun _ => 0)))])) := by
  refine ent (by decide) (Nat.le_of_ble_eq_true rfl) ?_
  intro p e s m args below meth c hx hb hr hml hts hown hlocks hin A hA hK hO hP hD hS ls hl
  have hown : s.vm.findClass RX1 = some m.cls := hown
  have hl : lv_has ls 1 [(0, .ref h0)] := hl
  have C0 : Cx p s m args c cX1_init 1 RX1 G t := ⟨hx, hb, hml, hown, hts, hK, hO⟩
  refine lv_aload_n hx hb dX1_init_0 rfl (lv_at hl 0 rfl) ?_
  refine obi hx hb hts hown hml hl.1 tw1_55 tw1_24 tw1_25 dX1_init_1 (by decide) (Nat.le_of_ble_eq_true rfl) ?_
  refine lv_aload_n hx hb dX1_init_4 rfl (lv_at hl 0 rfl) ?_
  refine lv_bipush (v := 40) hx hb dX1_init_5 (by decide) ?_
  refine nwa hx hb hts hK hP hD hS hA tw1_79 rfl 1 rfl 40 (40, .inl (fun _ => 0)) (fun _ => rfl) (by decide) (by decide) (by decide) (by decide) (by decide) dX1_init_7 (fun q_1 H hP hD hS => ?_)
  have hP : va_P G vwCl [(h0, .inr (1, [.int 0, .null, .null, .null, .null])), (q_1, .inl (t 1, 40, .inl (fun _ => 0)))] H := hP
  have hD : va_D A [(h0, .inr (1, [.int 0, .null, .null, .null, .null])), (q_1, .inl (t 1, 40, .inl (fun _ => 0)))] := hD
  refine W.widen (k := 1) (n := 40) (Nat.le_of_ble_eq_true rfl) (Nat.le_of_ble_eq_true rfl) ?_
  refine pfF hx hb hts hown hK hP hD hS 0 inT1 tyX1_ok nmX1 rfl rfl 1 (by decide) tw1_59 rfl hin rfl rfl rfl (Nat.le_of_ble_eq_true rfl) dX1_init_9 (ws' := [(h0, .inr (1, [.int 0, .ref q_1, .null, .null, .null])), (q_1, .inl (t 1, 40, .inl (fun _ => 0)))]) rfl (fun H locs hP hD hS => ?_)
  refine lv_aload_n hx hb dX1_init_12 rfl (lv_at hl 0 rfl) ?_
  refine lv_bipush (v := 40) hx hb dX1_init_13 (by decide) ?_
  refine nwa hx hb hts hK hP hD hS hA tw1_79 rfl 1 rfl 40 (40, .inl (fun _ => 0)) (fun _ => rfl) (by decide) (by decide) (by decide) (by decide) (by decide) dX1_init_15 (fun q_2 H hP hD hS => ?_)
  have hP : va_P G vwCl [(h0, .inr (1, [.int 0, .ref q_1, .null, .null, .null])), (q_1, .inl (t 1, 40, .inl (fun _ => 0))), (q_2, .inl (t 1, 40, .inl (fun _ => 0)))] H := hP
  have hD : va_D A [(h0, .inr (1, [.int 0, .ref q_1, .null, .null, .null])), (q_1, .inl (t 1, 40, .inl (fun _ => 0))), (q_2, .inl (t 1, 40, .inl (fun _ => 0)))] := hD
  refine W.widen (k := 2) (n := 80) (Nat.le_of_ble_eq_true rfl) (Nat.le_of_ble_eq_true rfl) ?_
  refine pfF hx hb hts hown hK hP hD hS 0 inT1 tyX1_ok nmX1 rfl rfl 2 (by decide) tw1_61 rfl hin rfl rfl rfl (Nat.le_of_ble_eq_true rfl) dX1_init_17 (ws' := [(h0, .inr (1, [.int 0, .ref q_1, .ref q_2, .null, .null])), (q_1, .inl (t 1, 40, .inl (fun _ => 0))), (q_2, .inl (t 1, 40, .inl (fun _ => 0)))]) rfl (fun H locs hP hD hS => ?_)
  refine lv_aload_n hx hb dX1_init_20 rfl (lv_at hl 0 rfl) ?_
  refine lv_bipush (v := 40) hx hb dX1_init_21 (by decide) ?_
  refine nwa hx hb hts hK hP hD hS hA tw1_79 rfl 1 rfl 40 (40, .inl (fun _ => 0)) (fun _ => rfl) (by decide) (by decide) (by decide) (by decide) (by decide) dX1_init_23 (fun q_3 H hP hD hS => ?_)
  have hP : va_P G vwCl [(h0, .inr (1, [.int 0, .ref q_1, .ref q_2, .null, .null])), (q_1, .inl (t 1, 40, .inl (fun _ => 0))), (q_2, .inl (t 1, 40, .inl (fun _ => 0))), (q_3, .inl (t 1, 40, .inl (fun _ => 0)))] H := hP
  have hD : va_D A [(h0, .inr (1, [.int 0, .ref q_1, .ref q_2, .null, .null])), (q_1, .inl (t 1, 40, .inl (fun _ => 0))), (q_2, .inl (t 1, 40, .inl (fun _ => 0))), (q_3, .inl (t 1, 40, .inl (fun _ => 0)))] := hD
  refine W.widen (k := 3) (n := 120) (Nat.le_of_ble_eq_true rfl) (Nat.le_of_ble_eq_true rfl) ?_
  refine pfF hx hb hts hown hK hP hD hS 0 inT1 tyX1_ok nmX1 rfl rfl 3 (by decide) tw1_63 rfl hin rfl rfl rfl (Nat.le_of_ble_eq_true rfl) dX1_init_25 (ws' := [(h0, .inr (1, [.int 0, .ref q_1, .ref q_2, .ref q_3, .null])), (q_1, .inl (t 1, 40, .inl (fun _ => 0))), (q_2, .inl (t 1, 40, .inl (fun _ => 0))), (q_3, .inl (t 1, 40, .inl (fun _ => 0)))]) rfl (fun H locs hP hD hS => ?_)
  refine lv_aload_n hx hb dX1_init_28 rfl (lv_at hl 0 rfl) ?_
  refine lv_bipush (v := 40) hx hb dX1_init_29 (by decide) ?_
  refine nwa hx hb hts hK hP hD hS hA tw1_79 rfl 1 rfl 40 (40, .inl (fun _ => 0)) (fun _ => rfl) (by decide) (by decide) (by decide) (by decide) (by decide) dX1_init_31 (fun q_4 H hP hD hS => ?_)
  have hP : va_P G vwCl [(h0, .inr (1, [.int 0, .ref q_1, .ref q_2, .ref q_3, .null])), (q_1, .inl (t 1, 40, .inl (fun _ => 0))), (q_2, .inl (t 1, 40, .inl (fun _ => 0))), (q_3, .inl (t 1, 40, .inl (fun _ => 0))), (q_4, .inl (t 1, 40, .inl (fun _ => 0)))] H := hP
  have hD : va_D A [(h0, .inr (1, [.int 0, .ref q_1, .ref q_2, .ref q_3, .null])), (q_1, .inl (t 1, 40, .inl (fun _ => 0))), (q_2, .inl (t 1, 40, .inl (fun _ => 0))), (q_3, .inl (t 1, 40, .inl (fun _ => 0))), (q_4, .inl (t 1, 40, .inl (fun _ => 0)))] := hD
  refine W.widen (k := 4) (n := 160) (Nat.le_of_ble_eq_true rfl) (Nat.le_of_ble_eq_true rfl) ?_
  refine pfF hx hb hts hown hK hP hD hS 0 inT1 tyX1_ok nmX1 rfl rfl 4 (by decide) tw1_65 rfl hin rfl rfl rfl (Nat.le_of_ble_eq_true rfl) dX1_init_33 (ws' := [(h0, .inr (1, [.int 0, .ref q_1, .ref q_2, .ref q_3, .ref q_4])), (q_1, .inl (t 1, 40, .inl (fun _ => 0))), (q_2, .inl (t 1, 40, .inl (fun _ => 0))), (q_3, .inl (t 1, 40, .inl (fun _ => 0))), (q_4, .inl (t 1, 40, .inl (fun _ => 0)))]) rfl (fun H locs hP hD hS => ?_)
  refine W.widen (k := 4) (n := 160) (by decide) (by decide) ?_
  exact rtV hx hb hr hlocks hS (q_1, q_2, q_3, q_4) (trivial) (hP.sub [0, 1, 2, 3, 4] rfl) (hD.sub [0, 1, 2, 3, 4] (by decide) rfl) dX1_init_36

set_option maxHeartbeats 4000000 in
set_option maxRecDepth 100000 in
theorem c_Hall_init (l : Launch) (G : va_G) (t : Nat → ClassId) (h0 : Nat) : Ct l G t yX5_init cX5_init 1 none ({ frames := 2, cells := 13, slots := 229, locals := 32 }) [.ref h0] [(h0, .inr (5, [.int 0, .int 0, .int 0, .int 0, .int 0, .int 0, .long 0, .null, .null, .null, .null, .null, .null, .null, .null, .null]))] (QV G (fun (u : (Nat) × (Nat) × (Nat) × (Nat) × (Nat) × (Nat) × (Nat) × (Nat) × (Nat) × (Nat) × (Nat) × (Nat) × (Nat)) => True) (fun (u : (Nat) × (Nat) × (Nat) × (Nat) × (Nat) × (Nat) × (Nat) × (Nat) × (Nat) × (Nat) × (Nat) × (Nat) × (Nat)) => [(h0, .inr (5, [.int 0, .int 0, .int 0, .int 0, .int 0, .int 0, .long 0, .ref u.1, .ref u.2.1, .ref u.2.2.1, .ref u.2.2.2.1, .ref u.2.2.2.2.1, .ref u.2.2.2.2.2.1, .ref u.2.2.2.2.2.2.1, .ref u.2.2.2.2.2.2.2.1, .ref u.2.2.2.2.2.2.2.2.1])), (u.1, .inl (t 1, 9, .inl (fun _ => 0))), (u.2.1, .inl (t 1, 9, .inl (fun _ => 0))), (u.2.2.1, .inl (t 1, 9, .inl (fun _ => 0))), (u.2.2.2.1, .inl (t 1, 9, .inl (fun _ => 0))), (u.2.2.2.2.1, .inl (t 1, 7, .inl (fun _ => 0))), (u.2.2.2.2.2.1, .inl (t 1, 7, .inl (fun _ => 0))), (u.2.2.2.2.2.2.1, .inl (t 1, 7, .inl (fun _ => 0))), (u.2.2.2.2.2.2.2.1, .inl (t 1, 7, .inl (fun _ => 0))), (u.2.2.2.2.2.2.2.2.1, .inr (1, [.int 0, .ref u.2.2.2.2.2.2.2.2.2.1, .ref u.2.2.2.2.2.2.2.2.2.2.1, .ref u.2.2.2.2.2.2.2.2.2.2.2.1, .ref u.2.2.2.2.2.2.2.2.2.2.2.2])), (u.2.2.2.2.2.2.2.2.2.1, .inl (t 1, 40, .inl (fun _ => 0))), (u.2.2.2.2.2.2.2.2.2.2.1, .inl (t 1, 40, .inl (fun _ => 0))), (u.2.2.2.2.2.2.2.2.2.2.2.1, .inl (t 1, 40, .inl (fun _ => 0))), (u.2.2.2.2.2.2.2.2.2.2.2.2, .inl (t 1, 40, .inl (fun _ => 0)))])) := by
  refine ent (by decide) (Nat.le_of_ble_eq_true rfl) ?_
  intro p e s m args below meth c hx hb hr hml hts hown hlocks hin A hA hK hO hP hD hS ls hl
  have hown : s.vm.findClass RX5 = some m.cls := hown
  have hl : lv_has ls 1 [(0, .ref h0)] := hl
  have C0 : Cx p s m args c cX5_init 1 RX5 G t := ⟨hx, hb, hml, hown, hts, hK, hO⟩
  refine lv_aload_n hx hb dX5_init_0 rfl (lv_at hl 0 rfl) ?_
  refine obi hx hb hts hown hml hl.1 tw1_49 tw1_24 tw1_25 dX5_init_1 (by decide) (Nat.le_of_ble_eq_true rfl) ?_
  refine lv_aload_n hx hb dX5_init_4 rfl (lv_at hl 0 rfl) ?_
  refine lv_bipush (v := 9) hx hb dX5_init_5 (by decide) ?_
  refine nwa hx hb hts hK hP hD hS hA tw1_79 rfl 1 rfl 9 (9, .inl (fun _ => 0)) (fun _ => rfl) (by decide) (by decide) (by decide) (by decide) (by decide) dX5_init_7 (fun q_1 H hP hD hS => ?_)
  have hP : va_P G vwCl [(h0, .inr (5, [.int 0, .int 0, .int 0, .int 0, .int 0, .int 0, .long 0, .null, .null, .null, .null, .null, .null, .null, .null, .null])), (q_1, .inl (t 1, 9, .inl (fun _ => 0)))] H := hP
  have hD : va_D A [(h0, .inr (5, [.int 0, .int 0, .int 0, .int 0, .int 0, .int 0, .long 0, .null, .null, .null, .null, .null, .null, .null, .null, .null])), (q_1, .inl (t 1, 9, .inl (fun _ => 0)))] := hD
  refine W.widen (k := 1) (n := 9) (Nat.le_of_ble_eq_true rfl) (Nat.le_of_ble_eq_true rfl) ?_
  refine pfF hx hb hts hown hK hP hD hS 0 inT5 tyX5_ok nmX5 rfl rfl 7 (by decide) tw1_112 rfl hin rfl rfl rfl (Nat.le_of_ble_eq_true rfl) dX5_init_9 (ws' := [(h0, .inr (5, [.int 0, .int 0, .int 0, .int 0, .int 0, .int 0, .long 0, .ref q_1, .null, .null, .null, .null, .null, .null, .null, .null])), (q_1, .inl (t 1, 9, .inl (fun _ => 0)))]) rfl (fun H locs hP hD hS => ?_)
  refine lv_aload_n hx hb dX5_init_12 rfl (lv_at hl 0 rfl) ?_
  refine lv_bipush (v := 9) hx hb dX5_init_13 (by decide) ?_
  refine nwa hx hb hts hK hP hD hS hA tw1_79 rfl 1 rfl 9 (9, .inl (fun _ => 0)) (fun _ => rfl) (by decide) (by decide) (by decide) (by decide) (by decide) dX5_init_15 (fun q_2 H hP hD hS => ?_)
  have hP : va_P G vwCl [(h0, .inr (5, [.int 0, .int 0, .int 0, .int 0, .int 0, .int 0, .long 0, .ref q_1, .null, .null, .null, .null, .null, .null, .null, .null])), (q_1, .inl (t 1, 9, .inl (fun _ => 0))), (q_2, .inl (t 1, 9, .inl (fun _ => 0)))] H := hP
  have hD : va_D A [(h0, .inr (5, [.int 0, .int 0, .int 0, .int 0, .int 0, .int 0, .long 0, .ref q_1, .null, .null, .null, .null, .null, .null, .null, .null])), (q_1, .inl (t 1, 9, .inl (fun _ => 0))), (q_2, .inl (t 1, 9, .inl (fun _ => 0)))] := hD
  refine W.widen (k := 2) (n := 18) (Nat.le_of_ble_eq_true rfl) (Nat.le_of_ble_eq_true rfl) ?_
  refine pfF hx hb hts hown hK hP hD hS 0 inT5 tyX5_ok nmX5 rfl rfl 8 (by decide) tw1_116 rfl hin rfl rfl rfl (Nat.le_of_ble_eq_true rfl) dX5_init_17 (ws' := [(h0, .inr (5, [.int 0, .int 0, .int 0, .int 0, .int 0, .int 0, .long 0, .ref q_1, .ref q_2, .null, .null, .null, .null, .null, .null, .null])), (q_1, .inl (t 1, 9, .inl (fun _ => 0))), (q_2, .inl (t 1, 9, .inl (fun _ => 0)))]) rfl (fun H locs hP hD hS => ?_)
  refine lv_aload_n hx hb dX5_init_20 rfl (lv_at hl 0 rfl) ?_
  refine lv_bipush (v := 9) hx hb dX5_init_21 (by decide) ?_
  refine nwa hx hb hts hK hP hD hS hA tw1_79 rfl 1 rfl 9 (9, .inl (fun _ => 0)) (fun _ => rfl) (by decide) (by decide) (by decide) (by decide) (by decide) dX5_init_23 (fun q_3 H hP hD hS => ?_)
  have hP : va_P G vwCl [(h0, .inr (5, [.int 0, .int 0, .int 0, .int 0, .int 0, .int 0, .long 0, .ref q_1, .ref q_2, .null, .null, .null, .null, .null, .null, .null])), (q_1, .inl (t 1, 9, .inl (fun _ => 0))), (q_2, .inl (t 1, 9, .inl (fun _ => 0))), (q_3, .inl (t 1, 9, .inl (fun _ => 0)))] H := hP
  have hD : va_D A [(h0, .inr (5, [.int 0, .int 0, .int 0, .int 0, .int 0, .int 0, .long 0, .ref q_1, .ref q_2, .null, .null, .null, .null, .null, .null, .null])), (q_1, .inl (t 1, 9, .inl (fun _ => 0))), (q_2, .inl (t 1, 9, .inl (fun _ => 0))), (q_3, .inl (t 1, 9, .inl (fun _ => 0)))] := hD
  refine W.widen (k := 3) (n := 27) (Nat.le_of_ble_eq_true rfl) (Nat.le_of_ble_eq_true rfl) ?_
  refine pfF hx hb hts hown hK hP hD hS 0 inT5 tyX5_ok nmX5 rfl rfl 9 (by decide) tw1_120 rfl hin rfl rfl rfl (Nat.le_of_ble_eq_true rfl) dX5_init_25 (ws' := [(h0, .inr (5, [.int 0, .int 0, .int 0, .int 0, .int 0, .int 0, .long 0, .ref q_1, .ref q_2, .ref q_3, .null, .null, .null, .null, .null, .null])), (q_1, .inl (t 1, 9, .inl (fun _ => 0))), (q_2, .inl (t 1, 9, .inl (fun _ => 0))), (q_3, .inl (t 1, 9, .inl (fun _ => 0)))]) rfl (fun H locs hP hD hS => ?_)
  refine lv_aload_n hx hb dX5_init_28 rfl (lv_at hl 0 rfl) ?_
  refine lv_bipush (v := 9) hx hb dX5_init_29 (by decide) ?_
  refine nwa hx hb hts hK hP hD hS hA tw1_79 rfl 1 rfl 9 (9, .inl (fun _ => 0)) (fun _ => rfl) (by decide) (by decide) (by decide) (by decide) (by decide) dX5_init_31 (fun q_4 H hP hD hS => ?_)
  have hP : va_P G vwCl [(h0, .inr (5, [.int 0, .int 0, .int 0, .int 0, .int 0, .int 0, .long 0, .ref q_1, .ref q_2, .ref q_3, .null, .null, .null, .null, .null, .null])), (q_1, .inl (t 1, 9, .inl (fun _ => 0))), (q_2, .inl (t 1, 9, .inl (fun _ => 0))), (q_3, .inl (t 1, 9, .inl (fun _ => 0))), (q_4, .inl (t 1, 9, .inl (fun _ => 0)))] H := hP
  have hD : va_D A [(h0, .inr (5, [.int 0, .int 0, .int 0, .int 0, .int 0, .int 0, .long 0, .ref q_1, .ref q_2, .ref q_3, .null, .null, .null, .null, .null, .null])), (q_1, .inl (t 1, 9, .inl (fun _ => 0))), (q_2, .inl (t 1, 9, .inl (fun _ => 0))), (q_3, .inl (t 1, 9, .inl (fun _ => 0))), (q_4, .inl (t 1, 9, .inl (fun _ => 0)))] := hD
  refine W.widen (k := 4) (n := 36) (Nat.le_of_ble_eq_true rfl) (Nat.le_of_ble_eq_true rfl) ?_
  refine pfF hx hb hts hown hK hP hD hS 0 inT5 tyX5_ok nmX5 rfl rfl 10 (by decide) tw1_124 rfl hin rfl rfl rfl (Nat.le_of_ble_eq_true rfl) dX5_init_33 (ws' := [(h0, .inr (5, [.int 0, .int 0, .int 0, .int 0, .int 0, .int 0, .long 0, .ref q_1, .ref q_2, .ref q_3, .ref q_4, .null, .null, .null, .null, .null])), (q_1, .inl (t 1, 9, .inl (fun _ => 0))), (q_2, .inl (t 1, 9, .inl (fun _ => 0))), (q_3, .inl (t 1, 9, .inl (fun _ => 0))), (q_4, .inl (t 1, 9, .inl (fun _ => 0)))]) rfl (fun H locs hP hD hS => ?_)
  refine lv_aload_n hx hb dX5_init_36 rfl (lv_at hl 0 rfl) ?_
  refine lv_bipush (v := 7) hx hb dX5_init_37 (by decide) ?_
  refine nwa hx hb hts hK hP hD hS hA tw1_79 rfl 1 rfl 7 (7, .inl (fun _ => 0)) (fun _ => rfl) (by decide) (by decide) (by decide) (by decide) (by decide) dX5_init_39 (fun q_5 H hP hD hS => ?_)
  have hP : va_P G vwCl [(h0, .inr (5, [.int 0, .int 0, .int 0, .int 0, .int 0, .int 0, .long 0, .ref q_1, .ref q_2, .ref q_3, .ref q_4, .null, .null, .null, .null, .null])), (q_1, .inl (t 1, 9, .inl (fun _ => 0))), (q_2, .inl (t 1, 9, .inl (fun _ => 0))), (q_3, .inl (t 1, 9, .inl (fun _ => 0))), (q_4, .inl (t 1, 9, .inl (fun _ => 0))), (q_5, .inl (t 1, 7, .inl (fun _ => 0)))] H := hP
  have hD : va_D A [(h0, .inr (5, [.int 0, .int 0, .int 0, .int 0, .int 0, .int 0, .long 0, .ref q_1, .ref q_2, .ref q_3, .ref q_4, .null, .null, .null, .null, .null])), (q_1, .inl (t 1, 9, .inl (fun _ => 0))), (q_2, .inl (t 1, 9, .inl (fun _ => 0))), (q_3, .inl (t 1, 9, .inl (fun _ => 0))), (q_4, .inl (t 1, 9, .inl (fun _ => 0))), (q_5, .inl (t 1, 7, .inl (fun _ => 0)))] := hD
  refine W.widen (k := 5) (n := 43) (Nat.le_of_ble_eq_true rfl) (Nat.le_of_ble_eq_true rfl) ?_
  refine pfF hx hb hts hown hK hP hD hS 0 inT5 tyX5_ok nmX5 rfl rfl 11 (by decide) tw1_127 rfl hin rfl rfl rfl (Nat.le_of_ble_eq_true rfl) dX5_init_41 (ws' := [(h0, .inr (5, [.int 0, .int 0, .int 0, .int 0, .int 0, .int 0, .long 0, .ref q_1, .ref q_2, .ref q_3, .ref q_4, .ref q_5, .null, .null, .null, .null])), (q_1, .inl (t 1, 9, .inl (fun _ => 0))), (q_2, .inl (t 1, 9, .inl (fun _ => 0))), (q_3, .inl (t 1, 9, .inl (fun _ => 0))), (q_4, .inl (t 1, 9, .inl (fun _ => 0))), (q_5, .inl (t 1, 7, .inl (fun _ => 0)))]) rfl (fun H locs hP hD hS => ?_)
  refine lv_aload_n hx hb dX5_init_44 rfl (lv_at hl 0 rfl) ?_
  refine lv_bipush (v := 7) hx hb dX5_init_45 (by decide) ?_
  refine nwa hx hb hts hK hP hD hS hA tw1_79 rfl 1 rfl 7 (7, .inl (fun _ => 0)) (fun _ => rfl) (by decide) (by decide) (by decide) (by decide) (by decide) dX5_init_47 (fun q_6 H hP hD hS => ?_)
  have hP : va_P G vwCl [(h0, .inr (5, [.int 0, .int 0, .int 0, .int 0, .int 0, .int 0, .long 0, .ref q_1, .ref q_2, .ref q_3, .ref q_4, .ref q_5, .null, .null, .null, .null])), (q_1, .inl (t 1, 9, .inl (fun _ => 0))), (q_2, .inl (t 1, 9, .inl (fun _ => 0))), (q_3, .inl (t 1, 9, .inl (fun _ => 0))), (q_4, .inl (t 1, 9, .inl (fun _ => 0))), (q_5, .inl (t 1, 7, .inl (fun _ => 0))), (q_6, .inl (t 1, 7, .inl (fun _ => 0)))] H := hP
  have hD : va_D A [(h0, .inr (5, [.int 0, .int 0, .int 0, .int 0, .int 0, .int 0, .long 0, .ref q_1, .ref q_2, .ref q_3, .ref q_4, .ref q_5, .null, .null, .null, .null])), (q_1, .inl (t 1, 9, .inl (fun _ => 0))), (q_2, .inl (t 1, 9, .inl (fun _ => 0))), (q_3, .inl (t 1, 9, .inl (fun _ => 0))), (q_4, .inl (t 1, 9, .inl (fun _ => 0))), (q_5, .inl (t 1, 7, .inl (fun _ => 0))), (q_6, .inl (t 1, 7, .inl (fun _ => 0)))] := hD
  refine W.widen (k := 6) (n := 50) (Nat.le_of_ble_eq_true rfl) (Nat.le_of_ble_eq_true rfl) ?_
  refine pfF hx hb hts hown hK hP hD hS 0 inT5 tyX5_ok nmX5 rfl rfl 12 (by decide) tw1_131 rfl hin rfl rfl rfl (Nat.le_of_ble_eq_true rfl) dX5_init_49 (ws' := [(h0, .inr (5, [.int 0, .int 0, .int 0, .int 0, .int 0, .int 0, .long 0, .ref q_1, .ref q_2, .ref q_3, .ref q_4, .ref q_5, .ref q_6, .null, .null, .null])), (q_1, .inl (t 1, 9, .inl (fun _ => 0))), (q_2, .inl (t 1, 9, .inl (fun _ => 0))), (q_3, .inl (t 1, 9, .inl (fun _ => 0))), (q_4, .inl (t 1, 9, .inl (fun _ => 0))), (q_5, .inl (t 1, 7, .inl (fun _ => 0))), (q_6, .inl (t 1, 7, .inl (fun _ => 0)))]) rfl (fun H locs hP hD hS => ?_)
  refine lv_aload_n hx hb dX5_init_52 rfl (lv_at hl 0 rfl) ?_
  refine lv_bipush (v := 7) hx hb dX5_init_53 (by decide) ?_
  refine nwa hx hb hts hK hP hD hS hA tw1_79 rfl 1 rfl 7 (7, .inl (fun _ => 0)) (fun _ => rfl) (by decide) (by decide) (by decide) (by decide) (by decide) dX5_init_55 (fun q_7 H hP hD hS => ?_)
  have hP : va_P G vwCl [(h0, .inr (5, [.int 0, .int 0, .int 0, .int 0, .int 0, .int 0, .long 0, .ref q_1, .ref q_2, .ref q_3, .ref q_4, .ref q_5, .ref q_6, .null, .null, .null])), (q_1, .inl (t 1, 9, .inl (fun _ => 0))), (q_2, .inl (t 1, 9, .inl (fun _ => 0))), (q_3, .inl (t 1, 9, .inl (fun _ => 0))), (q_4, .inl (t 1, 9, .inl (fun _ => 0))), (q_5, .inl (t 1, 7, .inl (fun _ => 0))), (q_6, .inl (t 1, 7, .inl (fun _ => 0))), (q_7, .inl (t 1, 7, .inl (fun _ => 0)))] H := hP
  have hD : va_D A [(h0, .inr (5, [.int 0, .int 0, .int 0, .int 0, .int 0, .int 0, .long 0, .ref q_1, .ref q_2, .ref q_3, .ref q_4, .ref q_5, .ref q_6, .null, .null, .null])), (q_1, .inl (t 1, 9, .inl (fun _ => 0))), (q_2, .inl (t 1, 9, .inl (fun _ => 0))), (q_3, .inl (t 1, 9, .inl (fun _ => 0))), (q_4, .inl (t 1, 9, .inl (fun _ => 0))), (q_5, .inl (t 1, 7, .inl (fun _ => 0))), (q_6, .inl (t 1, 7, .inl (fun _ => 0))), (q_7, .inl (t 1, 7, .inl (fun _ => 0)))] := hD
  refine W.widen (k := 7) (n := 57) (Nat.le_of_ble_eq_true rfl) (Nat.le_of_ble_eq_true rfl) ?_
  refine pfF hx hb hts hown hK hP hD hS 0 inT5 tyX5_ok nmX5 rfl rfl 13 (by decide) tw1_135 rfl hin rfl rfl rfl (Nat.le_of_ble_eq_true rfl) dX5_init_57 (ws' := [(h0, .inr (5, [.int 0, .int 0, .int 0, .int 0, .int 0, .int 0, .long 0, .ref q_1, .ref q_2, .ref q_3, .ref q_4, .ref q_5, .ref q_6, .ref q_7, .null, .null])), (q_1, .inl (t 1, 9, .inl (fun _ => 0))), (q_2, .inl (t 1, 9, .inl (fun _ => 0))), (q_3, .inl (t 1, 9, .inl (fun _ => 0))), (q_4, .inl (t 1, 9, .inl (fun _ => 0))), (q_5, .inl (t 1, 7, .inl (fun _ => 0))), (q_6, .inl (t 1, 7, .inl (fun _ => 0))), (q_7, .inl (t 1, 7, .inl (fun _ => 0)))]) rfl (fun H locs hP hD hS => ?_)
  refine lv_aload_n hx hb dX5_init_60 rfl (lv_at hl 0 rfl) ?_
  refine lv_bipush (v := 7) hx hb dX5_init_61 (by decide) ?_
  refine nwa hx hb hts hK hP hD hS hA tw1_79 rfl 1 rfl 7 (7, .inl (fun _ => 0)) (fun _ => rfl) (by decide) (by decide) (by decide) (by decide) (by decide) dX5_init_63 (fun q_8 H hP hD hS => ?_)
  have hP : va_P G vwCl [(h0, .inr (5, [.int 0, .int 0, .int 0, .int 0, .int 0, .int 0, .long 0, .ref q_1, .ref q_2, .ref q_3, .ref q_4, .ref q_5, .ref q_6, .ref q_7, .null, .null])), (q_1, .inl (t 1, 9, .inl (fun _ => 0))), (q_2, .inl (t 1, 9, .inl (fun _ => 0))), (q_3, .inl (t 1, 9, .inl (fun _ => 0))), (q_4, .inl (t 1, 9, .inl (fun _ => 0))), (q_5, .inl (t 1, 7, .inl (fun _ => 0))), (q_6, .inl (t 1, 7, .inl (fun _ => 0))), (q_7, .inl (t 1, 7, .inl (fun _ => 0))), (q_8, .inl (t 1, 7, .inl (fun _ => 0)))] H := hP
  have hD : va_D A [(h0, .inr (5, [.int 0, .int 0, .int 0, .int 0, .int 0, .int 0, .long 0, .ref q_1, .ref q_2, .ref q_3, .ref q_4, .ref q_5, .ref q_6, .ref q_7, .null, .null])), (q_1, .inl (t 1, 9, .inl (fun _ => 0))), (q_2, .inl (t 1, 9, .inl (fun _ => 0))), (q_3, .inl (t 1, 9, .inl (fun _ => 0))), (q_4, .inl (t 1, 9, .inl (fun _ => 0))), (q_5, .inl (t 1, 7, .inl (fun _ => 0))), (q_6, .inl (t 1, 7, .inl (fun _ => 0))), (q_7, .inl (t 1, 7, .inl (fun _ => 0))), (q_8, .inl (t 1, 7, .inl (fun _ => 0)))] := hD
  refine W.widen (k := 8) (n := 64) (Nat.le_of_ble_eq_true rfl) (Nat.le_of_ble_eq_true rfl) ?_
  refine pfF hx hb hts hown hK hP hD hS 0 inT5 tyX5_ok nmX5 rfl rfl 14 (by decide) tw1_138 rfl hin rfl rfl rfl (Nat.le_of_ble_eq_true rfl) dX5_init_65 (ws' := [(h0, .inr (5, [.int 0, .int 0, .int 0, .int 0, .int 0, .int 0, .long 0, .ref q_1, .ref q_2, .ref q_3, .ref q_4, .ref q_5, .ref q_6, .ref q_7, .ref q_8, .null])), (q_1, .inl (t 1, 9, .inl (fun _ => 0))), (q_2, .inl (t 1, 9, .inl (fun _ => 0))), (q_3, .inl (t 1, 9, .inl (fun _ => 0))), (q_4, .inl (t 1, 9, .inl (fun _ => 0))), (q_5, .inl (t 1, 7, .inl (fun _ => 0))), (q_6, .inl (t 1, 7, .inl (fun _ => 0))), (q_7, .inl (t 1, 7, .inl (fun _ => 0))), (q_8, .inl (t 1, 7, .inl (fun _ => 0)))]) rfl (fun H locs hP hD hS => ?_)
  refine lv_aload_n hx hb dX5_init_68 rfl (lv_at hl 0 rfl) ?_
  refine nw hx hb hts hown hK hP hD hS hA (ci := 1) (fs := [.int 0, .null, .null, .null, .null]) inT1 tyX1_ok tw1_50 tw1_51 tw1_4 rfl (by decide) (by decide) (by decide) dX5_init_69 (fun q_9 H hP hD hS => ?_)
  have hP : va_P G vwCl [(h0, .inr (5, [.int 0, .int 0, .int 0, .int 0, .int 0, .int 0, .long 0, .ref q_1, .ref q_2, .ref q_3, .ref q_4, .ref q_5, .ref q_6, .ref q_7, .ref q_8, .null])), (q_1, .inl (t 1, 9, .inl (fun _ => 0))), (q_2, .inl (t 1, 9, .inl (fun _ => 0))), (q_3, .inl (t 1, 9, .inl (fun _ => 0))), (q_4, .inl (t 1, 9, .inl (fun _ => 0))), (q_5, .inl (t 1, 7, .inl (fun _ => 0))), (q_6, .inl (t 1, 7, .inl (fun _ => 0))), (q_7, .inl (t 1, 7, .inl (fun _ => 0))), (q_8, .inl (t 1, 7, .inl (fun _ => 0))), (q_9, .inr (1, [.int 0, .null, .null, .null, .null]))] H := hP
  have hD : va_D A [(h0, .inr (5, [.int 0, .int 0, .int 0, .int 0, .int 0, .int 0, .long 0, .ref q_1, .ref q_2, .ref q_3, .ref q_4, .ref q_5, .ref q_6, .ref q_7, .ref q_8, .null])), (q_1, .inl (t 1, 9, .inl (fun _ => 0))), (q_2, .inl (t 1, 9, .inl (fun _ => 0))), (q_3, .inl (t 1, 9, .inl (fun _ => 0))), (q_4, .inl (t 1, 9, .inl (fun _ => 0))), (q_5, .inl (t 1, 7, .inl (fun _ => 0))), (q_6, .inl (t 1, 7, .inl (fun _ => 0))), (q_7, .inl (t 1, 7, .inl (fun _ => 0))), (q_8, .inl (t 1, 7, .inl (fun _ => 0))), (q_9, .inr (1, [.int 0, .null, .null, .null, .null]))] := hD
  refine W.widen (k := 9) (n := 69) (Nat.le_of_ble_eq_true rfl) (Nat.le_of_ble_eq_true rfl) ?_
  refine lv_dup hx hb dX5_init_72 rfl ?_
  refine goV (rnN C0 (c_Changes_init l G t q_9) lkX5_38 rfl ⟨by decide, by decide⟩ (hP.sub (ws' := [(q_9, .inr (1, [.int 0, .null, .null, .null, .null]))]) [9] rfl) (hD.sub (ws' := [(q_9, .inr (1, [.int 0, .null, .null, .null, .null]))]) [9] (by decide) rfl) rfl hl.1 (rest := [.ref q_9, .ref h0]) rfl (Nat.le_of_ble_eq_true rfl) dX5_init_73 ⟨by decide, by decide⟩) hP hD hS hA [9] [0, 1, 2, 3, 4, 5, 6, 7, 8] (wr := [(h0, .inr (5, [.int 0, .int 0, .int 0, .int 0, .int 0, .int 0, .long 0, .ref q_1, .ref q_2, .ref q_3, .ref q_4, .ref q_5, .ref q_6, .ref q_7, .ref q_8, .null])), (q_1, .inl (t 1, 9, .inl (fun _ => 0))), (q_2, .inl (t 1, 9, .inl (fun _ => 0))), (q_3, .inl (t 1, 9, .inl (fun _ => 0))), (q_4, .inl (t 1, 9, .inl (fun _ => 0))), (q_5, .inl (t 1, 7, .inl (fun _ => 0))), (q_6, .inl (t 1, 7, .inl (fun _ => 0))), (q_7, .inl (t 1, 7, .inl (fun _ => 0))), (q_8, .inl (t 1, 7, .inl (fun _ => 0)))]) rfl rfl (by decide) (by decide) (fun u H locs h_11 hP hD hS => ?_)
  obtain ⟨u_12, u_13, u_14, u_15⟩ := u
  have hP : va_P G vwCl [(h0, .inr (5, [.int 0, .int 0, .int 0, .int 0, .int 0, .int 0, .long 0, .ref q_1, .ref q_2, .ref q_3, .ref q_4, .ref q_5, .ref q_6, .ref q_7, .ref q_8, .null])), (q_1, .inl (t 1, 9, .inl (fun _ => 0))), (q_2, .inl (t 1, 9, .inl (fun _ => 0))), (q_3, .inl (t 1, 9, .inl (fun _ => 0))), (q_4, .inl (t 1, 9, .inl (fun _ => 0))), (q_5, .inl (t 1, 7, .inl (fun _ => 0))), (q_6, .inl (t 1, 7, .inl (fun _ => 0))), (q_7, .inl (t 1, 7, .inl (fun _ => 0))), (q_8, .inl (t 1, 7, .inl (fun _ => 0))), (q_9, .inr (1, [.int 0, .ref u_12, .ref u_13, .ref u_14, .ref u_15])), (u_12, .inl (t 1, 40, .inl (fun _ => 0))), (u_13, .inl (t 1, 40, .inl (fun _ => 0))), (u_14, .inl (t 1, 40, .inl (fun _ => 0))), (u_15, .inl (t 1, 40, .inl (fun _ => 0)))] H := hP
  have hD : va_D A [(h0, .inr (5, [.int 0, .int 0, .int 0, .int 0, .int 0, .int 0, .long 0, .ref q_1, .ref q_2, .ref q_3, .ref q_4, .ref q_5, .ref q_6, .ref q_7, .ref q_8, .null])), (q_1, .inl (t 1, 9, .inl (fun _ => 0))), (q_2, .inl (t 1, 9, .inl (fun _ => 0))), (q_3, .inl (t 1, 9, .inl (fun _ => 0))), (q_4, .inl (t 1, 9, .inl (fun _ => 0))), (q_5, .inl (t 1, 7, .inl (fun _ => 0))), (q_6, .inl (t 1, 7, .inl (fun _ => 0))), (q_7, .inl (t 1, 7, .inl (fun _ => 0))), (q_8, .inl (t 1, 7, .inl (fun _ => 0))), (q_9, .inr (1, [.int 0, .ref u_12, .ref u_13, .ref u_14, .ref u_15])), (u_12, .inl (t 1, 40, .inl (fun _ => 0))), (u_13, .inl (t 1, 40, .inl (fun _ => 0))), (u_14, .inl (t 1, 40, .inl (fun _ => 0))), (u_15, .inl (t 1, 40, .inl (fun _ => 0)))] := hD
  refine W.widen (k := 13) (n := 229) (Nat.le_of_ble_eq_true rfl) (Nat.le_of_ble_eq_true rfl) ?_
  refine pfF hx hb hts hown hK hP hD hS 0 inT5 tyX5_ok nmX5 rfl rfl 15 (by decide) tw1_141 rfl hin rfl rfl rfl (Nat.le_of_ble_eq_true rfl) dX5_init_76 (ws' := [(h0, .inr (5, [.int 0, .int 0, .int 0, .int 0, .int 0, .int 0, .long 0, .ref q_1, .ref q_2, .ref q_3, .ref q_4, .ref q_5, .ref q_6, .ref q_7, .ref q_8, .ref q_9])), (q_1, .inl (t 1, 9, .inl (fun _ => 0))), (q_2, .inl (t 1, 9, .inl (fun _ => 0))), (q_3, .inl (t 1, 9, .inl (fun _ => 0))), (q_4, .inl (t 1, 9, .inl (fun _ => 0))), (q_5, .inl (t 1, 7, .inl (fun _ => 0))), (q_6, .inl (t 1, 7, .inl (fun _ => 0))), (q_7, .inl (t 1, 7, .inl (fun _ => 0))), (q_8, .inl (t 1, 7, .inl (fun _ => 0))), (q_9, .inr (1, [.int 0, .ref u_12, .ref u_13, .ref u_14, .ref u_15])), (u_12, .inl (t 1, 40, .inl (fun _ => 0))), (u_13, .inl (t 1, 40, .inl (fun _ => 0))), (u_14, .inl (t 1, 40, .inl (fun _ => 0))), (u_15, .inl (t 1, 40, .inl (fun _ => 0)))]) rfl (fun H locs hP hD hS => ?_)
  refine W.widen (k := 13) (n := 229) (by decide) (by decide) ?_
  exact rtV hx hb hr hlocks hS (q_1, q_2, q_3, q_4, q_5, q_6, q_7, q_8, q_9, u_12, u_13, u_14, u_15) (trivial) (hP.sub [0, 1, 2, 3, 4, 5, 6, 7, 8, 9, 10, 11, 12, 13] rfl) (hD.sub [0, 1, 2, 3, 4, 5, 6, 7, 8, 9, 10, 11, 12, 13] (by decide) rfl) dX5_init_79

set_option maxHeartbeats 4000000 in
set_option maxRecDepth 100000 in
theorem c_Tape_init (l : Launch) (G : va_G) (t : Nat → ClassId) (h0 : Nat) : Ct l G t yX10_init cX10_init 1 none ({ frames := 1, cells := 1, slots := 1400, locals := 12 }) [.ref h0] [(h0, .inr (10, [.null, .int 0]))] (QV G (fun (u : (Nat)) => True) (fun (u : (Nat)) => [(h0, .inr (10, [.ref u, .int 0])), (u, .inl (t 0, 1400, .inl (fun _ => 0)))])) := by
  refine ent (by decide) (Nat.le_of_ble_eq_true rfl) ?_
  intro p e s m args below meth c hx hb hr hml hts hown hlocks hin A hA hK hO hP hD hS ls hl
  have hown : s.vm.findClass RX10 = some m.cls := hown
  have hl : lv_has ls 1 [(0, .ref h0)] := hl
  have C0 : Cx p s m args c cX10_init 1 RX10 G t := ⟨hx, hb, hml, hown, hts, hK, hO⟩
  refine lv_aload_n hx hb dX10_init_0 rfl (lv_at hl 0 rfl) ?_
  refine obi hx hb hts hown hml hl.1 tw1_31 tw1_24 tw1_25 dX10_init_1 (by decide) (Nat.le_of_ble_eq_true rfl) ?_
  refine lv_aload_n hx hb dX10_init_4 rfl (lv_at hl 0 rfl) ?_
  refine lv_sipush (v := 1400) hx hb dX10_init_5 (by decide) ?_
  refine nwa hx hb hts hK hP hD hS hA tw1_40 rfl 0 rfl 1400 (1400, .inl (fun _ => 0)) (fun _ => rfl) (by decide) (by decide) (by decide) (by decide) (by decide) dX10_init_8 (fun q_1 H hP hD hS => ?_)
  have hP : va_P G vwCl [(h0, .inr (10, [.null, .int 0])), (q_1, .inl (t 0, 1400, .inl (fun _ => 0)))] H := hP
  have hD : va_D A [(h0, .inr (10, [.null, .int 0])), (q_1, .inl (t 0, 1400, .inl (fun _ => 0)))] := hD
  refine W.widen (k := 1) (n := 1400) (Nat.le_of_ble_eq_true rfl) (Nat.le_of_ble_eq_true rfl) ?_
  refine pfF hx hb hts hown hK hP hD hS 0 inT10 tyX10_ok nmX10 rfl rfl 0 (by decide) tw1_32 rfl hin rfl rfl rfl (Nat.le_of_ble_eq_true rfl) dX10_init_10 (ws' := [(h0, .inr (10, [.ref q_1, .int 0])), (q_1, .inl (t 0, 1400, .inl (fun _ => 0)))]) rfl (fun H locs hP hD hS => ?_)
  refine W.widen (k := 1) (n := 1400) (by decide) (by decide) ?_
  exact rtV hx hb hr hlocks hS q_1 (trivial) (hP.sub [0, 1] rfl) (hD.sub [0, 1] (by decide) rfl) dX10_init_13

set_option maxHeartbeats 4000000 in
set_option maxRecDepth 100000 in
theorem c_Slot_init (l : Launch) (G : va_G) (t : Nat → ClassId) (h0 : Nat) : Ct l G t yX8_init cX8_init 1 none ({ frames := 1, cells := 1, slots := 60, locals := 12 }) [.ref h0] [(h0, .inr (8, [.null, .int 0, .int 0]))] (QV G (fun (u : (Nat)) => True) (fun (u : (Nat)) => [(h0, .inr (8, [.ref u, .int 0, .int (-1)])), (u, .inl (t 2, 60, .inr (.inl (fun _ => 0))))])) := by
  refine ent (by decide) (Nat.le_of_ble_eq_true rfl) ?_
  intro p e s m args below meth c hx hb hr hml hts hown hlocks hin A hA hK hO hP hD hS ls hl
  have hown : s.vm.findClass RX8 = some m.cls := hown
  have hl : lv_has ls 1 [(0, .ref h0)] := hl
  have C0 : Cx p s m args c cX8_init 1 RX8 G t := ⟨hx, hb, hml, hown, hts, hK, hO⟩
  refine lv_aload_n hx hb dX8_init_0 rfl (lv_at hl 0 rfl) ?_
  refine obi hx hb hts hown hml hl.1 tw1_180 tw1_24 tw1_25 dX8_init_1 (by decide) (Nat.le_of_ble_eq_true rfl) ?_
  refine lv_aload_n hx hb dX8_init_4 rfl (lv_at hl 0 rfl) ?_
  refine lv_bipush (v := 60) hx hb dX8_init_5 (by decide) ?_
  refine nwa hx hb hts hK hP hD hS hA tw1_195 rfl 2 rfl 60 (60, .inr (.inl (fun _ => 0))) (fun _ => rfl) (by decide) (by decide) (by decide) (by decide) (by decide) dX8_init_7 (fun q_1 H hP hD hS => ?_)
  have hP : va_P G vwCl [(h0, .inr (8, [.null, .int 0, .int 0])), (q_1, .inl (t 2, 60, .inr (.inl (fun _ => 0))))] H := hP
  have hD : va_D A [(h0, .inr (8, [.null, .int 0, .int 0])), (q_1, .inl (t 2, 60, .inr (.inl (fun _ => 0))))] := hD
  refine W.widen (k := 1) (n := 60) (Nat.le_of_ble_eq_true rfl) (Nat.le_of_ble_eq_true rfl) ?_
  refine pfF hx hb hts hown hK hP hD hS 0 inT8 tyX8_ok nmX8 rfl rfl 0 (by decide) tw1_181 rfl hin rfl rfl rfl (Nat.le_of_ble_eq_true rfl) dX8_init_9 (ws' := [(h0, .inr (8, [.ref q_1, .int 0, .int 0])), (q_1, .inl (t 2, 60, .inr (.inl (fun _ => 0))))]) rfl (fun H locs hP hD hS => ?_)
  refine lv_aload_n hx hb dX8_init_12 rfl (lv_at hl 0 rfl) ?_
  refine lv_iconst (v := (-1)) hx hb dX8_init_13 (by decide) ?_
  refine pf hx hb hts hown hK hP hD hS 0 inT8 tyX8_ok nmX8 rfl rfl 2 (by decide) tw1_185 rfl rfl rfl (Nat.le_of_ble_eq_true rfl) dX8_init_14 (ws' := [(h0, .inr (8, [.ref q_1, .int 0, .int (-1)])), (q_1, .inl (t 2, 60, .inr (.inl (fun _ => 0))))]) rfl (fun H locs hP hD hS => ?_)
  refine W.widen (k := 1) (n := 60) (by decide) (by decide) ?_
  exact rtV hx hb hr hlocks hS q_1 (trivial) (hP.sub [0, 1] rfl) (hD.sub [0, 1] (by decide) rfl) dX8_init_17

set_option maxHeartbeats 4000000 in
set_option maxRecDepth 100000 in
theorem c_Stands_init (l : Launch) (G : va_G) (t : Nat → ClassId) (h0 : Nat) : Ct l G t yX9_init cX9_init 1 none ({ frames := 1, cells := 1, slots := 512, locals := 12 }) [.ref h0] [(h0, .inr (9, [.null]))] (QV G (fun (u : (Nat)) => True) (fun (u : (Nat)) => [(h0, .inr (9, [.ref u])), (u, .inl (t 2, 512, .inr (.inl (fun _ => 0))))])) := by
  refine ent (by decide) (Nat.le_of_ble_eq_true rfl) ?_
  intro p e s m args below meth c hx hb hr hml hts hown hlocks hin A hA hK hO hP hD hS ls hl
  have hown : s.vm.findClass RX9 = some m.cls := hown
  have hl : lv_has ls 1 [(0, .ref h0)] := hl
  have C0 : Cx p s m args c cX9_init 1 RX9 G t := ⟨hx, hb, hml, hown, hts, hK, hO⟩
  refine lv_aload_n hx hb dX9_init_0 rfl (lv_at hl 0 rfl) ?_
  refine obi hx hb hts hown hml hl.1 tw2_104 tw1_24 tw1_25 dX9_init_1 (by decide) (Nat.le_of_ble_eq_true rfl) ?_
  refine lv_aload_n hx hb dX9_init_4 rfl (lv_at hl 0 rfl) ?_
  refine lv_sipush (v := 512) hx hb dX9_init_5 (by decide) ?_
  refine nwa hx hb hts hK hP hD hS hA tw1_195 rfl 2 rfl 512 (512, .inr (.inl (fun _ => 0))) (fun _ => rfl) (by decide) (by decide) (by decide) (by decide) (by decide) dX9_init_8 (fun q_1 H hP hD hS => ?_)
  have hP : va_P G vwCl [(h0, .inr (9, [.null])), (q_1, .inl (t 2, 512, .inr (.inl (fun _ => 0))))] H := hP
  have hD : va_D A [(h0, .inr (9, [.null])), (q_1, .inl (t 2, 512, .inr (.inl (fun _ => 0))))] := hD
  refine W.widen (k := 1) (n := 512) (Nat.le_of_ble_eq_true rfl) (Nat.le_of_ble_eq_true rfl) ?_
  refine pfF hx hb hts hown hK hP hD hS 0 inT9 tyX9_ok nmX9 rfl rfl 0 (by decide) tw2_105 rfl hin rfl rfl rfl (Nat.le_of_ble_eq_true rfl) dX9_init_10 (ws' := [(h0, .inr (9, [.ref q_1])), (q_1, .inl (t 2, 512, .inr (.inl (fun _ => 0))))]) rfl (fun H locs hP hD hS => ?_)
  refine W.widen (k := 1) (n := 512) (by decide) (by decide) ?_
  exact rtV hx hb hr hlocks hS q_1 (trivial) (hP.sub [0, 1] rfl) (hD.sub [0, 1] (by decide) rfl) dX9_init_13

set_option maxHeartbeats 4000000 in
set_option maxRecDepth 100000 in
theorem c_Reader_init (l : Launch) (G : va_G) (t : Nat → ClassId) (h0 : Nat) (q1 : Nat) (q2 : Nat) : Ct l G t yX6_init cX6_init 3 none ({ frames := 1, cells := 0, slots := 0, locals := 12 }) [.ref h0, .ref q1, .ref q2] [(h0, .inr (6, [.int 0, .int 0, .null, .null, .int 0, .int 0, .int 0, .int 0, .int 0, .int 0]))] (QV G (fun (u : Unit) => True) (fun (u : Unit) => [(h0, .inr (6, [.int 0, .int (-1), .ref q1, .ref q2, .int 0, .int 0, .int 0, .int 0, .int 0, .int 0]))])) := by
  refine ent (by decide) (Nat.le_of_ble_eq_true rfl) ?_
  intro p e s m args below meth c hx hb hr hml hts hown hlocks hin A hA hK hO hP hD hS ls hl
  have hown : s.vm.findClass RX6 = some m.cls := hown
  have hl : lv_has ls 3 [(0, .ref h0), (1, .ref q1), (2, .ref q2)] := hl
  have C0 : Cx p s m args c cX6_init 3 RX6 G t := ⟨hx, hb, hml, hown, hts, hK, hO⟩
  refine lv_aload_n hx hb dX6_init_0 rfl (lv_at hl 0 rfl) ?_
  refine obi hx hb hts hown hml hl.1 tw1_201 tw1_24 tw1_25 dX6_init_1 (by decide) (Nat.le_of_ble_eq_true rfl) ?_
  refine lv_aload_n hx hb dX6_init_4 rfl (lv_at hl 0 rfl) ?_
  refine lv_iconst (v := (-1)) hx hb dX6_init_5 (by decide) ?_
  refine pf hx hb hts hown hK hP hD hS 0 inT6 tyX6_ok nmX6 rfl rfl 1 (by decide) tw1_204 rfl rfl rfl (Nat.le_of_ble_eq_true rfl) dX6_init_6 (ws' := [(h0, .inr (6, [.int 0, .int (-1), .null, .null, .int 0, .int 0, .int 0, .int 0, .int 0, .int 0]))]) rfl (fun H locs hP hD hS => ?_)
  refine lv_aload_n hx hb dX6_init_9 rfl (lv_at hl 0 rfl) ?_
  refine lv_aload_n hx hb dX6_init_10 rfl (lv_at hl 1 rfl) ?_
  refine pfF hx hb hts hown hK hP hD hS 0 inT6 tyX6_ok nmX6 rfl rfl 2 (by decide) tw1_206 rfl hin rfl rfl rfl (Nat.le_of_ble_eq_true rfl) dX6_init_11 (ws' := [(h0, .inr (6, [.int 0, .int (-1), .ref q1, .null, .int 0, .int 0, .int 0, .int 0, .int 0, .int 0]))]) rfl (fun H locs hP hD hS => ?_)
  refine lv_aload_n hx hb dX6_init_14 rfl (lv_at hl 0 rfl) ?_
  refine lv_aload_n hx hb dX6_init_15 rfl (lv_at hl 2 rfl) ?_
  refine pf hx hb hts hown hK hP hD hS 0 inT6 tyX6_ok nmX6 rfl rfl 3 (by decide) tw1_207 rfl rfl rfl (Nat.le_of_ble_eq_true rfl) dX6_init_16 (ws' := [(h0, .inr (6, [.int 0, .int (-1), .ref q1, .ref q2, .int 0, .int 0, .int 0, .int 0, .int 0, .int 0]))]) rfl (fun H locs hP hD hS => ?_)
  refine W.widen (k := 0) (n := 0) (by decide) (by decide) ?_
  exact rtV hx hb hr hlocks hS () (trivial) (hP.sub [0] rfl) (hD.sub [0] (by decide) rfl) dX6_init_19

set_option maxHeartbeats 4000000 in
set_option maxRecDepth 100000 in
theorem c_Acts_init (l : Launch) (G : va_G) (t : Nat → ClassId) (h0 : Nat) (q1 : Nat) : Ct l G t yX0_init cX0_init 2 none ({ frames := 1, cells := 4, slots := 4800, locals := 12 }) [.ref h0, .ref q1] [(h0, .inr (0, [.null, .null, .null, .null, .null]))] (QV G (fun (u : (Nat) × (Nat) × (Nat) × (Nat)) => True) (fun (u : (Nat) × (Nat) × (Nat) × (Nat)) => [(h0, .inr (0, [.ref q1, .ref u.1, .ref u.2.1, .ref u.2.2.1, .ref u.2.2.2])), (u.1, .inl (t 1, 420, .inl (fun _ => 0))), (u.2.1, .inl (t 3, 60, .inl (fun _ => 0))), (u.2.2.1, .inl (t 1, 2160, .inl (fun _ => 0))), (u.2.2.2, .inl (t 1, 2160, .inl (fun _ => 0)))])) := by
  refine ent (by decide) (Nat.le_of_ble_eq_true rfl) ?_
  intro p e s m args below meth c hx hb hr hml hts hown hlocks hin A hA hK hO hP hD hS ls hl
  have hown : s.vm.findClass RX0 = some m.cls := hown
  have hl : lv_has ls 2 [(0, .ref h0), (1, .ref q1)] := hl
  have C0 : Cx p s m args c cX0_init 2 RX0 G t := ⟨hx, hb, hml, hown, hts, hK, hO⟩
  refine lv_aload_n hx hb dX0_init_0 rfl (lv_at hl 0 rfl) ?_
  refine obi hx hb hts hown hml hl.1 tw2_0 tw1_24 tw1_25 dX0_init_1 (by decide) (Nat.le_of_ble_eq_true rfl) ?_
  refine lv_aload_n hx hb dX0_init_4 rfl (lv_at hl 0 rfl) ?_
  refine lv_sipush (v := 420) hx hb dX0_init_5 (by decide) ?_
  refine nwa hx hb hts hK hP hD hS hA tw1_79 rfl 1 rfl 420 (420, .inl (fun _ => 0)) (fun _ => rfl) (by decide) (by decide) (by decide) (by decide) (by decide) dX0_init_8 (fun q_1 H hP hD hS => ?_)
  have hP : va_P G vwCl [(h0, .inr (0, [.null, .null, .null, .null, .null])), (q_1, .inl (t 1, 420, .inl (fun _ => 0)))] H := hP
  have hD : va_D A [(h0, .inr (0, [.null, .null, .null, .null, .null])), (q_1, .inl (t 1, 420, .inl (fun _ => 0)))] := hD
  refine W.widen (k := 1) (n := 420) (Nat.le_of_ble_eq_true rfl) (Nat.le_of_ble_eq_true rfl) ?_
  refine pfF hx hb hts hown hK hP hD hS 0 inT0 tyX0_ok nmX0 rfl rfl 1 (by decide) tw2_6 rfl hin rfl rfl rfl (Nat.le_of_ble_eq_true rfl) dX0_init_10 (ws' := [(h0, .inr (0, [.null, .ref q_1, .null, .null, .null])), (q_1, .inl (t 1, 420, .inl (fun _ => 0)))]) rfl (fun H locs hP hD hS => ?_)
  refine lv_aload_n hx hb dX0_init_13 rfl (lv_at hl 0 rfl) ?_
  refine lv_bipush (v := 60) hx hb dX0_init_14 (by decide) ?_
  refine nwa hx hb hts hK hP hD hS hA tw1_78 rfl 3 rfl 60 (60, .inl (fun _ => 0)) (fun _ => rfl) (by decide) (by decide) (by decide) (by decide) (by decide) dX0_init_16 (fun q_2 H hP hD hS => ?_)
  have hP : va_P G vwCl [(h0, .inr (0, [.null, .ref q_1, .null, .null, .null])), (q_1, .inl (t 1, 420, .inl (fun _ => 0))), (q_2, .inl (t 3, 60, .inl (fun _ => 0)))] H := hP
  have hD : va_D A [(h0, .inr (0, [.null, .ref q_1, .null, .null, .null])), (q_1, .inl (t 1, 420, .inl (fun _ => 0))), (q_2, .inl (t 3, 60, .inl (fun _ => 0)))] := hD
  refine W.widen (k := 2) (n := 480) (Nat.le_of_ble_eq_true rfl) (Nat.le_of_ble_eq_true rfl) ?_
  refine pfF hx hb hts hown hK hP hD hS 0 inT0 tyX0_ok nmX0 rfl rfl 2 (by decide) tw2_7 rfl hin rfl rfl rfl (Nat.le_of_ble_eq_true rfl) dX0_init_18 (ws' := [(h0, .inr (0, [.null, .ref q_1, .ref q_2, .null, .null])), (q_1, .inl (t 1, 420, .inl (fun _ => 0))), (q_2, .inl (t 3, 60, .inl (fun _ => 0)))]) rfl (fun H locs hP hD hS => ?_)
  refine lv_aload_n hx hb dX0_init_21 rfl (lv_at hl 0 rfl) ?_
  refine lv_sipush (v := 2160) hx hb dX0_init_22 (by decide) ?_
  refine nwa hx hb hts hK hP hD hS hA tw1_79 rfl 1 rfl 2160 (2160, .inl (fun _ => 0)) (fun _ => rfl) (by decide) (by decide) (by decide) (by decide) (by decide) dX0_init_25 (fun q_3 H hP hD hS => ?_)
  have hP : va_P G vwCl [(h0, .inr (0, [.null, .ref q_1, .ref q_2, .null, .null])), (q_1, .inl (t 1, 420, .inl (fun _ => 0))), (q_2, .inl (t 3, 60, .inl (fun _ => 0))), (q_3, .inl (t 1, 2160, .inl (fun _ => 0)))] H := hP
  have hD : va_D A [(h0, .inr (0, [.null, .ref q_1, .ref q_2, .null, .null])), (q_1, .inl (t 1, 420, .inl (fun _ => 0))), (q_2, .inl (t 3, 60, .inl (fun _ => 0))), (q_3, .inl (t 1, 2160, .inl (fun _ => 0)))] := hD
  refine W.widen (k := 3) (n := 2640) (Nat.le_of_ble_eq_true rfl) (Nat.le_of_ble_eq_true rfl) ?_
  refine pfF hx hb hts hown hK hP hD hS 0 inT0 tyX0_ok nmX0 rfl rfl 3 (by decide) tw2_8 rfl hin rfl rfl rfl (Nat.le_of_ble_eq_true rfl) dX0_init_27 (ws' := [(h0, .inr (0, [.null, .ref q_1, .ref q_2, .ref q_3, .null])), (q_1, .inl (t 1, 420, .inl (fun _ => 0))), (q_2, .inl (t 3, 60, .inl (fun _ => 0))), (q_3, .inl (t 1, 2160, .inl (fun _ => 0)))]) rfl (fun H locs hP hD hS => ?_)
  refine lv_aload_n hx hb dX0_init_30 rfl (lv_at hl 0 rfl) ?_
  refine lv_sipush (v := 2160) hx hb dX0_init_31 (by decide) ?_
  refine nwa hx hb hts hK hP hD hS hA tw1_79 rfl 1 rfl 2160 (2160, .inl (fun _ => 0)) (fun _ => rfl) (by decide) (by decide) (by decide) (by decide) (by decide) dX0_init_34 (fun q_4 H hP hD hS => ?_)
  have hP : va_P G vwCl [(h0, .inr (0, [.null, .ref q_1, .ref q_2, .ref q_3, .null])), (q_1, .inl (t 1, 420, .inl (fun _ => 0))), (q_2, .inl (t 3, 60, .inl (fun _ => 0))), (q_3, .inl (t 1, 2160, .inl (fun _ => 0))), (q_4, .inl (t 1, 2160, .inl (fun _ => 0)))] H := hP
  have hD : va_D A [(h0, .inr (0, [.null, .ref q_1, .ref q_2, .ref q_3, .null])), (q_1, .inl (t 1, 420, .inl (fun _ => 0))), (q_2, .inl (t 3, 60, .inl (fun _ => 0))), (q_3, .inl (t 1, 2160, .inl (fun _ => 0))), (q_4, .inl (t 1, 2160, .inl (fun _ => 0)))] := hD
  refine W.widen (k := 4) (n := 4800) (Nat.le_of_ble_eq_true rfl) (Nat.le_of_ble_eq_true rfl) ?_
  refine pfF hx hb hts hown hK hP hD hS 0 inT0 tyX0_ok nmX0 rfl rfl 4 (by decide) tw2_9 rfl hin rfl rfl rfl (Nat.le_of_ble_eq_true rfl) dX0_init_36 (ws' := [(h0, .inr (0, [.null, .ref q_1, .ref q_2, .ref q_3, .ref q_4])), (q_1, .inl (t 1, 420, .inl (fun _ => 0))), (q_2, .inl (t 3, 60, .inl (fun _ => 0))), (q_3, .inl (t 1, 2160, .inl (fun _ => 0))), (q_4, .inl (t 1, 2160, .inl (fun _ => 0)))]) rfl (fun H locs hP hD hS => ?_)
  refine lv_aload_n hx hb dX0_init_39 rfl (lv_at hl 0 rfl) ?_
  refine lv_aload_n hx hb dX0_init_40 rfl (lv_at hl 1 rfl) ?_
  refine pf hx hb hts hown hK hP hD hS 0 inT0 tyX0_ok nmX0 rfl rfl 0 (by decide) tw2_1 rfl rfl rfl (Nat.le_of_ble_eq_true rfl) dX0_init_41 (ws' := [(h0, .inr (0, [.ref q1, .ref q_1, .ref q_2, .ref q_3, .ref q_4])), (q_1, .inl (t 1, 420, .inl (fun _ => 0))), (q_2, .inl (t 3, 60, .inl (fun _ => 0))), (q_3, .inl (t 1, 2160, .inl (fun _ => 0))), (q_4, .inl (t 1, 2160, .inl (fun _ => 0)))]) rfl (fun H locs hP hD hS => ?_)
  refine W.widen (k := 4) (n := 4800) (by decide) (by decide) ?_
  exact rtV hx hb hr hlocks hS (q_1, q_2, q_3, q_4) (trivial) (hP.sub [0, 1, 2, 3, 4] rfl) (hD.sub [0, 1, 2, 3, 4] (by decide) rfl) dX0_init_44

set_option maxHeartbeats 4000000 in
set_option maxRecDepth 100000 in
theorem c_Clues_init (l : Launch) (G : va_G) (t : Nat → ClassId) (h0 : Nat) (q1 : Nat) : Ct l G t yX2_init cX2_init 2 none ({ frames := 1, cells := 1, slots := 9, locals := 12 }) [.ref h0, .ref q1] [(h0, .inr (2, [.null, .null]))] (QV G (fun (u : (Nat)) => True) (fun (u : (Nat)) => [(h0, .inr (2, [.ref q1, .ref u])), (u, .inl (t 1, 9, .inl (fun _ => 0)))])) := by
  refine ent (by decide) (Nat.le_of_ble_eq_true rfl) ?_
  intro p e s m args below meth c hx hb hr hml hts hown hlocks hin A hA hK hO hP hD hS ls hl
  have hown : s.vm.findClass RX2 = some m.cls := hown
  have hl : lv_has ls 2 [(0, .ref h0), (1, .ref q1)] := hl
  have C0 : Cx p s m args c cX2_init 2 RX2 G t := ⟨hx, hb, hml, hown, hts, hK, hO⟩
  refine lv_aload_n hx hb dX2_init_0 rfl (lv_at hl 0 rfl) ?_
  refine obi hx hb hts hown hml hl.1 tw2_26 tw1_24 tw1_25 dX2_init_1 (by decide) (Nat.le_of_ble_eq_true rfl) ?_
  refine lv_aload_n hx hb dX2_init_4 rfl (lv_at hl 0 rfl) ?_
  refine lv_bipush (v := 9) hx hb dX2_init_5 (by decide) ?_
  refine nwa hx hb hts hK hP hD hS hA tw1_79 rfl 1 rfl 9 (9, .inl (fun _ => 0)) (fun _ => rfl) (by decide) (by decide) (by decide) (by decide) (by decide) dX2_init_7 (fun q_1 H hP hD hS => ?_)
  have hP : va_P G vwCl [(h0, .inr (2, [.null, .null])), (q_1, .inl (t 1, 9, .inl (fun _ => 0)))] H := hP
  have hD : va_D A [(h0, .inr (2, [.null, .null])), (q_1, .inl (t 1, 9, .inl (fun _ => 0)))] := hD
  refine W.widen (k := 1) (n := 9) (Nat.le_of_ble_eq_true rfl) (Nat.le_of_ble_eq_true rfl) ?_
  refine pfF hx hb hts hown hK hP hD hS 0 inT2 tyX2_ok nmX2 rfl rfl 1 (by decide) tw2_28 rfl hin rfl rfl rfl (Nat.le_of_ble_eq_true rfl) dX2_init_9 (ws' := [(h0, .inr (2, [.null, .ref q_1])), (q_1, .inl (t 1, 9, .inl (fun _ => 0)))]) rfl (fun H locs hP hD hS => ?_)
  refine lv_aload_n hx hb dX2_init_12 rfl (lv_at hl 0 rfl) ?_
  refine lv_aload_n hx hb dX2_init_13 rfl (lv_at hl 1 rfl) ?_
  refine pfF hx hb hts hown hK hP hD hS 0 inT2 tyX2_ok nmX2 rfl rfl 0 (by decide) tw2_27 rfl hin rfl rfl rfl (Nat.le_of_ble_eq_true rfl) dX2_init_14 (ws' := [(h0, .inr (2, [.ref q1, .ref q_1])), (q_1, .inl (t 1, 9, .inl (fun _ => 0)))]) rfl (fun H locs hP hD hS => ?_)
  refine W.widen (k := 1) (n := 9) (by decide) (by decide) ?_
  exact rtV hx hb hr hlocks hS q_1 (trivial) (hP.sub [0, 1] rfl) (hD.sub [0, 1] (by decide) rfl) dX2_init_17

set_option maxHeartbeats 4000000 in
set_option maxRecDepth 100000 in
theorem c_Habits_init (l : Launch) (G : va_G) (t : Nat → ClassId) (h0 : Nat) (q1 : Nat) : Ct l G t yX4_init cX4_init 2 none ({ frames := 1, cells := 1, slots := 9, locals := 12 }) [.ref h0, .ref q1] [(h0, .inr (4, [.null, .null]))] (QV G (fun (u : (Nat)) => True) (fun (u : (Nat)) => [(h0, .inr (4, [.ref q1, .ref u])), (u, .inl (t 1, 9, .inl (fun _ => 0)))])) := by
  refine ent (by decide) (Nat.le_of_ble_eq_true rfl) ?_
  intro p e s m args below meth c hx hb hr hml hts hown hlocks hin A hA hK hO hP hD hS ls hl
  have hown : s.vm.findClass RX4 = some m.cls := hown
  have hl : lv_has ls 2 [(0, .ref h0), (1, .ref q1)] := hl
  have C0 : Cx p s m args c cX4_init 2 RX4 G t := ⟨hx, hb, hml, hown, hts, hK, hO⟩
  refine lv_aload_n hx hb dX4_init_0 rfl (lv_at hl 0 rfl) ?_
  refine obi hx hb hts hown hml hl.1 tw2_39 tw1_24 tw1_25 dX4_init_1 (by decide) (Nat.le_of_ble_eq_true rfl) ?_
  refine lv_aload_n hx hb dX4_init_4 rfl (lv_at hl 0 rfl) ?_
  refine lv_bipush (v := 9) hx hb dX4_init_5 (by decide) ?_
  refine nwa hx hb hts hK hP hD hS hA tw1_79 rfl 1 rfl 9 (9, .inl (fun _ => 0)) (fun _ => rfl) (by decide) (by decide) (by decide) (by decide) (by decide) dX4_init_7 (fun q_1 H hP hD hS => ?_)
  have hP : va_P G vwCl [(h0, .inr (4, [.null, .null])), (q_1, .inl (t 1, 9, .inl (fun _ => 0)))] H := hP
  have hD : va_D A [(h0, .inr (4, [.null, .null])), (q_1, .inl (t 1, 9, .inl (fun _ => 0)))] := hD
  refine W.widen (k := 1) (n := 9) (Nat.le_of_ble_eq_true rfl) (Nat.le_of_ble_eq_true rfl) ?_
  refine pfF hx hb hts hown hK hP hD hS 0 inT4 tyX4_ok nmX4 rfl rfl 1 (by decide) tw2_41 rfl hin rfl rfl rfl (Nat.le_of_ble_eq_true rfl) dX4_init_9 (ws' := [(h0, .inr (4, [.null, .ref q_1])), (q_1, .inl (t 1, 9, .inl (fun _ => 0)))]) rfl (fun H locs hP hD hS => ?_)
  refine lv_aload_n hx hb dX4_init_12 rfl (lv_at hl 0 rfl) ?_
  refine lv_aload_n hx hb dX4_init_13 rfl (lv_at hl 1 rfl) ?_
  refine pfF hx hb hts hown hK hP hD hS 0 inT4 tyX4_ok nmX4 rfl rfl 0 (by decide) tw2_40 rfl hin rfl rfl rfl (Nat.le_of_ble_eq_true rfl) dX4_init_14 (ws' := [(h0, .inr (4, [.ref q1, .ref q_1])), (q_1, .inl (t 1, 9, .inl (fun _ => 0)))]) rfl (fun H locs hP hD hS => ?_)
  refine W.widen (k := 1) (n := 9) (by decide) (by decide) ?_
  exact rtV hx hb hr hlocks hS q_1 (trivial) (hP.sub [0, 1] rfl) (hD.sub [0, 1] (by decide) rfl) dX4_init_17

set_option maxHeartbeats 4000000 in
set_option maxRecDepth 100000 in
theorem c_Rush_init (l : Launch) (G : va_G) (t : Nat → ClassId) (h0 : Nat) (q1 : Nat) : Ct l G t yX7_init cX7_init 2 none ({ frames := 1, cells := 9, slots := 5332, locals := 12 }) [.ref h0, .ref q1] [(h0, .inr (7, [.null, .null, .null, .null, .null, .null, .null, .null, .null, .null, .int 0, .int 0, .int 0, .long 0, .int 0]))] (QV G (fun (u : (Nat) × (Nat) × (Nat) × (Nat) × (Nat) × (Nat) × (Nat) × (Nat) × (Nat)) => True) (fun (u : (Nat) × (Nat) × (Nat) × (Nat) × (Nat) × (Nat) × (Nat) × (Nat) × (Nat)) => [(h0, .inr (7, [.ref q1, .ref u.1, .ref u.2.1, .ref u.2.2.1, .ref u.2.2.2.1, .ref u.2.2.2.2.1, .ref u.2.2.2.2.2.1, .ref u.2.2.2.2.2.2.1, .ref u.2.2.2.2.2.2.2.1, .ref u.2.2.2.2.2.2.2.2, .int 0, .int 0, .int 0, .long 0, .int 0])), (u.1, .inl (t 1, 36, .inl (fun _ => 0))), (u.2.1, .inl (t 1, 36, .inl (fun _ => 0))), (u.2.2.1, .inl (t 1, 180, .inl (fun _ => 0))), (u.2.2.2.1, .inl (t 1, 720, .inl (fun _ => 0))), (u.2.2.2.2.1, .inl (t 1, 720, .inl (fun _ => 0))), (u.2.2.2.2.2.1, .inl (t 1, 720, .inl (fun _ => 0))), (u.2.2.2.2.2.2.1, .inl (t 1, 1440, .inl (fun _ => 0))), (u.2.2.2.2.2.2.2.1, .inl (t 1, 1440, .inl (fun _ => 0))), (u.2.2.2.2.2.2.2.2, .inl (t 2, 40, .inr (.inl (fun _ => 0))))])) := by
  refine ent (by decide) (Nat.le_of_ble_eq_true rfl) ?_
  intro p e s m args below meth c hx hb hr hml hts hown hlocks hin A hA hK hO hP hD hS ls hl
  have hown : s.vm.findClass RX7 = some m.cls := hown
  have hl : lv_has ls 2 [(0, .ref h0), (1, .ref q1)] := hl
  have C0 : Cx p s m args c cX7_init 2 RX7 G t := ⟨hx, hb, hml, hown, hts, hK, hO⟩
  refine lv_aload_n hx hb dX7_init_0 rfl (lv_at hl 0 rfl) ?_
  refine obi hx hb hts hown hml hl.1 tw2_52 tw1_24 tw1_25 dX7_init_1 (by decide) (Nat.le_of_ble_eq_true rfl) ?_
  refine lv_aload_n hx hb dX7_init_4 rfl (lv_at hl 0 rfl) ?_
  refine lv_bipush (v := 36) hx hb dX7_init_5 (by decide) ?_
  refine nwa hx hb hts hK hP hD hS hA tw1_79 rfl 1 rfl 36 (36, .inl (fun _ => 0)) (fun _ => rfl) (by decide) (by decide) (by decide) (by decide) (by decide) dX7_init_7 (fun q_1 H hP hD hS => ?_)
  have hP : va_P G vwCl [(h0, .inr (7, [.null, .null, .null, .null, .null, .null, .null, .null, .null, .null, .int 0, .int 0, .int 0, .long 0, .int 0])), (q_1, .inl (t 1, 36, .inl (fun _ => 0)))] H := hP
  have hD : va_D A [(h0, .inr (7, [.null, .null, .null, .null, .null, .null, .null, .null, .null, .null, .int 0, .int 0, .int 0, .long 0, .int 0])), (q_1, .inl (t 1, 36, .inl (fun _ => 0)))] := hD
  refine W.widen (k := 1) (n := 36) (Nat.le_of_ble_eq_true rfl) (Nat.le_of_ble_eq_true rfl) ?_
  refine pfF hx hb hts hown hK hP hD hS 0 inT7 tyX7_ok nmX7 rfl rfl 1 (by decide) tw2_54 rfl hin rfl rfl rfl (Nat.le_of_ble_eq_true rfl) dX7_init_9 (ws' := [(h0, .inr (7, [.null, .ref q_1, .null, .null, .null, .null, .null, .null, .null, .null, .int 0, .int 0, .int 0, .long 0, .int 0])), (q_1, .inl (t 1, 36, .inl (fun _ => 0)))]) rfl (fun H locs hP hD hS => ?_)
  refine lv_aload_n hx hb dX7_init_12 rfl (lv_at hl 0 rfl) ?_
  refine lv_bipush (v := 36) hx hb dX7_init_13 (by decide) ?_
  refine nwa hx hb hts hK hP hD hS hA tw1_79 rfl 1 rfl 36 (36, .inl (fun _ => 0)) (fun _ => rfl) (by decide) (by decide) (by decide) (by decide) (by decide) dX7_init_15 (fun q_2 H hP hD hS => ?_)
  have hP : va_P G vwCl [(h0, .inr (7, [.null, .ref q_1, .null, .null, .null, .null, .null, .null, .null, .null, .int 0, .int 0, .int 0, .long 0, .int 0])), (q_1, .inl (t 1, 36, .inl (fun _ => 0))), (q_2, .inl (t 1, 36, .inl (fun _ => 0)))] H := hP
  have hD : va_D A [(h0, .inr (7, [.null, .ref q_1, .null, .null, .null, .null, .null, .null, .null, .null, .int 0, .int 0, .int 0, .long 0, .int 0])), (q_1, .inl (t 1, 36, .inl (fun _ => 0))), (q_2, .inl (t 1, 36, .inl (fun _ => 0)))] := hD
  refine W.widen (k := 2) (n := 72) (Nat.le_of_ble_eq_true rfl) (Nat.le_of_ble_eq_true rfl) ?_
  refine pfF hx hb hts hown hK hP hD hS 0 inT7 tyX7_ok nmX7 rfl rfl 2 (by decide) tw2_55 rfl hin rfl rfl rfl (Nat.le_of_ble_eq_true rfl) dX7_init_17 (ws' := [(h0, .inr (7, [.null, .ref q_1, .ref q_2, .null, .null, .null, .null, .null, .null, .null, .int 0, .int 0, .int 0, .long 0, .int 0])), (q_1, .inl (t 1, 36, .inl (fun _ => 0))), (q_2, .inl (t 1, 36, .inl (fun _ => 0)))]) rfl (fun H locs hP hD hS => ?_)
  refine lv_aload_n hx hb dX7_init_20 rfl (lv_at hl 0 rfl) ?_
  refine lv_sipush (v := 180) hx hb dX7_init_21 (by decide) ?_
  refine nwa hx hb hts hK hP hD hS hA tw1_79 rfl 1 rfl 180 (180, .inl (fun _ => 0)) (fun _ => rfl) (by decide) (by decide) (by decide) (by decide) (by decide) dX7_init_24 (fun q_3 H hP hD hS => ?_)
  have hP : va_P G vwCl [(h0, .inr (7, [.null, .ref q_1, .ref q_2, .null, .null, .null, .null, .null, .null, .null, .int 0, .int 0, .int 0, .long 0, .int 0])), (q_1, .inl (t 1, 36, .inl (fun _ => 0))), (q_2, .inl (t 1, 36, .inl (fun _ => 0))), (q_3, .inl (t 1, 180, .inl (fun _ => 0)))] H := hP
  have hD : va_D A [(h0, .inr (7, [.null, .ref q_1, .ref q_2, .null, .null, .null, .null, .null, .null, .null, .int 0, .int 0, .int 0, .long 0, .int 0])), (q_1, .inl (t 1, 36, .inl (fun _ => 0))), (q_2, .inl (t 1, 36, .inl (fun _ => 0))), (q_3, .inl (t 1, 180, .inl (fun _ => 0)))] := hD
  refine W.widen (k := 3) (n := 252) (Nat.le_of_ble_eq_true rfl) (Nat.le_of_ble_eq_true rfl) ?_
  refine pfF hx hb hts hown hK hP hD hS 0 inT7 tyX7_ok nmX7 rfl rfl 3 (by decide) tw2_56 rfl hin rfl rfl rfl (Nat.le_of_ble_eq_true rfl) dX7_init_26 (ws' := [(h0, .inr (7, [.null, .ref q_1, .ref q_2, .ref q_3, .null, .null, .null, .null, .null, .null, .int 0, .int 0, .int 0, .long 0, .int 0])), (q_1, .inl (t 1, 36, .inl (fun _ => 0))), (q_2, .inl (t 1, 36, .inl (fun _ => 0))), (q_3, .inl (t 1, 180, .inl (fun _ => 0)))]) rfl (fun H locs hP hD hS => ?_)
  refine lv_aload_n hx hb dX7_init_29 rfl (lv_at hl 0 rfl) ?_
  refine lv_sipush (v := 720) hx hb dX7_init_30 (by decide) ?_
  refine nwa hx hb hts hK hP hD hS hA tw1_79 rfl 1 rfl 720 (720, .inl (fun _ => 0)) (fun _ => rfl) (by decide) (by decide) (by decide) (by decide) (by decide) dX7_init_33 (fun q_4 H hP hD hS => ?_)
  have hP : va_P G vwCl [(h0, .inr (7, [.null, .ref q_1, .ref q_2, .ref q_3, .null, .null, .null, .null, .null, .null, .int 0, .int 0, .int 0, .long 0, .int 0])), (q_1, .inl (t 1, 36, .inl (fun _ => 0))), (q_2, .inl (t 1, 36, .inl (fun _ => 0))), (q_3, .inl (t 1, 180, .inl (fun _ => 0))), (q_4, .inl (t 1, 720, .inl (fun _ => 0)))] H := hP
  have hD : va_D A [(h0, .inr (7, [.null, .ref q_1, .ref q_2, .ref q_3, .null, .null, .null, .null, .null, .null, .int 0, .int 0, .int 0, .long 0, .int 0])), (q_1, .inl (t 1, 36, .inl (fun _ => 0))), (q_2, .inl (t 1, 36, .inl (fun _ => 0))), (q_3, .inl (t 1, 180, .inl (fun _ => 0))), (q_4, .inl (t 1, 720, .inl (fun _ => 0)))] := hD
  refine W.widen (k := 4) (n := 972) (Nat.le_of_ble_eq_true rfl) (Nat.le_of_ble_eq_true rfl) ?_
  refine pfF hx hb hts hown hK hP hD hS 0 inT7 tyX7_ok nmX7 rfl rfl 4 (by decide) tw2_57 rfl hin rfl rfl rfl (Nat.le_of_ble_eq_true rfl) dX7_init_35 (ws' := [(h0, .inr (7, [.null, .ref q_1, .ref q_2, .ref q_3, .ref q_4, .null, .null, .null, .null, .null, .int 0, .int 0, .int 0, .long 0, .int 0])), (q_1, .inl (t 1, 36, .inl (fun _ => 0))), (q_2, .inl (t 1, 36, .inl (fun _ => 0))), (q_3, .inl (t 1, 180, .inl (fun _ => 0))), (q_4, .inl (t 1, 720, .inl (fun _ => 0)))]) rfl (fun H locs hP hD hS => ?_)
  refine lv_aload_n hx hb dX7_init_38 rfl (lv_at hl 0 rfl) ?_
  refine lv_sipush (v := 720) hx hb dX7_init_39 (by decide) ?_
  refine nwa hx hb hts hK hP hD hS hA tw1_79 rfl 1 rfl 720 (720, .inl (fun _ => 0)) (fun _ => rfl) (by decide) (by decide) (by decide) (by decide) (by decide) dX7_init_42 (fun q_5 H hP hD hS => ?_)
  have hP : va_P G vwCl [(h0, .inr (7, [.null, .ref q_1, .ref q_2, .ref q_3, .ref q_4, .null, .null, .null, .null, .null, .int 0, .int 0, .int 0, .long 0, .int 0])), (q_1, .inl (t 1, 36, .inl (fun _ => 0))), (q_2, .inl (t 1, 36, .inl (fun _ => 0))), (q_3, .inl (t 1, 180, .inl (fun _ => 0))), (q_4, .inl (t 1, 720, .inl (fun _ => 0))), (q_5, .inl (t 1, 720, .inl (fun _ => 0)))] H := hP
  have hD : va_D A [(h0, .inr (7, [.null, .ref q_1, .ref q_2, .ref q_3, .ref q_4, .null, .null, .null, .null, .null, .int 0, .int 0, .int 0, .long 0, .int 0])), (q_1, .inl (t 1, 36, .inl (fun _ => 0))), (q_2, .inl (t 1, 36, .inl (fun _ => 0))), (q_3, .inl (t 1, 180, .inl (fun _ => 0))), (q_4, .inl (t 1, 720, .inl (fun _ => 0))), (q_5, .inl (t 1, 720, .inl (fun _ => 0)))] := hD
  refine W.widen (k := 5) (n := 1692) (Nat.le_of_ble_eq_true rfl) (Nat.le_of_ble_eq_true rfl) ?_
  refine pfF hx hb hts hown hK hP hD hS 0 inT7 tyX7_ok nmX7 rfl rfl 5 (by decide) tw2_58 rfl hin rfl rfl rfl (Nat.le_of_ble_eq_true rfl) dX7_init_44 (ws' := [(h0, .inr (7, [.null, .ref q_1, .ref q_2, .ref q_3, .ref q_4, .ref q_5, .null, .null, .null, .null, .int 0, .int 0, .int 0, .long 0, .int 0])), (q_1, .inl (t 1, 36, .inl (fun _ => 0))), (q_2, .inl (t 1, 36, .inl (fun _ => 0))), (q_3, .inl (t 1, 180, .inl (fun _ => 0))), (q_4, .inl (t 1, 720, .inl (fun _ => 0))), (q_5, .inl (t 1, 720, .inl (fun _ => 0)))]) rfl (fun H locs hP hD hS => ?_)
  refine lv_aload_n hx hb dX7_init_47 rfl (lv_at hl 0 rfl) ?_
  refine lv_sipush (v := 720) hx hb dX7_init_48 (by decide) ?_
  refine nwa hx hb hts hK hP hD hS hA tw1_79 rfl 1 rfl 720 (720, .inl (fun _ => 0)) (fun _ => rfl) (by decide) (by decide) (by decide) (by decide) (by decide) dX7_init_51 (fun q_6 H hP hD hS => ?_)
  have hP : va_P G vwCl [(h0, .inr (7, [.null, .ref q_1, .ref q_2, .ref q_3, .ref q_4, .ref q_5, .null, .null, .null, .null, .int 0, .int 0, .int 0, .long 0, .int 0])), (q_1, .inl (t 1, 36, .inl (fun _ => 0))), (q_2, .inl (t 1, 36, .inl (fun _ => 0))), (q_3, .inl (t 1, 180, .inl (fun _ => 0))), (q_4, .inl (t 1, 720, .inl (fun _ => 0))), (q_5, .inl (t 1, 720, .inl (fun _ => 0))), (q_6, .inl (t 1, 720, .inl (fun _ => 0)))] H := hP
  have hD : va_D A [(h0, .inr (7, [.null, .ref q_1, .ref q_2, .ref q_3, .ref q_4, .ref q_5, .null, .null, .null, .null, .int 0, .int 0, .int 0, .long 0, .int 0])), (q_1, .inl (t 1, 36, .inl (fun _ => 0))), (q_2, .inl (t 1, 36, .inl (fun _ => 0))), (q_3, .inl (t 1, 180, .inl (fun _ => 0))), (q_4, .inl (t 1, 720, .inl (fun _ => 0))), (q_5, .inl (t 1, 720, .inl (fun _ => 0))), (q_6, .inl (t 1, 720, .inl (fun _ => 0)))] := hD
  refine W.widen (k := 6) (n := 2412) (Nat.le_of_ble_eq_true rfl) (Nat.le_of_ble_eq_true rfl) ?_
  refine pfF hx hb hts hown hK hP hD hS 0 inT7 tyX7_ok nmX7 rfl rfl 6 (by decide) tw2_59 rfl hin rfl rfl rfl (Nat.le_of_ble_eq_true rfl) dX7_init_53 (ws' := [(h0, .inr (7, [.null, .ref q_1, .ref q_2, .ref q_3, .ref q_4, .ref q_5, .ref q_6, .null, .null, .null, .int 0, .int 0, .int 0, .long 0, .int 0])), (q_1, .inl (t 1, 36, .inl (fun _ => 0))), (q_2, .inl (t 1, 36, .inl (fun _ => 0))), (q_3, .inl (t 1, 180, .inl (fun _ => 0))), (q_4, .inl (t 1, 720, .inl (fun _ => 0))), (q_5, .inl (t 1, 720, .inl (fun _ => 0))), (q_6, .inl (t 1, 720, .inl (fun _ => 0)))]) rfl (fun H locs hP hD hS => ?_)
  refine lv_aload_n hx hb dX7_init_56 rfl (lv_at hl 0 rfl) ?_
  refine lv_sipush (v := 1440) hx hb dX7_init_57 (by decide) ?_
  refine nwa hx hb hts hK hP hD hS hA tw1_79 rfl 1 rfl 1440 (1440, .inl (fun _ => 0)) (fun _ => rfl) (by decide) (by decide) (by decide) (by decide) (by decide) dX7_init_60 (fun q_7 H hP hD hS => ?_)
  have hP : va_P G vwCl [(h0, .inr (7, [.null, .ref q_1, .ref q_2, .ref q_3, .ref q_4, .ref q_5, .ref q_6, .null, .null, .null, .int 0, .int 0, .int 0, .long 0, .int 0])), (q_1, .inl (t 1, 36, .inl (fun _ => 0))), (q_2, .inl (t 1, 36, .inl (fun _ => 0))), (q_3, .inl (t 1, 180, .inl (fun _ => 0))), (q_4, .inl (t 1, 720, .inl (fun _ => 0))), (q_5, .inl (t 1, 720, .inl (fun _ => 0))), (q_6, .inl (t 1, 720, .inl (fun _ => 0))), (q_7, .inl (t 1, 1440, .inl (fun _ => 0)))] H := hP
  have hD : va_D A [(h0, .inr (7, [.null, .ref q_1, .ref q_2, .ref q_3, .ref q_4, .ref q_5, .ref q_6, .null, .null, .null, .int 0, .int 0, .int 0, .long 0, .int 0])), (q_1, .inl (t 1, 36, .inl (fun _ => 0))), (q_2, .inl (t 1, 36, .inl (fun _ => 0))), (q_3, .inl (t 1, 180, .inl (fun _ => 0))), (q_4, .inl (t 1, 720, .inl (fun _ => 0))), (q_5, .inl (t 1, 720, .inl (fun _ => 0))), (q_6, .inl (t 1, 720, .inl (fun _ => 0))), (q_7, .inl (t 1, 1440, .inl (fun _ => 0)))] := hD
  refine W.widen (k := 7) (n := 3852) (Nat.le_of_ble_eq_true rfl) (Nat.le_of_ble_eq_true rfl) ?_
  refine pfF hx hb hts hown hK hP hD hS 0 inT7 tyX7_ok nmX7 rfl rfl 7 (by decide) tw2_60 rfl hin rfl rfl rfl (Nat.le_of_ble_eq_true rfl) dX7_init_62 (ws' := [(h0, .inr (7, [.null, .ref q_1, .ref q_2, .ref q_3, .ref q_4, .ref q_5, .ref q_6, .ref q_7, .null, .null, .int 0, .int 0, .int 0, .long 0, .int 0])), (q_1, .inl (t 1, 36, .inl (fun _ => 0))), (q_2, .inl (t 1, 36, .inl (fun _ => 0))), (q_3, .inl (t 1, 180, .inl (fun _ => 0))), (q_4, .inl (t 1, 720, .inl (fun _ => 0))), (q_5, .inl (t 1, 720, .inl (fun _ => 0))), (q_6, .inl (t 1, 720, .inl (fun _ => 0))), (q_7, .inl (t 1, 1440, .inl (fun _ => 0)))]) rfl (fun H locs hP hD hS => ?_)
  refine lv_aload_n hx hb dX7_init_65 rfl (lv_at hl 0 rfl) ?_
  refine lv_sipush (v := 1440) hx hb dX7_init_66 (by decide) ?_
  refine nwa hx hb hts hK hP hD hS hA tw1_79 rfl 1 rfl 1440 (1440, .inl (fun _ => 0)) (fun _ => rfl) (by decide) (by decide) (by decide) (by decide) (by decide) dX7_init_69 (fun q_8 H hP hD hS => ?_)
  have hP : va_P G vwCl [(h0, .inr (7, [.null, .ref q_1, .ref q_2, .ref q_3, .ref q_4, .ref q_5, .ref q_6, .ref q_7, .null, .null, .int 0, .int 0, .int 0, .long 0, .int 0])), (q_1, .inl (t 1, 36, .inl (fun _ => 0))), (q_2, .inl (t 1, 36, .inl (fun _ => 0))), (q_3, .inl (t 1, 180, .inl (fun _ => 0))), (q_4, .inl (t 1, 720, .inl (fun _ => 0))), (q_5, .inl (t 1, 720, .inl (fun _ => 0))), (q_6, .inl (t 1, 720, .inl (fun _ => 0))), (q_7, .inl (t 1, 1440, .inl (fun _ => 0))), (q_8, .inl (t 1, 1440, .inl (fun _ => 0)))] H := hP
  have hD : va_D A [(h0, .inr (7, [.null, .ref q_1, .ref q_2, .ref q_3, .ref q_4, .ref q_5, .ref q_6, .ref q_7, .null, .null, .int 0, .int 0, .int 0, .long 0, .int 0])), (q_1, .inl (t 1, 36, .inl (fun _ => 0))), (q_2, .inl (t 1, 36, .inl (fun _ => 0))), (q_3, .inl (t 1, 180, .inl (fun _ => 0))), (q_4, .inl (t 1, 720, .inl (fun _ => 0))), (q_5, .inl (t 1, 720, .inl (fun _ => 0))), (q_6, .inl (t 1, 720, .inl (fun _ => 0))), (q_7, .inl (t 1, 1440, .inl (fun _ => 0))), (q_8, .inl (t 1, 1440, .inl (fun _ => 0)))] := hD
  refine W.widen (k := 8) (n := 5292) (Nat.le_of_ble_eq_true rfl) (Nat.le_of_ble_eq_true rfl) ?_
  refine pfF hx hb hts hown hK hP hD hS 0 inT7 tyX7_ok nmX7 rfl rfl 8 (by decide) tw2_61 rfl hin rfl rfl rfl (Nat.le_of_ble_eq_true rfl) dX7_init_71 (ws' := [(h0, .inr (7, [.null, .ref q_1, .ref q_2, .ref q_3, .ref q_4, .ref q_5, .ref q_6, .ref q_7, .ref q_8, .null, .int 0, .int 0, .int 0, .long 0, .int 0])), (q_1, .inl (t 1, 36, .inl (fun _ => 0))), (q_2, .inl (t 1, 36, .inl (fun _ => 0))), (q_3, .inl (t 1, 180, .inl (fun _ => 0))), (q_4, .inl (t 1, 720, .inl (fun _ => 0))), (q_5, .inl (t 1, 720, .inl (fun _ => 0))), (q_6, .inl (t 1, 720, .inl (fun _ => 0))), (q_7, .inl (t 1, 1440, .inl (fun _ => 0))), (q_8, .inl (t 1, 1440, .inl (fun _ => 0)))]) rfl (fun H locs hP hD hS => ?_)
  refine lv_aload_n hx hb dX7_init_74 rfl (lv_at hl 0 rfl) ?_
  refine lv_bipush (v := 40) hx hb dX7_init_75 (by decide) ?_
  refine nwa hx hb hts hK hP hD hS hA tw1_195 rfl 2 rfl 40 (40, .inr (.inl (fun _ => 0))) (fun _ => rfl) (by decide) (by decide) (by decide) (by decide) (by decide) dX7_init_77 (fun q_9 H hP hD hS => ?_)
  have hP : va_P G vwCl [(h0, .inr (7, [.null, .ref q_1, .ref q_2, .ref q_3, .ref q_4, .ref q_5, .ref q_6, .ref q_7, .ref q_8, .null, .int 0, .int 0, .int 0, .long 0, .int 0])), (q_1, .inl (t 1, 36, .inl (fun _ => 0))), (q_2, .inl (t 1, 36, .inl (fun _ => 0))), (q_3, .inl (t 1, 180, .inl (fun _ => 0))), (q_4, .inl (t 1, 720, .inl (fun _ => 0))), (q_5, .inl (t 1, 720, .inl (fun _ => 0))), (q_6, .inl (t 1, 720, .inl (fun _ => 0))), (q_7, .inl (t 1, 1440, .inl (fun _ => 0))), (q_8, .inl (t 1, 1440, .inl (fun _ => 0))), (q_9, .inl (t 2, 40, .inr (.inl (fun _ => 0))))] H := hP
  have hD : va_D A [(h0, .inr (7, [.null, .ref q_1, .ref q_2, .ref q_3, .ref q_4, .ref q_5, .ref q_6, .ref q_7, .ref q_8, .null, .int 0, .int 0, .int 0, .long 0, .int 0])), (q_1, .inl (t 1, 36, .inl (fun _ => 0))), (q_2, .inl (t 1, 36, .inl (fun _ => 0))), (q_3, .inl (t 1, 180, .inl (fun _ => 0))), (q_4, .inl (t 1, 720, .inl (fun _ => 0))), (q_5, .inl (t 1, 720, .inl (fun _ => 0))), (q_6, .inl (t 1, 720, .inl (fun _ => 0))), (q_7, .inl (t 1, 1440, .inl (fun _ => 0))), (q_8, .inl (t 1, 1440, .inl (fun _ => 0))), (q_9, .inl (t 2, 40, .inr (.inl (fun _ => 0))))] := hD
  refine W.widen (k := 9) (n := 5332) (Nat.le_of_ble_eq_true rfl) (Nat.le_of_ble_eq_true rfl) ?_
  refine pfF hx hb hts hown hK hP hD hS 0 inT7 tyX7_ok nmX7 rfl rfl 9 (by decide) tw2_62 rfl hin rfl rfl rfl (Nat.le_of_ble_eq_true rfl) dX7_init_79 (ws' := [(h0, .inr (7, [.null, .ref q_1, .ref q_2, .ref q_3, .ref q_4, .ref q_5, .ref q_6, .ref q_7, .ref q_8, .ref q_9, .int 0, .int 0, .int 0, .long 0, .int 0])), (q_1, .inl (t 1, 36, .inl (fun _ => 0))), (q_2, .inl (t 1, 36, .inl (fun _ => 0))), (q_3, .inl (t 1, 180, .inl (fun _ => 0))), (q_4, .inl (t 1, 720, .inl (fun _ => 0))), (q_5, .inl (t 1, 720, .inl (fun _ => 0))), (q_6, .inl (t 1, 720, .inl (fun _ => 0))), (q_7, .inl (t 1, 1440, .inl (fun _ => 0))), (q_8, .inl (t 1, 1440, .inl (fun _ => 0))), (q_9, .inl (t 2, 40, .inr (.inl (fun _ => 0))))]) rfl (fun H locs hP hD hS => ?_)
  refine lv_aload_n hx hb dX7_init_82 rfl (lv_at hl 0 rfl) ?_
  refine lv_aload_n hx hb dX7_init_83 rfl (lv_at hl 1 rfl) ?_
  refine pfF hx hb hts hown hK hP hD hS 0 inT7 tyX7_ok nmX7 rfl rfl 0 (by decide) tw2_53 rfl hin rfl rfl rfl (Nat.le_of_ble_eq_true rfl) dX7_init_84 (ws' := [(h0, .inr (7, [.ref q1, .ref q_1, .ref q_2, .ref q_3, .ref q_4, .ref q_5, .ref q_6, .ref q_7, .ref q_8, .ref q_9, .int 0, .int 0, .int 0, .long 0, .int 0])), (q_1, .inl (t 1, 36, .inl (fun _ => 0))), (q_2, .inl (t 1, 36, .inl (fun _ => 0))), (q_3, .inl (t 1, 180, .inl (fun _ => 0))), (q_4, .inl (t 1, 720, .inl (fun _ => 0))), (q_5, .inl (t 1, 720, .inl (fun _ => 0))), (q_6, .inl (t 1, 720, .inl (fun _ => 0))), (q_7, .inl (t 1, 1440, .inl (fun _ => 0))), (q_8, .inl (t 1, 1440, .inl (fun _ => 0))), (q_9, .inl (t 2, 40, .inr (.inl (fun _ => 0))))]) rfl (fun H locs hP hD hS => ?_)
  refine W.widen (k := 9) (n := 5332) (by decide) (by decide) ?_
  exact rtV hx hb hr hlocks hS (q_1, q_2, q_3, q_4, q_5, q_6, q_7, q_8, q_9) (trivial) (hP.sub [0, 1, 2, 3, 4, 5, 6, 7, 8, 9] rfl) (hD.sub [0, 1, 2, 3, 4, 5, 6, 7, 8, 9] (by decide) rfl) dX7_init_87

set_option maxHeartbeats 4000000 in
set_option maxRecDepth 100000 in
theorem c_Crowd_init (l : Launch) (G : va_G) (t : Nat → ClassId) (h0 : Nat) (q1 : Nat) : Ct l G t yX3_init cX3_init 2 none ({ frames := 1, cells := 1, slots := 5, locals := 12 }) [.ref h0, .ref q1] [(h0, .inr (3, [.null, .int 0, .null]))] (QV G (fun (u : (Nat)) => True) (fun (u : (Nat)) => [(h0, .inr (3, [.ref u, .int 0, .ref q1])), (u, .inl (t 1, 5, .inl (fun _ => 0)))])) := by
  refine ent (by decide) (Nat.le_of_ble_eq_true rfl) ?_
  intro p e s m args below meth c hx hb hr hml hts hown hlocks hin A hA hK hO hP hD hS ls hl
  have hown : s.vm.findClass RX3 = some m.cls := hown
  have hl : lv_has ls 2 [(0, .ref h0), (1, .ref q1)] := hl
  have C0 : Cx p s m args c cX3_init 2 RX3 G t := ⟨hx, hb, hml, hown, hts, hK, hO⟩
  refine lv_aload_n hx hb dX3_init_0 rfl (lv_at hl 0 rfl) ?_
  refine obi hx hb hts hown hml hl.1 tw2_114 tw1_24 tw1_25 dX3_init_1 (by decide) (Nat.le_of_ble_eq_true rfl) ?_
  refine lv_aload_n hx hb dX3_init_4 rfl (lv_at hl 0 rfl) ?_
  refine lv_iconst (v := 5) hx hb dX3_init_5 (by decide) ?_
  refine nwa hx hb hts hK hP hD hS hA tw1_79 rfl 1 rfl 5 (5, .inl (fun _ => 0)) (fun _ => rfl) (by decide) (by decide) (by decide) (by decide) (by decide) dX3_init_6 (fun q_1 H hP hD hS => ?_)
  have hP : va_P G vwCl [(h0, .inr (3, [.null, .int 0, .null])), (q_1, .inl (t 1, 5, .inl (fun _ => 0)))] H := hP
  have hD : va_D A [(h0, .inr (3, [.null, .int 0, .null])), (q_1, .inl (t 1, 5, .inl (fun _ => 0)))] := hD
  refine W.widen (k := 1) (n := 5) (Nat.le_of_ble_eq_true rfl) (Nat.le_of_ble_eq_true rfl) ?_
  refine pfF hx hb hts hown hK hP hD hS 0 inT3 tyX3_ok nmX3 rfl rfl 0 (by decide) tw2_115 rfl hin rfl rfl rfl (Nat.le_of_ble_eq_true rfl) dX3_init_8 (ws' := [(h0, .inr (3, [.ref q_1, .int 0, .null])), (q_1, .inl (t 1, 5, .inl (fun _ => 0)))]) rfl (fun H locs hP hD hS => ?_)
  refine lv_aload_n hx hb dX3_init_11 rfl (lv_at hl 0 rfl) ?_
  refine lv_aload_n hx hb dX3_init_12 rfl (lv_at hl 1 rfl) ?_
  refine pfF hx hb hts hown hK hP hD hS 0 inT3 tyX3_ok nmX3 rfl rfl 2 (by decide) tw2_119 rfl hin rfl rfl rfl (Nat.le_of_ble_eq_true rfl) dX3_init_13 (ws' := [(h0, .inr (3, [.ref q_1, .int 0, .ref q1])), (q_1, .inl (t 1, 5, .inl (fun _ => 0)))]) rfl (fun H locs hP hD hS => ?_)
  refine W.widen (k := 1) (n := 5) (by decide) (by decide) ?_
  exact rtV hx hb hr hlocks hS q_1 (trivial) (hP.sub [0, 1] rfl) (hD.sub [0, 1] (by decide) rfl) dX3_init_16

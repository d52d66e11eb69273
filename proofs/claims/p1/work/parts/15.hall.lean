set_option maxHeartbeats 4000000 in
set_option maxRecDepth 100000 in
theorem c_clear (l : Launch) (G : va_G) (t : Nat → ClassId) (df : Nat) (da1 : Nat) (da2 : Nat) (da3 : Nat) (da4 : Nat) (da5 : Nat) (da6 : Nat) (da7 : Nat) (da8 : Nat) (dc : Nat) (db1 : Nat) (db2 : Nat) (db3 : Nat) (db4 : Nat) : Ct l G t yX5_clear cX5_clear 1 none ({ frames := 0, cells := 0, slots := 0, locals := 0 }) [.ref df] [(df, .inr (5, [.int 0, .int 0, .int 0, .int 0, .int 0, .int 0, .long 0, .ref da1, .ref da2, .ref da3, .ref da4, .ref da5, .ref da6, .ref da7, .ref da8, .ref dc])), (dc, .inr (1, [.int 0, .ref db1, .ref db2, .ref db3, .ref db4]))] (QV G (fun (u : Unit) => True) (fun (u : Unit) => [(df, .inr (5, [.int 0, .int 0, .int 0, .int 0, .int 0, .int 0, .long 0, .ref da1, .ref da2, .ref da3, .ref da4, .ref da5, .ref da6, .ref da7, .ref da8, .ref dc])), (dc, .inr (1, [.int 0, .ref db1, .ref db2, .ref db3, .ref db4]))])) := by
  refine ent (by decide) (Nat.le_of_ble_eq_true rfl) ?_
  intro p e s m args below meth c hx hb hr hml hts hown hlocks hin A hA hK hO hP hD hS ls hl
  have hown : s.vm.findClass RX5 = some m.cls := hown
  have hl : lv_has ls 1 [(0, .ref df)] := hl
  have C0 : Cx p s m args c cX5_clear 1 RX5 G t := ⟨hx, hb, hml, hown, hts, hK, hO⟩
  refine lv_aload_n hx hb dX5_clear_0 rfl (lv_at hl 0 rfl) ?_
  refine lv_iconst (v := 0) hx hb dX5_clear_1 (by decide) ?_
  refine pf hx hb hts hown hK hP hD hS 0 inT5 tyX5_ok nmX5 rfl rfl 0 (by decide) tw1_80 rfl rfl rfl (Nat.le_of_ble_eq_true rfl) dX5_clear_2 (ws' := [(df, .inr (5, [.int 0, .int 0, .int 0, .int 0, .int 0, .int 0, .long 0, .ref da1, .ref da2, .ref da3, .ref da4, .ref da5, .ref da6, .ref da7, .ref da8, .ref dc])), (dc, .inr (1, [.int 0, .ref db1, .ref db2, .ref db3, .ref db4]))]) rfl (fun H locs hP hD hS => ?_)
  refine lv_aload_n hx hb dX5_clear_5 rfl (lv_at hl 0 rfl) ?_
  refine lv_iconst (v := 0) hx hb dX5_clear_6 (by decide) ?_
  refine pf hx hb hts hown hK hP hD hS 0 inT5 tyX5_ok nmX5 rfl rfl 1 (by decide) tw1_83 rfl rfl rfl (Nat.le_of_ble_eq_true rfl) dX5_clear_7 (ws' := [(df, .inr (5, [.int 0, .int 0, .int 0, .int 0, .int 0, .int 0, .long 0, .ref da1, .ref da2, .ref da3, .ref da4, .ref da5, .ref da6, .ref da7, .ref da8, .ref dc])), (dc, .inr (1, [.int 0, .ref db1, .ref db2, .ref db3, .ref db4]))]) rfl (fun H locs hP hD hS => ?_)
  refine lv_aload_n hx hb dX5_clear_10 rfl (lv_at hl 0 rfl) ?_
  refine lv_iconst (v := 0) hx hb dX5_clear_11 (by decide) ?_
  refine pf hx hb hts hown hK hP hD hS 0 inT5 tyX5_ok nmX5 rfl rfl 2 (by decide) tw1_88 rfl rfl rfl (Nat.le_of_ble_eq_true rfl) dX5_clear_12 (ws' := [(df, .inr (5, [.int 0, .int 0, .int 0, .int 0, .int 0, .int 0, .long 0, .ref da1, .ref da2, .ref da3, .ref da4, .ref da5, .ref da6, .ref da7, .ref da8, .ref dc])), (dc, .inr (1, [.int 0, .ref db1, .ref db2, .ref db3, .ref db4]))]) rfl (fun H locs hP hD hS => ?_)
  refine lv_aload_n hx hb dX5_clear_15 rfl (lv_at hl 0 rfl) ?_
  refine lv_iconst (v := 0) hx hb dX5_clear_16 (by decide) ?_
  refine pf hx hb hts hown hK hP hD hS 0 inT5 tyX5_ok nmX5 rfl rfl 3 (by decide) tw1_93 rfl rfl rfl (Nat.le_of_ble_eq_true rfl) dX5_clear_17 (ws' := [(df, .inr (5, [.int 0, .int 0, .int 0, .int 0, .int 0, .int 0, .long 0, .ref da1, .ref da2, .ref da3, .ref da4, .ref da5, .ref da6, .ref da7, .ref da8, .ref dc])), (dc, .inr (1, [.int 0, .ref db1, .ref db2, .ref db3, .ref db4]))]) rfl (fun H locs hP hD hS => ?_)
  refine lv_aload_n hx hb dX5_clear_20 rfl (lv_at hl 0 rfl) ?_
  refine lv_iconst (v := 0) hx hb dX5_clear_21 (by decide) ?_
  refine pf hx hb hts hown hK hP hD hS 0 inT5 tyX5_ok nmX5 rfl rfl 4 (by decide) tw1_97 rfl rfl rfl (Nat.le_of_ble_eq_true rfl) dX5_clear_22 (ws' := [(df, .inr (5, [.int 0, .int 0, .int 0, .int 0, .int 0, .int 0, .long 0, .ref da1, .ref da2, .ref da3, .ref da4, .ref da5, .ref da6, .ref da7, .ref da8, .ref dc])), (dc, .inr (1, [.int 0, .ref db1, .ref db2, .ref db3, .ref db4]))]) rfl (fun H locs hP hD hS => ?_)
  refine lv_aload_n hx hb dX5_clear_25 rfl (lv_at hl 0 rfl) ?_
  refine lv_iconst (v := 0) hx hb dX5_clear_26 (by decide) ?_
  refine pf hx hb hts hown hK hP hD hS 0 inT5 tyX5_ok nmX5 rfl rfl 5 (by decide) tw1_103 rfl rfl rfl (Nat.le_of_ble_eq_true rfl) dX5_clear_27 (ws' := [(df, .inr (5, [.int 0, .int 0, .int 0, .int 0, .int 0, .int 0, .long 0, .ref da1, .ref da2, .ref da3, .ref da4, .ref da5, .ref da6, .ref da7, .ref da8, .ref dc])), (dc, .inr (1, [.int 0, .ref db1, .ref db2, .ref db3, .ref db4]))]) rfl (fun H locs hP hD hS => ?_)
  refine lv_aload_n hx hb dX5_clear_30 rfl (lv_at hl 0 rfl) ?_
  refine lv_lconst (v := 0) hx hb dX5_clear_31 (by decide) ?_
  refine pf hx hb hts hown hK hP hD hS 0 inT5 tyX5_ok nmX5 rfl rfl 6 (by decide) tw1_109 rfl rfl rfl (Nat.le_of_ble_eq_true rfl) dX5_clear_32 (ws' := [(df, .inr (5, [.int 0, .int 0, .int 0, .int 0, .int 0, .int 0, .long 0, .ref da1, .ref da2, .ref da3, .ref da4, .ref da5, .ref da6, .ref da7, .ref da8, .ref dc])), (dc, .inr (1, [.int 0, .ref db1, .ref db2, .ref db3, .ref db4]))]) rfl (fun H locs hP hD hS => ?_)
  refine lv_aload_n hx hb dX5_clear_35 rfl (lv_at hl 0 rfl) ?_
  refine gf hx hb hts hown hK hP 0 inT5 rfl rfl 15 (by decide) tw1_141 rfl dX5_clear_36 ?_
  refine lv_iconst (v := 0) hx hb dX5_clear_39 (by decide) ?_
  refine pf hx hb hts hown hK hP hD hS 1 inT1 tyX1_ok nmX1 rfl rfl 0 (by decide) tw1_57 rfl rfl rfl (Nat.le_of_ble_eq_true rfl) dX5_clear_40 (ws' := [(df, .inr (5, [.int 0, .int 0, .int 0, .int 0, .int 0, .int 0, .long 0, .ref da1, .ref da2, .ref da3, .ref da4, .ref da5, .ref da6, .ref da7, .ref da8, .ref dc])), (dc, .inr (1, [.int 0, .ref db1, .ref db2, .ref db3, .ref db4]))]) rfl (fun H locs hP hD hS => ?_)
  refine W.widen (k := 0) (n := 0) (by decide) (by decide) ?_
  exact rtV hx hb hr hlocks hS () (trivial) (hP.sub [0, 1] rfl) (hD.sub [0, 1] (by decide) rfl) dX5_clear_43

set_option maxHeartbeats 4000000 in
set_option maxRecDepth 100000 in
theorem c_byteAt0 (l : Launch) (G : va_G) (t : Nat → ClassId) (tp : Nat) (tb : Nat) (f0 : Nat → Int32) : Ct l G t yX10_byteAt cX10_byteAt 2 (some .int) ({ frames := 0, cells := 0, slots := 0, locals := 0 }) [.ref tp, .int 0] [(tp, .inr (10, [.ref tb, .int 0])), (tb, .inl (t 0, 1400, .inl f0))] (QI G (fun r (u : Unit) => r = (-1)) (fun (u : Unit) => [(tp, .inr (10, [.ref tb, .int 0])), (tb, .inl (t 0, 1400, .inl f0))])) := by
  refine ent (by decide) (Nat.le_of_ble_eq_true rfl) ?_
  intro p e s m args below meth c hx hb hr hml hts hown hlocks hin A hA hK hO hP hD hS ls hl
  have hown : s.vm.findClass RX10 = some m.cls := hown
  have hl : lv_has ls 2 [(0, .ref tp), (1, .int 0)] := hl
  have C0 : Cx p s m args c cX10_byteAt 2 RX10 G t := ⟨hx, hb, hml, hown, hts, hK, hO⟩
  refine lv_iload_n hx hb dX10_byteAt_0 rfl (lv_at hl 1 rfl) ?_
  refine lv_if_lt (tgt := 32) hx hb dX10_byteAt_1 (by decide) (fun c_1 => absurd c_1 (by decide)) (fun _ => ?_)
  refine lv_iload_n hx hb dX10_byteAt_4 rfl (lv_at hl 1 rfl) ?_
  refine lv_aload_n hx hb dX10_byteAt_5 rfl (lv_at hl 0 rfl) ?_
  refine gf hx hb hts hown hK hP 0 inT10 rfl rfl 1 (by decide) tw1_33 rfl dX10_byteAt_6 ?_
  refine lv_icmp_ge (tgt := 32) hx hb dX10_byteAt_9 (by decide) (fun _ => ?_) (fun c_2 => absurd (by decide) c_2)
  refine lv_iconst (v := (-1)) hx hb dX10_byteAt_32 (by decide) ?_
  refine W.widen (k := 0) (n := 0) (by decide) (by decide) ?_
  exact rtI hx hb hr hlocks hS () (rfl) (hP.sub [0, 1] rfl) (hD.sub [0, 1] (by decide) rfl) dX10_byteAt_33

set_option maxHeartbeats 4000000 in
set_option maxRecDepth 100000 in
theorem c_advance0 (l : Launch) (G : va_G) (t : Nat → ClassId) (rd : Nat) (tp : Nat) (df : Nat) (tb : Nat) : Ct l G t yX6_advance cX6_advance 2 none ({ frames := 1, cells := 0, slots := 0, locals := 21 }) [.ref rd] [(rd, .inr (6, [.int 0, .int (-1), .ref tp, .ref df, .int 0, .int 0, .int 0, .int 0, .int 0, .int 0])), (tp, .inr (10, [.ref tb, .int 0])), (tb, .inl (t 0, 1400, .inl (fun _ => 0)))] (QV G (fun (u : Unit) => True) (fun (u : Unit) => [(rd, .inr (6, [.int 0, .int (-1), .ref tp, .ref df, .int 0, .int (-1), .int 0, .int 0, .int 0, .int 0])), (tp, .inr (10, [.ref tb, .int 0])), (tb, .inl (t 0, 1400, .inl (fun _ => 0)))])) := by
  refine ent (by decide) (Nat.le_of_ble_eq_true rfl) ?_
  intro p e s m args below meth c hx hb hr hml hts hown hlocks hin A hA hK hO hP hD hS ls hl
  have hown : s.vm.findClass RX6 = some m.cls := hown
  have hl : lv_has ls 2 [(0, .ref rd)] := hl
  have C0 : Cx p s m args c cX6_advance 2 RX6 G t := ⟨hx, hb, hml, hown, hts, hK, hO⟩
  refine lv_aload_n hx hb dX6_advance_0 rfl (lv_at hl 0 rfl) ?_
  refine gf hx hb hts hown hK hP 0 inT6 rfl rfl 2 (by decide) tw1_206 rfl dX6_advance_1 ?_
  refine lv_aload_n hx hb dX6_advance_4 rfl (lv_at hl 0 rfl) ?_
  refine gf hx hb hts hown hK hP 0 inT6 rfl rfl 4 (by decide) tw1_208 rfl dX6_advance_5 ?_
  refine goI (rnV C0 (c_byteAt0 l G t tp tb (fun _ => 0)) lkX6_148 ⟨by decide, by decide⟩ (hP.sub (ws' := [(tp, .inr (10, [.ref tb, .int 0])), (tb, .inl (t 0, 1400, .inl (fun _ => 0)))]) [1, 2] rfl) (hD.sub (ws' := [(tp, .inr (10, [.ref tb, .int 0])), (tb, .inl (t 0, 1400, .inl (fun _ => 0)))]) [1, 2] (by decide) rfl) 0 10 rfl rfl rfl rfl hl.1 (rest := []) rfl (Nat.le_of_ble_eq_true rfl) dX6_advance_8 ⟨by decide, by decide⟩) hP hD hS hA [1, 2] [0] (wr := [(rd, .inr (6, [.int 0, .int (-1), .ref tp, .ref df, .int 0, .int 0, .int 0, .int 0, .int 0, .int 0]))]) rfl rfl (by decide) (by decide) (fun r_1 u H locs h_2 hP hD hS => ?_)
  have hP : va_P G vwCl [(rd, .inr (6, [.int 0, .int (-1), .ref tp, .ref df, .int 0, .int 0, .int 0, .int 0, .int 0, .int 0])), (tp, .inr (10, [.ref tb, .int 0])), (tb, .inl (t 0, 1400, .inl (fun _ => 0)))] H := hP
  have hD : va_D A [(rd, .inr (6, [.int 0, .int (-1), .ref tp, .ref df, .int 0, .int 0, .int 0, .int 0, .int 0, .int 0])), (tp, .inr (10, [.ref tb, .int 0])), (tb, .inl (t 0, 1400, .inl (fun _ => 0)))] := hD
  refine W.widen (k := 0) (n := 0) (Nat.le_of_ble_eq_true rfl) (Nat.le_of_ble_eq_true rfl) ?_
  obtain rfl : r_1 = (-1) := h_2
  refine lv_istore_n (lv' := [(1, .int (-1)), (0, .ref rd)]) hx hb dX6_advance_11 rfl hl (by decide) rfl (fun ls hl => ?_)
  refine lv_aload_n hx hb dX6_advance_12 rfl (lv_at hl 1 rfl) ?_
  refine gf hx hb hts hown hK hP 0 inT6 rfl rfl 4 (by decide) tw1_208 rfl dX6_advance_13 ?_
  refine lv_sipush (v := 1400) hx hb dX6_advance_16 (by decide) ?_
  refine lv_icmp_ge (tgt := 59) hx hb dX6_advance_19 (by decide) (fun c_3 => absurd c_3 (by decide)) (fun _ => ?_)
  refine lv_iload_n hx hb dX6_advance_22 rfl (lv_at hl 0 rfl) ?_
  refine lv_bipush (v := 32) hx hb dX6_advance_23 (by decide) ?_
  refine lv_icmp_eq (tgt := 34) hx hb dX6_advance_25 (by decide) (fun c_4 => absurd c_4 (by decide)) (fun _ => ?_)
  refine lv_iload_n hx hb dX6_advance_28 rfl (lv_at hl 0 rfl) ?_
  refine lv_bipush (v := 10) hx hb dX6_advance_29 (by decide) ?_
  refine lv_icmp_ne (tgt := 59) hx hb dX6_advance_31 (by decide) (fun _ => ?_) (fun c_5 => absurd c_5 (by decide))
  refine lv_aload_n hx hb dX6_advance_59 rfl (lv_at hl 1 rfl) ?_
  refine lv_aload_n hx hb dX6_advance_60 rfl (lv_at hl 1 rfl) ?_
  refine gf hx hb hts hown hK hP 0 inT6 rfl rfl 4 (by decide) tw1_208 rfl dX6_advance_61 ?_
  refine pf hx hb hts hown hK hP hD hS 0 inT6 tyX6_ok nmX6 rfl rfl 6 (by decide) tw1_210 rfl rfl rfl (Nat.le_of_ble_eq_true rfl) dX6_advance_64 (ws' := [(rd, .inr (6, [.int 0, .int (-1), .ref tp, .ref df, .int 0, .int 0, .int 0, .int 0, .int 0, .int 0])), (tp, .inr (10, [.ref tb, .int 0])), (tb, .inl (t 0, 1400, .inl (fun _ => 0)))]) rfl (fun H locs hP hD hS => ?_)
  refine lv_iload_n hx hb dX6_advance_67 rfl (lv_at hl 0 rfl) ?_
  refine lv_iconst (v := (-1)) hx hb dX6_advance_68 (by decide) ?_
  refine lv_icmp_ne (tgt := 80) hx hb dX6_advance_69 (by decide) (fun c_6 => absurd (by decide) c_6) (fun _ => ?_)
  refine lv_aload_n hx hb dX6_advance_72 rfl (lv_at hl 1 rfl) ?_
  refine lv_iconst (v := (-1)) hx hb dX6_advance_73 (by decide) ?_
  refine pf hx hb hts hown hK hP hD hS 0 inT6 tyX6_ok nmX6 rfl rfl 5 (by decide) tw1_209 rfl rfl rfl (Nat.le_of_ble_eq_true rfl) dX6_advance_74 (ws' := [(rd, .inr (6, [.int 0, .int (-1), .ref tp, .ref df, .int 0, .int (-1), .int 0, .int 0, .int 0, .int 0])), (tp, .inr (10, [.ref tb, .int 0])), (tb, .inl (t 0, 1400, .inl (fun _ => 0)))]) rfl (fun H locs hP hD hS => ?_)
  refine lv_goto (tgt := 145) hx hb dX6_advance_77 (by decide) ?_
  refine W.widen (k := 0) (n := 0) (by decide) (by decide) ?_
  exact rtV hx hb hr hlocks hS () (trivial) (hP.sub [0, 1, 2] rfl) (hD.sub [0, 1, 2] (by decide) rfl) dX6_advance_145

set_option maxHeartbeats 4000000 in
set_option maxRecDepth 100000 in
theorem c_tell0 (l : Launch) (G : va_G) (t : Nat → ClassId) (rd : Nat) (tp : Nat) (df : Nat) (tb : Nat) (da1 : Nat) (da2 : Nat) (da3 : Nat) (da4 : Nat) (da5 : Nat) (da6 : Nat) (da7 : Nat) (da8 : Nat) (dc : Nat) (db1 : Nat) (db2 : Nat) (db3 : Nat) (db4 : Nat) : Ct l G t yX6_tell cX6_tell 4 (some .boolean) ({ frames := 2, cells := 0, slots := 0, locals := 42 }) [.ref rd, .ref df] [(rd, .inr (6, [.int 0, .int (-1), .ref tp, .ref df, .int 0, .int 0, .int 0, .int 0, .int 0, .int 0])), (tp, .inr (10, [.ref tb, .int 0])), (tb, .inl (t 0, 1400, .inl (fun _ => 0))), (df, .inr (5, [.int 0, .int 0, .int 0, .int 0, .int 0, .int 0, .long 0, .ref da1, .ref da2, .ref da3, .ref da4, .ref da5, .ref da6, .ref da7, .ref da8, .ref dc])), (dc, .inr (1, [.int 0, .ref db1, .ref db2, .ref db3, .ref db4]))] (QI G (fun r (u : Unit) => r = 1) (fun (u : Unit) => [(tp, .inr (10, [.ref tb, .int 0])), (tb, .inl (t 0, 1400, .inl (fun _ => 0))), (df, .inr (5, [.int 0, .int 0, .int 0, .int 0, .int 0, .int 0, .long 0, .ref da1, .ref da2, .ref da3, .ref da4, .ref da5, .ref da6, .ref da7, .ref da8, .ref dc])), (dc, .inr (1, [.int 0, .ref db1, .ref db2, .ref db3, .ref db4]))])) := by
  refine ent (by decide) (Nat.le_of_ble_eq_true rfl) ?_
  intro p e s m args below meth c hx hb hr hml hts hown hlocks hin A hA hK hO hP hD hS ls hl
  have hown : s.vm.findClass RX6 = some m.cls := hown
  have hl : lv_has ls 4 [(0, .ref rd), (1, .ref df)] := hl
  have C0 : Cx p s m args c cX6_tell 4 RX6 G t := ⟨hx, hb, hml, hown, hts, hK, hO⟩
  refine lv_aload_n hx hb dX6_tell_0 rfl (lv_at hl 0 rfl) ?_
  refine lv_aload_n hx hb dX6_tell_1 rfl (lv_at hl 1 rfl) ?_
  refine pf hx hb hts hown hK hP hD hS 0 inT6 tyX6_ok nmX6 rfl rfl 3 (by decide) tw1_207 rfl rfl rfl (Nat.le_of_ble_eq_true rfl) dX6_tell_2 (ws' := [(rd, .inr (6, [.int 0, .int (-1), .ref tp, .ref df, .int 0, .int 0, .int 0, .int 0, .int 0, .int 0])), (tp, .inr (10, [.ref tb, .int 0])), (tb, .inl (t 0, 1400, .inl (fun _ => 0))), (df, .inr (5, [.int 0, .int 0, .int 0, .int 0, .int 0, .int 0, .long 0, .ref da1, .ref da2, .ref da3, .ref da4, .ref da5, .ref da6, .ref da7, .ref da8, .ref dc])), (dc, .inr (1, [.int 0, .ref db1, .ref db2, .ref db3, .ref db4]))]) rfl (fun H locs hP hD hS => ?_)
  refine lv_aload_n hx hb dX6_tell_5 rfl (lv_at hl 0 rfl) ?_
  refine gf hx hb hts hown hK hP 0 inT6 rfl rfl 3 (by decide) tw1_207 rfl dX6_tell_6 ?_
  refine goV (rnV C0 (c_clear l G t df da1 da2 da3 da4 da5 da6 da7 da8 dc db1 db2 db3 db4) lkX6_23 ⟨by decide, by decide⟩ (hP.sub (ws' := [(df, .inr (5, [.int 0, .int 0, .int 0, .int 0, .int 0, .int 0, .long 0, .ref da1, .ref da2, .ref da3, .ref da4, .ref da5, .ref da6, .ref da7, .ref da8, .ref dc])), (dc, .inr (1, [.int 0, .ref db1, .ref db2, .ref db3, .ref db4]))]) [3, 4] rfl) (hD.sub (ws' := [(df, .inr (5, [.int 0, .int 0, .int 0, .int 0, .int 0, .int 0, .long 0, .ref da1, .ref da2, .ref da3, .ref da4, .ref da5, .ref da6, .ref da7, .ref da8, .ref dc])), (dc, .inr (1, [.int 0, .ref db1, .ref db2, .ref db3, .ref db4]))]) [3, 4] (by decide) rfl) 0 5 rfl rfl rfl rfl hl.1 (rest := []) rfl (Nat.le_of_ble_eq_true rfl) dX6_tell_9 ⟨by decide, by decide⟩) hP hD hS hA [3, 4] [0, 1, 2] (wr := [(rd, .inr (6, [.int 0, .int (-1), .ref tp, .ref df, .int 0, .int 0, .int 0, .int 0, .int 0, .int 0])), (tp, .inr (10, [.ref tb, .int 0])), (tb, .inl (t 0, 1400, .inl (fun _ => 0)))]) rfl rfl (by decide) (by decide) (fun u H locs h_2 hP hD hS => ?_)
  have hP : va_P G vwCl [(rd, .inr (6, [.int 0, .int (-1), .ref tp, .ref df, .int 0, .int 0, .int 0, .int 0, .int 0, .int 0])), (tp, .inr (10, [.ref tb, .int 0])), (tb, .inl (t 0, 1400, .inl (fun _ => 0))), (df, .inr (5, [.int 0, .int 0, .int 0, .int 0, .int 0, .int 0, .long 0, .ref da1, .ref da2, .ref da3, .ref da4, .ref da5, .ref da6, .ref da7, .ref da8, .ref dc])), (dc, .inr (1, [.int 0, .ref db1, .ref db2, .ref db3, .ref db4]))] H := hP
  have hD : va_D A [(rd, .inr (6, [.int 0, .int (-1), .ref tp, .ref df, .int 0, .int 0, .int 0, .int 0, .int 0, .int 0])), (tp, .inr (10, [.ref tb, .int 0])), (tb, .inl (t 0, 1400, .inl (fun _ => 0))), (df, .inr (5, [.int 0, .int 0, .int 0, .int 0, .int 0, .int 0, .long 0, .ref da1, .ref da2, .ref da3, .ref da4, .ref da5, .ref da6, .ref da7, .ref da8, .ref dc])), (dc, .inr (1, [.int 0, .ref db1, .ref db2, .ref db3, .ref db4]))] := hD
  refine W.widen (k := 0) (n := 0) (Nat.le_of_ble_eq_true rfl) (Nat.le_of_ble_eq_true rfl) ?_
  refine lv_aload_n hx hb dX6_tell_12 rfl (lv_at hl 0 rfl) ?_
  refine lv_iconst (v := 0) hx hb dX6_tell_13 (by decide) ?_
  refine pf hx hb hts hown hK hP hD hS 0 inT6 tyX6_ok nmX6 rfl rfl 0 (by decide) tw1_202 rfl rfl rfl (Nat.le_of_ble_eq_true rfl) dX6_tell_14 (ws' := [(rd, .inr (6, [.int 0, .int (-1), .ref tp, .ref df, .int 0, .int 0, .int 0, .int 0, .int 0, .int 0])), (tp, .inr (10, [.ref tb, .int 0])), (tb, .inl (t 0, 1400, .inl (fun _ => 0))), (df, .inr (5, [.int 0, .int 0, .int 0, .int 0, .int 0, .int 0, .long 0, .ref da1, .ref da2, .ref da3, .ref da4, .ref da5, .ref da6, .ref da7, .ref da8, .ref dc])), (dc, .inr (1, [.int 0, .ref db1, .ref db2, .ref db3, .ref db4]))]) rfl (fun H locs hP hD hS => ?_)
  refine lv_aload_n hx hb dX6_tell_17 rfl (lv_at hl 0 rfl) ?_
  refine lv_iconst (v := (-1)) hx hb dX6_tell_18 (by decide) ?_
  refine pf hx hb hts hown hK hP hD hS 0 inT6 tyX6_ok nmX6 rfl rfl 1 (by decide) tw1_204 rfl rfl rfl (Nat.le_of_ble_eq_true rfl) dX6_tell_19 (ws' := [(rd, .inr (6, [.int 0, .int (-1), .ref tp, .ref df, .int 0, .int 0, .int 0, .int 0, .int 0, .int 0])), (tp, .inr (10, [.ref tb, .int 0])), (tb, .inl (t 0, 1400, .inl (fun _ => 0))), (df, .inr (5, [.int 0, .int 0, .int 0, .int 0, .int 0, .int 0, .long 0, .ref da1, .ref da2, .ref da3, .ref da4, .ref da5, .ref da6, .ref da7, .ref da8, .ref dc])), (dc, .inr (1, [.int 0, .ref db1, .ref db2, .ref db3, .ref db4]))]) rfl (fun H locs hP hD hS => ?_)
  refine lv_aload_n hx hb dX6_tell_22 rfl (lv_at hl 0 rfl) ?_
  refine lv_iconst (v := 0) hx hb dX6_tell_23 (by decide) ?_
  refine pf hx hb hts hown hK hP hD hS 0 inT6 tyX6_ok nmX6 rfl rfl 4 (by decide) tw1_208 rfl rfl rfl (Nat.le_of_ble_eq_true rfl) dX6_tell_24 (ws' := [(rd, .inr (6, [.int 0, .int (-1), .ref tp, .ref df, .int 0, .int 0, .int 0, .int 0, .int 0, .int 0])), (tp, .inr (10, [.ref tb, .int 0])), (tb, .inl (t 0, 1400, .inl (fun _ => 0))), (df, .inr (5, [.int 0, .int 0, .int 0, .int 0, .int 0, .int 0, .long 0, .ref da1, .ref da2, .ref da3, .ref da4, .ref da5, .ref da6, .ref da7, .ref da8, .ref dc])), (dc, .inr (1, [.int 0, .ref db1, .ref db2, .ref db3, .ref db4]))]) rfl (fun H locs hP hD hS => ?_)
  refine lv_aload_n hx hb dX6_tell_27 rfl (lv_at hl 0 rfl) ?_
  refine goV (rnV C0 (c_advance0 l G t rd tp df tb) lkX6_34 ⟨by decide, by decide⟩ (hP.sub (ws' := [(rd, .inr (6, [.int 0, .int (-1), .ref tp, .ref df, .int 0, .int 0, .int 0, .int 0, .int 0, .int 0])), (tp, .inr (10, [.ref tb, .int 0])), (tb, .inl (t 0, 1400, .inl (fun _ => 0)))]) [0, 1, 2] rfl) (hD.sub (ws' := [(rd, .inr (6, [.int 0, .int (-1), .ref tp, .ref df, .int 0, .int 0, .int 0, .int 0, .int 0, .int 0])), (tp, .inr (10, [.ref tb, .int 0])), (tb, .inl (t 0, 1400, .inl (fun _ => 0)))]) [0, 1, 2] (by decide) rfl) 0 6 rfl rfl rfl rfl hl.1 (rest := []) rfl (Nat.le_of_ble_eq_true rfl) dX6_tell_28 ⟨by decide, by decide⟩) hP hD hS hA [0, 1, 2] [3, 4] (wr := [(df, .inr (5, [.int 0, .int 0, .int 0, .int 0, .int 0, .int 0, .long 0, .ref da1, .ref da2, .ref da3, .ref da4, .ref da5, .ref da6, .ref da7, .ref da8, .ref dc])), (dc, .inr (1, [.int 0, .ref db1, .ref db2, .ref db3, .ref db4]))]) rfl rfl (by decide) (by decide) (fun u H locs h_4 hP hD hS => ?_)
  have hP : va_P G vwCl [(df, .inr (5, [.int 0, .int 0, .int 0, .int 0, .int 0, .int 0, .long 0, .ref da1, .ref da2, .ref da3, .ref da4, .ref da5, .ref da6, .ref da7, .ref da8, .ref dc])), (dc, .inr (1, [.int 0, .ref db1, .ref db2, .ref db3, .ref db4])), (rd, .inr (6, [.int 0, .int (-1), .ref tp, .ref df, .int 0, .int (-1), .int 0, .int 0, .int 0, .int 0])), (tp, .inr (10, [.ref tb, .int 0])), (tb, .inl (t 0, 1400, .inl (fun _ => 0)))] H := hP
  have hD : va_D A [(df, .inr (5, [.int 0, .int 0, .int 0, .int 0, .int 0, .int 0, .long 0, .ref da1, .ref da2, .ref da3, .ref da4, .ref da5, .ref da6, .ref da7, .ref da8, .ref dc])), (dc, .inr (1, [.int 0, .ref db1, .ref db2, .ref db3, .ref db4])), (rd, .inr (6, [.int 0, .int (-1), .ref tp, .ref df, .int 0, .int (-1), .int 0, .int 0, .int 0, .int 0])), (tp, .inr (10, [.ref tb, .int 0])), (tb, .inl (t 0, 1400, .inl (fun _ => 0)))] := hD
  refine W.widen (k := 0) (n := 0) (Nat.le_of_ble_eq_true rfl) (Nat.le_of_ble_eq_true rfl) ?_
  refine lv_iconst (v := 0) hx hb dX6_tell_31 (by decide) ?_
  refine lv_istore_n (lv' := [(2, .int 0), (0, .ref rd), (1, .ref df)]) hx hb dX6_tell_32 rfl hl (by decide) rfl (fun ls hl => ?_)
  refine lv_iload_n hx hb dX6_tell_33 rfl (lv_at hl 0 rfl) ?_
  refine lv_sipush (v := 1400) hx hb dX6_tell_34 (by decide) ?_
  refine lv_icmp_gt (tgt := 144) hx hb dX6_tell_37 (by decide) (fun c_5 => absurd c_5 (by decide)) (fun _ => ?_)
  refine lv_aload_n hx hb dX6_tell_40 rfl (lv_at hl 1 rfl) ?_
  refine gf hx hb hts hown hK hP 2 inT6 rfl rfl 5 (by decide) tw1_209 rfl dX6_tell_41 ?_
  refine lv_iconst (v := (-1)) hx hb dX6_tell_44 (by decide) ?_
  refine lv_icmp_eq (tgt := 144) hx hb dX6_tell_45 (by decide) (fun _ => ?_) (fun c_6 => absurd (by decide) c_6)
  refine lv_aload_n hx hb dX6_tell_144 rfl (lv_at hl 1 rfl) ?_
  refine gf hx hb hts hown hK hP 2 inT6 rfl rfl 0 (by decide) tw1_202 rfl dX6_tell_145 ?_
  refine lv_if_ne (tgt := 155) hx hb dX6_tell_148 (by decide) (fun c_7 => absurd (by decide) c_7) (fun _ => ?_)
  refine lv_iconst (v := 1) hx hb dX6_tell_151 (by decide) ?_
  refine lv_goto (tgt := 156) hx hb dX6_tell_152 (by decide) ?_
  refine W.widen (k := 0) (n := 0) (by decide) (by decide) ?_
  exact rtZ hx hb hr hlocks hS rfl () (rfl) (hP.sub [3, 4, 0, 1] rfl) (hD.sub [3, 4, 0, 1] (by decide) rfl) dX6_tell_156

set_option maxHeartbeats 4000000 in
set_option maxRecDepth 100000 in
theorem c_turn0 (l : Launch) (G : va_G) (t : Nat → ClassId) (ac : Nat) (p1 : Nat) (p2 : Nat) (p3 : Nat) (p4 : Nat) (df : Nat) (da1 : Nat) (da2 : Nat) (da3 : Nat) (da4 : Nat) (da5 : Nat) (da6 : Nat) (da7 : Nat) (da8 : Nat) (dc : Nat) (v0 : Int32) : Ct l G t yX0_turnScrews cX0_turnScrews 5 none ({ frames := 0, cells := 0, slots := 0, locals := 0 }) [.ref ac, .int v0] [(ac, .inr (0, [.ref df, .ref p1, .ref p2, .ref p3, .ref p4])), (df, .inr (5, [.int 0, .int 0, .int 0, .int 0, .int 0, .int 0, .long 0, .ref da1, .ref da2, .ref da3, .ref da4, .ref da5, .ref da6, .ref da7, .ref da8, .ref dc]))] (QV G (fun (u : Unit) => True) (fun (u : Unit) => [(ac, .inr (0, [.ref df, .ref p1, .ref p2, .ref p3, .ref p4])), (df, .inr (5, [.int 0, .int 0, .int 0, .int 0, .int 0, .int 0, .long 0, .ref da1, .ref da2, .ref da3, .ref da4, .ref da5, .ref da6, .ref da7, .ref da8, .ref dc]))])) := by
  refine ent (by decide) (Nat.le_of_ble_eq_true rfl) ?_
  intro p e s m args below meth c hx hb hr hml hts hown hlocks hin A hA hK hO hP hD hS ls hl
  have hown : s.vm.findClass RX0 = some m.cls := hown
  have hl : lv_has ls 5 [(0, .ref ac), (1, .int v0)] := hl
  have C0 : Cx p s m args c cX0_turnScrews 5 RX0 G t := ⟨hx, hb, hml, hown, hts, hK, hO⟩
  refine lv_iconst (v := 0) hx hb dX0_turnScrews_0 (by decide) ?_
  refine lv_istore_n (lv' := [(2, .int 0), (0, .ref ac), (1, .int v0)]) hx hb dX0_turnScrews_1 rfl hl (by decide) rfl (fun ls hl => ?_)
  refine lv_iconst (v := 0) hx hb dX0_turnScrews_2 (by decide) ?_
  refine lv_istore_n (lv' := [(3, .int 0), (2, .int 0), (0, .ref ac), (1, .int v0)]) hx hb dX0_turnScrews_3 rfl hl (by decide) rfl (fun ls hl => ?_)
  refine lv_iload_n hx hb dX0_turnScrews_4 rfl (lv_at hl 0 rfl) ?_
  refine lv_aload_n hx hb dX0_turnScrews_5 rfl (lv_at hl 2 rfl) ?_
  refine gf hx hb hts hown hK hP 0 inT0 rfl rfl 0 (by decide) tw2_1 rfl dX0_turnScrews_6 ?_
  refine gf hx hb hts hown hK hP 1 inT5 rfl rfl 5 (by decide) tw1_102 rfl dX0_turnScrews_9 ?_
  refine lv_icmp_ge (tgt := 42) hx hb dX0_turnScrews_12 (by decide) (fun _ => ?_) (fun c_1 => absurd (by decide) c_1)
  refine lv_iconst (v := 0) hx hb dX0_turnScrews_42 (by decide) ?_
  refine lv_istore_n (lv' := [(3, .int 0), (2, .int 0), (0, .ref ac), (1, .int v0)]) hx hb dX0_turnScrews_43 rfl hl (by decide) rfl (fun ls hl => ?_)
  refine lv_iload_n hx hb dX0_turnScrews_44 rfl (lv_at hl 0 rfl) ?_
  refine lv_aload_n hx hb dX0_turnScrews_45 rfl (lv_at hl 2 rfl) ?_
  refine gf hx hb hts hown hK hP 0 inT0 rfl rfl 0 (by decide) tw2_1 rfl dX0_turnScrews_46 ?_
  refine gf hx hb hts hown hK hP 1 inT5 rfl rfl 5 (by decide) tw1_102 rfl dX0_turnScrews_49 ?_
  refine lv_icmp_ge (tgt := 112) hx hb dX0_turnScrews_52 (by decide) (fun _ => ?_) (fun c_2 => absurd (by decide) c_2)
  refine W.widen (k := 0) (n := 0) (by decide) (by decide) ?_
  exact rtV hx hb hr hlocks hS () (trivial) (hP.sub [0, 1] rfl) (hD.sub [0, 1] (by decide) rfl) dX0_turnScrews_112

set_option maxHeartbeats 4000000 in
set_option maxRecDepth 100000 in
theorem c_play0 (l : Launch) (G : va_G) (t : Nat → ClassId) (ac : Nat) (p1 : Nat) (p2 : Nat) (p3 : Nat) (p4 : Nat) (xhl : Nat) (df : Nat) (da1 : Nat) (da2 : Nat) (da3 : Nat) (da4 : Nat) (da5 : Nat) (da6 : Nat) (da7 : Nat) (da8 : Nat) (dc : Nat) : Ct l G t yX0_play cX0_play 3 none ({ frames := 1, cells := 0, slots := 0, locals := 24 }) [.ref ac, .ref df] [(ac, .inr (0, [.ref xhl, .ref p1, .ref p2, .ref p3, .ref p4])), (p2, .inl (t 3, 60, .inl (fun _ => 0))), (df, .inr (5, [.int 0, .int 0, .int 0, .int 0, .int 0, .int 0, .long 0, .ref da1, .ref da2, .ref da3, .ref da4, .ref da5, .ref da6, .ref da7, .ref da8, .ref dc]))] (QV G (fun (u : Unit) => True) (fun (u : Unit) => [(ac, .inr (0, [.ref df, .ref p1, .ref p2, .ref p3, .ref p4])), (df, .inr (5, [.int 0, .int 0, .int 0, .int 0, .int 0, .int 0, .long 0, .ref da1, .ref da2, .ref da3, .ref da4, .ref da5, .ref da6, .ref da7, .ref da8, .ref dc]))])) := by
  refine ent (by decide) (Nat.le_of_ble_eq_true rfl) ?_
  intro p e s m args below meth c hx hb hr hml hts hown hlocks hin A hA hK hO hP hD hS ls hl
  have hown : s.vm.findClass RX0 = some m.cls := hown
  have hl : lv_has ls 3 [(0, .ref ac), (1, .ref df)] := hl
  have C0 : Cx p s m args c cX0_play 3 RX0 G t := ⟨hx, hb, hml, hown, hts, hK, hO⟩
  refine lv_aload_n hx hb dX0_play_0 rfl (lv_at hl 0 rfl) ?_
  refine lv_aload_n hx hb dX0_play_1 rfl (lv_at hl 1 rfl) ?_
  refine pf hx hb hts hown hK hP hD hS 0 inT0 tyX0_ok nmX0 rfl rfl 0 (by decide) tw2_1 rfl rfl rfl (Nat.le_of_ble_eq_true rfl) dX0_play_2 (ws' := [(ac, .inr (0, [.ref df, .ref p1, .ref p2, .ref p3, .ref p4])), (p2, .inl (t 3, 60, .inl (fun _ => 0))), (df, .inr (5, [.int 0, .int 0, .int 0, .int 0, .int 0, .int 0, .long 0, .ref da1, .ref da2, .ref da3, .ref da4, .ref da5, .ref da6, .ref da7, .ref da8, .ref dc]))]) rfl (fun H locs hP hD hS => ?_)
  refine lv_iconst (v := 0) hx hb dX0_play_5 (by decide) ?_
  refine lv_istore_n (lv' := [(2, .int 0), (0, .ref ac), (1, .ref df)]) hx hb dX0_play_6 rfl hl (by decide) rfl (fun ls hl => ?_)
  refine lv_iload_n hx hb dX0_play_7 rfl (lv_at hl 0 rfl) ?_
  refine lv_aload_n hx hb dX0_play_8 rfl (lv_at hl 1 rfl) ?_
  refine gf hx hb hts hown hK hP 0 inT0 rfl rfl 0 (by decide) tw2_1 rfl dX0_play_9 ?_
  refine gf hx hb hts hown hK hP 2 inT5 rfl rfl 5 (by decide) tw1_102 rfl dX0_play_12 ?_
  refine lv_icmp_ge (tgt := 45) hx hb dX0_play_15 (by decide) (fun _ => ?_) (fun c_1 => absurd (by decide) c_1)
  refine lv_iconst (v := 0) hx hb dX0_play_45 (by decide) ?_
  refine lv_istore_n (lv' := [(2, .int 0), (0, .ref ac), (1, .ref df)]) hx hb dX0_play_46 rfl hl (by decide) rfl (fun ls hl => ?_)
  have LP_2 : ∀ (n k : Nat), k + n = 59 → ∀ (H : Heap) (locs : List Loc) (ls : Array Slot), lv_has ls 3 [(2, .int (nI k)), (0, .ref ac), (1, .ref df)] → va_P G vwCl [(ac, .inr (0, [.ref df, .ref p1, .ref p2, .ref p3, .ref p4])), (p2, .inl (t 3, 60, .inl (fun _ => 0))), (df, .inr (5, [.int 0, .int 0, .int 0, .int 0, .int 0, .int 0, .long 0, .ref da1, .ref da2, .ref da3, .ref da4, .ref da5, .ref da6, .ref da7, .ref da8, .ref dc]))] H → va_D A [(ac, .inr (0, [.ref df, .ref p1, .ref p2, .ref p3, .ref p4])), (p2, .inl (t 3, 60, .inl (fun _ => 0))), (df, .inr (5, [.int 0, .int 0, .int 0, .int 0, .int 0, .int 0, .long 0, .ref da1, .ref da2, .ref da3, .ref da4, .ref da5, .ref da6, .ref da7, .ref da8, .ref dc]))] → va_S A s.heap H locs → W p l e ({ frames := 1, cells := 0, slots := 0, locals := 24 }) s m args below meth c H locs 0 0 (MQ below ((QV G (fun (u : Unit) => True) (fun (u : Unit) => [(ac, .inr (0, [.ref df, .ref p1, .ref p2, .ref p3, .ref p4])), (df, .inr (5, [.int 0, .int 0, .int 0, .int 0, .int 0, .int 0, .long 0, .ref da1, .ref da2, .ref da3, .ref da4, .ref da5, .ref da6, .ref da7, .ref da8, .ref dc]))])) A) args s 0 0 A) (F0 m 47 ls []) := by
    intro n
    induction n with
    | zero =>
      intro k hk H locs ls hl hP hD hS
      obtain rfl : k = 59 := by omega
      refine lv_iload_n hx hb dX0_play_47 rfl (lv_at hl 0 rfl) ?_
      refine lv_iconst (v := 1) hx hb dX0_play_48 (by decide) ?_
      refine lv_iadd hx hb dX0_play_49 (tpi (v := 60) (by decide) ?_)
      refine lv_bipush (v := 60) hx hb dX0_play_50 (by decide) ?_
      refine lv_icmp_ge (tgt := 66) hx hb dX0_play_52 (by decide) (fun _ => ?_) (fun c_3 => absurd (by decide) c_3)
      refine lv_iconst (v := 0) hx hb dX0_play_66 (by decide) ?_
      refine lv_istore_n (lv' := [(2, .int 0), (0, .ref ac), (1, .ref df)]) hx hb dX0_play_67 rfl hl (by decide) rfl (fun ls hl => ?_)
      have LP_4 : ∀ (n k : Nat), k + n = 60 → ∀ (H : Heap) (locs : List Loc) (ls : Array Slot), lv_has ls 3 [(2, .int (nI k)), (0, .ref ac), (1, .ref df)] → va_P G vwCl [(ac, .inr (0, [.ref df, .ref p1, .ref p2, .ref p3, .ref p4])), (p2, .inl (t 3, 60, .inl (fun _ => 0))), (df, .inr (5, [.int 0, .int 0, .int 0, .int 0, .int 0, .int 0, .long 0, .ref da1, .ref da2, .ref da3, .ref da4, .ref da5, .ref da6, .ref da7, .ref da8, .ref dc]))] H → va_D A [(ac, .inr (0, [.ref df, .ref p1, .ref p2, .ref p3, .ref p4])), (p2, .inl (t 3, 60, .inl (fun _ => 0))), (df, .inr (5, [.int 0, .int 0, .int 0, .int 0, .int 0, .int 0, .long 0, .ref da1, .ref da2, .ref da3, .ref da4, .ref da5, .ref da6, .ref da7, .ref da8, .ref dc]))] → va_S A s.heap H locs → W p l e ({ frames := 1, cells := 0, slots := 0, locals := 24 }) s m args below meth c H locs 0 0 (MQ below ((QV G (fun (u : Unit) => True) (fun (u : Unit) => [(ac, .inr (0, [.ref df, .ref p1, .ref p2, .ref p3, .ref p4])), (df, .inr (5, [.int 0, .int 0, .int 0, .int 0, .int 0, .int 0, .long 0, .ref da1, .ref da2, .ref da3, .ref da4, .ref da5, .ref da6, .ref da7, .ref da8, .ref dc]))])) A) args s 0 0 A) (F0 m 68 ls []) := by
        intro n
        induction n with
        | zero =>
          intro k hk H locs ls hl hP hD hS
          obtain rfl : k = 60 := by omega
          refine lv_iload_n hx hb dX0_play_68 rfl (lv_at hl 0 rfl) ?_
          refine lv_bipush (v := 60) hx hb dX0_play_69 (by decide) ?_
          refine lv_icmp_ge (tgt := 87) hx hb dX0_play_71 (by decide) (fun _ => ?_) (fun c_5 => absurd (by decide) c_5)
          refine W.widen (k := 0) (n := 0) (by decide) (by decide) ?_
          exact rtV hx hb hr hlocks hS () (trivial) (hP.sub [0, 2] rfl) (hD.sub [0, 2] (by decide) rfl) dX0_play_87
        | succ n ih =>
          intro k hk H locs ls hl hP hD hS
          refine lv_iload_n hx hb dX0_play_68 rfl (lv_at hl 0 rfl) ?_
          refine lv_bipush (v := 60) hx hb dX0_play_69 (by decide) ?_
          refine lv_icmp_ge (tgt := 87) hx hb dX0_play_71 (by decide) (fun c_6 => absurd c_6 (show ¬ nI 60 ≤ nI k from nI_ge (by omega) (by decide))) (fun _ => ?_)
          refine lv_aload_n hx hb dX0_play_74 rfl (lv_at hl 1 rfl) ?_
          refine gf hx hb hts hown hK hP 0 inT0 rfl rfl 2 (by decide) tw2_7 rfl dX0_play_75 ?_
          refine lv_iload_n hx hb dX0_play_78 rfl (lv_at hl 0 rfl) ?_
          refine lv_iconst (v := 0) hx hb dX0_play_79 (by decide) ?_
          refine stZ hx hb hK hP hD hS 1 rfl (vp_in_nI (by omega) (by decide)) dX0_play_80 (f' := (fun _ => 0)) (upd_z _) (ws' := [(ac, .inr (0, [.ref df, .ref p1, .ref p2, .ref p3, .ref p4])), (p2, .inl (t 3, 60, .inl (fun _ => 0))), (df, .inr (5, [.int 0, .int 0, .int 0, .int 0, .int 0, .int 0, .long 0, .ref da1, .ref da2, .ref da3, .ref da4, .ref da5, .ref da6, .ref da7, .ref da8, .ref dc]))]) rfl (fun H locs hP hD hS => ?_)
          refine lv_iinc (v := (nI (k + 1))) (lv' := [(2, .int (nI (k + 1))), (0, .ref ac), (1, .ref df)]) hx hb dX0_play_81 hl (k := 0) rfl (nI_1 k) (by decide) rfl (fun ls hl => ?_)
          refine lv_goto (tgt := 68) hx hb dX0_play_84 (by decide) ?_
          exact ih (k + 1) (by omega) H locs ls (lv_sub hl [0, 1, 2] rfl) (hP.sub [0, 1, 2] rfl) (hD.sub [0, 1, 2] (by decide) rfl) hS
      exact LP_4 60 0 (by omega) _ _ _ hl hP hD hS
    | succ n ih =>
      intro k hk H locs ls hl hP hD hS
      refine lv_iload_n hx hb dX0_play_47 rfl (lv_at hl 0 rfl) ?_
      refine lv_iconst (v := 1) hx hb dX0_play_48 (by decide) ?_
      refine lv_iadd hx hb dX0_play_49 (tpi (v := (nI (k + 1))) (nI_1 k) ?_)
      refine lv_bipush (v := 60) hx hb dX0_play_50 (by decide) ?_
      refine lv_icmp_ge (tgt := 66) hx hb dX0_play_52 (by decide) (fun c_7 => absurd c_7 (show ¬ nI 60 ≤ nI (k + 1) from nI_ge (by omega) (by decide))) (fun _ => ?_)
      refine lv_aload_n hx hb dX0_play_55 rfl (lv_at hl 1 rfl) ?_
      refine lv_iload_n hx hb dX0_play_56 rfl (lv_at hl 0 rfl) ?_
      refine goV (rnV C0 (c_turn0 l G t ac p1 p2 p3 p4 df da1 da2 da3 da4 da5 da6 da7 da8 dc (nI k)) lkX0_38 ⟨by decide, by decide⟩ (hP.sub (ws' := [(ac, .inr (0, [.ref df, .ref p1, .ref p2, .ref p3, .ref p4])), (df, .inr (5, [.int 0, .int 0, .int 0, .int 0, .int 0, .int 0, .long 0, .ref da1, .ref da2, .ref da3, .ref da4, .ref da5, .ref da6, .ref da7, .ref da8, .ref dc]))]) [0, 2] rfl) (hD.sub (ws' := [(ac, .inr (0, [.ref df, .ref p1, .ref p2, .ref p3, .ref p4])), (df, .inr (5, [.int 0, .int 0, .int 0, .int 0, .int 0, .int 0, .long 0, .ref da1, .ref da2, .ref da3, .ref da4, .ref da5, .ref da6, .ref da7, .ref da8, .ref dc]))]) [0, 2] (by decide) rfl) 0 0 rfl rfl rfl rfl hl.1 (rest := []) rfl (Nat.le_of_ble_eq_true rfl) dX0_play_57 ⟨by decide, by decide⟩) hP hD hS hA [0, 2] [1] (wr := [(p2, .inl (t 3, 60, .inl (fun _ => 0)))]) rfl rfl (by decide) (by decide) (fun u H locs h_9 hP hD hS => ?_)
      have hP : va_P G vwCl [(p2, .inl (t 3, 60, .inl (fun _ => 0))), (ac, .inr (0, [.ref df, .ref p1, .ref p2, .ref p3, .ref p4])), (df, .inr (5, [.int 0, .int 0, .int 0, .int 0, .int 0, .int 0, .long 0, .ref da1, .ref da2, .ref da3, .ref da4, .ref da5, .ref da6, .ref da7, .ref da8, .ref dc]))] H := hP
      have hD : va_D A [(p2, .inl (t 3, 60, .inl (fun _ => 0))), (ac, .inr (0, [.ref df, .ref p1, .ref p2, .ref p3, .ref p4])), (df, .inr (5, [.int 0, .int 0, .int 0, .int 0, .int 0, .int 0, .long 0, .ref da1, .ref da2, .ref da3, .ref da4, .ref da5, .ref da6, .ref da7, .ref da8, .ref dc]))] := hD
      refine W.widen (k := 0) (n := 0) (Nat.le_of_ble_eq_true rfl) (Nat.le_of_ble_eq_true rfl) ?_
      refine lv_iinc (v := (nI (k + 1))) (lv' := [(2, .int (nI (k + 1))), (0, .ref ac), (1, .ref df)]) hx hb dX0_play_60 hl (k := 0) rfl (nI_1 k) (by decide) rfl (fun ls hl => ?_)
      refine lv_goto (tgt := 47) hx hb dX0_play_63 (by decide) ?_
      exact ih (k + 1) (by omega) H locs ls (lv_sub hl [0, 1, 2] rfl) (hP.sub [1, 0, 2] rfl) (hD.sub [1, 0, 2] (by decide) rfl) hS
  exact LP_2 59 0 (by omega) _ _ _ hl hP hD hS

set_option maxHeartbeats 4000000 in
set_option maxRecDepth 100000 in
theorem x_hall (l : Launch) (G : va_G) (t : Nat → ClassId) (x : Nat) (tp : Nat) (rd : Nat) (im : Nat) (mk : Nat) (sl : Nat) (ac : Nat) (cl : Nat) (xhb : Nat) (rs : Nat) (sd : Nat) (cr : Nat) (xhl : Nat) (df : Nat) (tb : Nat) (p1 : Nat) (p2 : Nat) (p3 : Nat) (p4 : Nat) (da1 : Nat) (da2 : Nat) (da3 : Nat) (da4 : Nat) (da5 : Nat) (da6 : Nat) (da7 : Nat) (da8 : Nat) (dc : Nat) (db1 : Nat) (db2 : Nat) (db3 : Nat) (db4 : Nat) : Ct l G t yX11_hall cX11_hall 2 (some .int) ({ frames := 3, cells := 0, slots := 0, locals := 65 }) [.ref x] [(x, .inr (11, [.ref tp, .ref rd, .ref im, .ref mk, .ref sl, .ref ac, .ref cl, .ref xhb, .ref rs, .ref sd, .ref cr, .ref xhl, .ref df])), (tp, .inr (10, [.ref tb, .int 0])), (tb, .inl (t 0, 1400, .inl (fun _ => 0))), (rd, .inr (6, [.int 0, .int (-1), .ref tp, .ref df, .int 0, .int 0, .int 0, .int 0, .int 0, .int 0])), (ac, .inr (0, [.ref xhl, .ref p1, .ref p2, .ref p3, .ref p4])), (p2, .inl (t 3, 60, .inl (fun _ => 0))), (df, .inr (5, [.int 0, .int 0, .int 0, .int 0, .int 0, .int 0, .long 0, .ref da1, .ref da2, .ref da3, .ref da4, .ref da5, .ref da6, .ref da7, .ref da8, .ref dc])), (dc, .inr (1, [.int 0, .ref db1, .ref db2, .ref db3, .ref db4]))] (QI G (fun r (u : Unit) => r = 0) (fun (u : Unit) => [])) := by
  refine ent (by decide) (Nat.le_of_ble_eq_true rfl) ?_
  intro p e s m args below meth c hx hb hr hml hts hown hlocks hin A hA hK hO hP hD hS ls hl
  have hown : s.vm.findClass RX11 = some m.cls := hown
  have hl : lv_has ls 2 [(0, .ref x)] := hl
  have C0 : Cx p s m args c cX11_hall 2 RX11 G t := ⟨hx, hb, hml, hown, hts, hK, hO⟩
  refine lv_aload_n hx hb dX11_hall_0 rfl (lv_at hl 0 rfl) ?_
  refine gf hx hb hts hown hK hP 0 inT11 rfl rfl 1 (by decide) tw2_128 rfl dX11_hall_1 ?_
  refine lv_aload_n hx hb dX11_hall_4 rfl (lv_at hl 0 rfl) ?_
  refine gf hx hb hts hown hK hP 0 inT11 rfl rfl 12 (by decide) tw2_139 rfl dX11_hall_5 ?_
  refine goI (rnV C0 (c_tell0 l G t rd tp df tb da1 da2 da3 da4 da5 da6 da7 da8 dc db1 db2 db3 db4) lkX11_108 ⟨by decide, by decide⟩ (hP.sub (ws' := [(rd, .inr (6, [.int 0, .int (-1), .ref tp, .ref df, .int 0, .int 0, .int 0, .int 0, .int 0, .int 0])), (tp, .inr (10, [.ref tb, .int 0])), (tb, .inl (t 0, 1400, .inl (fun _ => 0))), (df, .inr (5, [.int 0, .int 0, .int 0, .int 0, .int 0, .int 0, .long 0, .ref da1, .ref da2, .ref da3, .ref da4, .ref da5, .ref da6, .ref da7, .ref da8, .ref dc])), (dc, .inr (1, [.int 0, .ref db1, .ref db2, .ref db3, .ref db4]))]) [3, 1, 2, 6, 7] rfl) (hD.sub (ws' := [(rd, .inr (6, [.int 0, .int (-1), .ref tp, .ref df, .int 0, .int 0, .int 0, .int 0, .int 0, .int 0])), (tp, .inr (10, [.ref tb, .int 0])), (tb, .inl (t 0, 1400, .inl (fun _ => 0))), (df, .inr (5, [.int 0, .int 0, .int 0, .int 0, .int 0, .int 0, .long 0, .ref da1, .ref da2, .ref da3, .ref da4, .ref da5, .ref da6, .ref da7, .ref da8, .ref dc])), (dc, .inr (1, [.int 0, .ref db1, .ref db2, .ref db3, .ref db4]))]) [3, 1, 2, 6, 7] (by decide) rfl) 0 6 rfl rfl rfl rfl hl.1 (rest := []) rfl (Nat.le_of_ble_eq_true rfl) dX11_hall_8 ⟨by decide, by decide⟩) hP hD hS hA [3, 1, 2, 6, 7] [0, 4, 5] (wr := [(x, .inr (11, [.ref tp, .ref rd, .ref im, .ref mk, .ref sl, .ref ac, .ref cl, .ref xhb, .ref rs, .ref sd, .ref cr, .ref xhl, .ref df])), (ac, .inr (0, [.ref xhl, .ref p1, .ref p2, .ref p3, .ref p4])), (p2, .inl (t 3, 60, .inl (fun _ => 0)))]) rfl rfl (by decide) (by decide) (fun r_1 u H locs h_2 hP hD hS => ?_)
  have hP : va_P G vwCl [(x, .inr (11, [.ref tp, .ref rd, .ref im, .ref mk, .ref sl, .ref ac, .ref cl, .ref xhb, .ref rs, .ref sd, .ref cr, .ref xhl, .ref df])), (ac, .inr (0, [.ref xhl, .ref p1, .ref p2, .ref p3, .ref p4])), (p2, .inl (t 3, 60, .inl (fun _ => 0))), (tp, .inr (10, [.ref tb, .int 0])), (tb, .inl (t 0, 1400, .inl (fun _ => 0))), (df, .inr (5, [.int 0, .int 0, .int 0, .int 0, .int 0, .int 0, .long 0, .ref da1, .ref da2, .ref da3, .ref da4, .ref da5, .ref da6, .ref da7, .ref da8, .ref dc])), (dc, .inr (1, [.int 0, .ref db1, .ref db2, .ref db3, .ref db4]))] H := hP
  have hD : va_D A [(x, .inr (11, [.ref tp, .ref rd, .ref im, .ref mk, .ref sl, .ref ac, .ref cl, .ref xhb, .ref rs, .ref sd, .ref cr, .ref xhl, .ref df])), (ac, .inr (0, [.ref xhl, .ref p1, .ref p2, .ref p3, .ref p4])), (p2, .inl (t 3, 60, .inl (fun _ => 0))), (tp, .inr (10, [.ref tb, .int 0])), (tb, .inl (t 0, 1400, .inl (fun _ => 0))), (df, .inr (5, [.int 0, .int 0, .int 0, .int 0, .int 0, .int 0, .long 0, .ref da1, .ref da2, .ref da3, .ref da4, .ref da5, .ref da6, .ref da7, .ref da8, .ref dc])), (dc, .inr (1, [.int 0, .ref db1, .ref db2, .ref db3, .ref db4]))] := hD
  refine W.widen (k := 0) (n := 0) (Nat.le_of_ble_eq_true rfl) (Nat.le_of_ble_eq_true rfl) ?_
  obtain rfl : r_1 = 1 := h_2
  refine lv_if_ne (tgt := 17) hx hb dX11_hall_11 (by decide) (fun _ => ?_) (fun c_3 => absurd c_3 (by decide))
  refine lv_aload_n hx hb dX11_hall_17 rfl (lv_at hl 0 rfl) ?_
  refine gf hx hb hts hown hK hP 0 inT11 rfl rfl 0 (by decide) tw2_127 rfl dX11_hall_18 ?_
  refine lv_iconst (v := 0) hx hb dX11_hall_21 (by decide) ?_
  refine pf hx hb hts hown hK hP hD hS 3 inT10 tyX10_ok nmX10 rfl rfl 1 (by decide) tw1_34 rfl rfl rfl (Nat.le_of_ble_eq_true rfl) dX11_hall_22 (ws' := [(x, .inr (11, [.ref tp, .ref rd, .ref im, .ref mk, .ref sl, .ref ac, .ref cl, .ref xhb, .ref rs, .ref sd, .ref cr, .ref xhl, .ref df])), (ac, .inr (0, [.ref xhl, .ref p1, .ref p2, .ref p3, .ref p4])), (p2, .inl (t 3, 60, .inl (fun _ => 0))), (tp, .inr (10, [.ref tb, .int 0])), (tb, .inl (t 0, 1400, .inl (fun _ => 0))), (df, .inr (5, [.int 0, .int 0, .int 0, .int 0, .int 0, .int 0, .long 0, .ref da1, .ref da2, .ref da3, .ref da4, .ref da5, .ref da6, .ref da7, .ref da8, .ref dc])), (dc, .inr (1, [.int 0, .ref db1, .ref db2, .ref db3, .ref db4]))]) rfl (fun H locs hP hD hS => ?_)
  refine lv_aload_n hx hb dX11_hall_25 rfl (lv_at hl 0 rfl) ?_
  refine gf hx hb hts hown hK hP 0 inT11 rfl rfl 12 (by decide) tw2_139 rfl dX11_hall_26 ?_
  refine lv_astore_n (lv' := [(1, .ref df), (0, .ref x)]) hx hb dX11_hall_29 rfl hl (by decide) rfl (fun ls hl => ?_)
  refine lv_aload_n hx hb dX11_hall_30 rfl (lv_at hl 1 rfl) ?_
  refine lv_aload_n hx hb dX11_hall_31 rfl (lv_at hl 1 rfl) ?_
  refine gf hx hb hts hown hK hP 0 inT11 rfl rfl 11 (by decide) tw2_138 rfl dX11_hall_32 ?_
  refine pf hx hb hts hown hK hP hD hS 0 inT11 tyX11_ok nmX11 rfl rfl 12 (by decide) tw2_139 rfl rfl rfl (Nat.le_of_ble_eq_true rfl) dX11_hall_35 (ws' := [(x, .inr (11, [.ref tp, .ref rd, .ref im, .ref mk, .ref sl, .ref ac, .ref cl, .ref xhb, .ref rs, .ref sd, .ref cr, .ref xhl, .ref xhl])), (ac, .inr (0, [.ref xhl, .ref p1, .ref p2, .ref p3, .ref p4])), (p2, .inl (t 3, 60, .inl (fun _ => 0))), (tp, .inr (10, [.ref tb, .int 0])), (tb, .inl (t 0, 1400, .inl (fun _ => 0))), (df, .inr (5, [.int 0, .int 0, .int 0, .int 0, .int 0, .int 0, .long 0, .ref da1, .ref da2, .ref da3, .ref da4, .ref da5, .ref da6, .ref da7, .ref da8, .ref dc])), (dc, .inr (1, [.int 0, .ref db1, .ref db2, .ref db3, .ref db4]))]) rfl (fun H locs hP hD hS => ?_)
  refine lv_aload_n hx hb dX11_hall_38 rfl (lv_at hl 1 rfl) ?_
  refine lv_aload_n hx hb dX11_hall_39 rfl (lv_at hl 0 rfl) ?_
  refine pf hx hb hts hown hK hP hD hS 0 inT11 tyX11_ok nmX11 rfl rfl 11 (by decide) tw2_138 rfl rfl rfl (Nat.le_of_ble_eq_true rfl) dX11_hall_40 (ws' := [(x, .inr (11, [.ref tp, .ref rd, .ref im, .ref mk, .ref sl, .ref ac, .ref cl, .ref xhb, .ref rs, .ref sd, .ref cr, .ref df, .ref xhl])), (ac, .inr (0, [.ref xhl, .ref p1, .ref p2, .ref p3, .ref p4])), (p2, .inl (t 3, 60, .inl (fun _ => 0))), (tp, .inr (10, [.ref tb, .int 0])), (tb, .inl (t 0, 1400, .inl (fun _ => 0))), (df, .inr (5, [.int 0, .int 0, .int 0, .int 0, .int 0, .int 0, .long 0, .ref da1, .ref da2, .ref da3, .ref da4, .ref da5, .ref da6, .ref da7, .ref da8, .ref dc])), (dc, .inr (1, [.int 0, .ref db1, .ref db2, .ref db3, .ref db4]))]) rfl (fun H locs hP hD hS => ?_)
  refine lv_aload_n hx hb dX11_hall_43 rfl (lv_at hl 1 rfl) ?_
  refine gf hx hb hts hown hK hP 0 inT11 rfl rfl 5 (by decide) tw2_132 rfl dX11_hall_44 ?_
  refine lv_aload_n hx hb dX11_hall_47 rfl (lv_at hl 1 rfl) ?_
  refine gf hx hb hts hown hK hP 0 inT11 rfl rfl 11 (by decide) tw2_138 rfl dX11_hall_48 ?_
  refine goV (rnV C0 (c_play0 l G t ac p1 p2 p3 p4 xhl df da1 da2 da3 da4 da5 da6 da7 da8 dc) lkX11_112 ⟨by decide, by decide⟩ (hP.sub (ws' := [(ac, .inr (0, [.ref xhl, .ref p1, .ref p2, .ref p3, .ref p4])), (p2, .inl (t 3, 60, .inl (fun _ => 0))), (df, .inr (5, [.int 0, .int 0, .int 0, .int 0, .int 0, .int 0, .long 0, .ref da1, .ref da2, .ref da3, .ref da4, .ref da5, .ref da6, .ref da7, .ref da8, .ref dc]))]) [1, 2, 5] rfl) (hD.sub (ws' := [(ac, .inr (0, [.ref xhl, .ref p1, .ref p2, .ref p3, .ref p4])), (p2, .inl (t 3, 60, .inl (fun _ => 0))), (df, .inr (5, [.int 0, .int 0, .int 0, .int 0, .int 0, .int 0, .long 0, .ref da1, .ref da2, .ref da3, .ref da4, .ref da5, .ref da6, .ref da7, .ref da8, .ref dc]))]) [1, 2, 5] (by decide) rfl) 0 0 rfl rfl rfl rfl hl.1 (rest := []) rfl (Nat.le_of_ble_eq_true rfl) dX11_hall_51 ⟨by decide, by decide⟩) hP hD hS hA [1, 2, 5] [0, 3, 4, 6] (wr := [(x, .inr (11, [.ref tp, .ref rd, .ref im, .ref mk, .ref sl, .ref ac, .ref cl, .ref xhb, .ref rs, .ref sd, .ref cr, .ref df, .ref xhl])), (tp, .inr (10, [.ref tb, .int 0])), (tb, .inl (t 0, 1400, .inl (fun _ => 0))), (dc, .inr (1, [.int 0, .ref db1, .ref db2, .ref db3, .ref db4]))]) rfl rfl (by decide) (by decide) (fun u H locs h_5 hP hD hS => ?_)
  have hP : va_P G vwCl [(x, .inr (11, [.ref tp, .ref rd, .ref im, .ref mk, .ref sl, .ref ac, .ref cl, .ref xhb, .ref rs, .ref sd, .ref cr, .ref df, .ref xhl])), (tp, .inr (10, [.ref tb, .int 0])), (tb, .inl (t 0, 1400, .inl (fun _ => 0))), (dc, .inr (1, [.int 0, .ref db1, .ref db2, .ref db3, .ref db4])), (ac, .inr (0, [.ref df, .ref p1, .ref p2, .ref p3, .ref p4])), (df, .inr (5, [.int 0, .int 0, .int 0, .int 0, .int 0, .int 0, .long 0, .ref da1, .ref da2, .ref da3, .ref da4, .ref da5, .ref da6, .ref da7, .ref da8, .ref dc]))] H := hP
  have hD : va_D A [(x, .inr (11, [.ref tp, .ref rd, .ref im, .ref mk, .ref sl, .ref ac, .ref cl, .ref xhb, .ref rs, .ref sd, .ref cr, .ref df, .ref xhl])), (tp, .inr (10, [.ref tb, .int 0])), (tb, .inl (t 0, 1400, .inl (fun _ => 0))), (dc, .inr (1, [.int 0, .ref db1, .ref db2, .ref db3, .ref db4])), (ac, .inr (0, [.ref df, .ref p1, .ref p2, .ref p3, .ref p4])), (df, .inr (5, [.int 0, .int 0, .int 0, .int 0, .int 0, .int 0, .long 0, .ref da1, .ref da2, .ref da3, .ref da4, .ref da5, .ref da6, .ref da7, .ref da8, .ref dc]))] := hD
  refine W.widen (k := 0) (n := 0) (Nat.le_of_ble_eq_true rfl) (Nat.le_of_ble_eq_true rfl) ?_
  refine lv_aload_n hx hb dX11_hall_54 rfl (lv_at hl 1 rfl) ?_
  refine gf hx hb hts hown hK hP 0 inT11 rfl rfl 11 (by decide) tw2_138 rfl dX11_hall_55 ?_
  refine gf hx hb hts hown hK hP 5 inT5 rfl rfl 0 (by decide) tw1_82 rfl dX11_hall_58 ?_
  refine W.widen (k := 0) (n := 0) (by decide) (by decide) ?_
  exact rtI hx hb hr hlocks hS () (rfl) (hP.sub [] rfl) (hD.sub [] (by decide) rfl) dX11_hall_61

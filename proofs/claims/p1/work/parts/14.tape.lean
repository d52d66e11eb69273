set_option maxHeartbeats 4000000 in
set_option maxRecDepth 100000 in
theorem c_hasRoom (l : Launch) (G : va_G) (t : Nat → ClassId) (tp : Nat) (tb : Nat) : Ct l G t yX10_hasRoom cX10_hasRoom 1 (some .boolean) ({ frames := 0, cells := 0, slots := 0, locals := 0 }) [.ref tp] [(tp, .inr (10, [.ref tb, .int 0]))] (QI G (fun r (u : Unit) => r = 1) (fun (u : Unit) => [(tp, .inr (10, [.ref tb, .int 0]))])) := by
  refine ent (by decide) (Nat.le_of_ble_eq_true rfl) ?_
  intro p e s m args below meth c hx hb hr hml hts hown hlocks hin A hA hK hO hP hD hS ls hl
  have hown : s.vm.findClass RX10 = some m.cls := hown
  have hl : lv_has ls 1 [(0, .ref tp)] := hl
  have C0 : Cx p s m args c cX10_hasRoom 1 RX10 G t := ⟨hx, hb, hml, hown, hts, hK, hO⟩
  refine lv_aload_n hx hb dX10_hasRoom_0 rfl (lv_at hl 0 rfl) ?_
  refine gf hx hb hts hown hK hP 0 inT10 rfl rfl 1 (by decide) tw1_33 rfl dX10_hasRoom_1 ?_
  refine lv_bipush (v := 20) hx hb dX10_hasRoom_4 (by decide) ?_
  refine lv_iadd hx hb dX10_hasRoom_6 (tpi (v := 20) (by decide) ?_)
  refine lv_sipush (v := 1400) hx hb dX10_hasRoom_7 (by decide) ?_
  refine lv_icmp_gt (tgt := 17) hx hb dX10_hasRoom_10 (by decide) (fun c_1 => absurd c_1 (by decide)) (fun _ => ?_)
  refine lv_iconst (v := 1) hx hb dX10_hasRoom_13 (by decide) ?_
  refine lv_goto (tgt := 18) hx hb dX10_hasRoom_14 (by decide) ?_
  refine W.widen (k := 0) (n := 0) (by decide) (by decide) ?_
  exact rtZ hx hb hr hlocks hS rfl () (rfl) (hP.sub [0] rfl) (hD.sub [0] (by decide) rfl) dX10_hasRoom_18

set_option maxHeartbeats 4000000 in
set_option maxRecDepth 100000 in
theorem c_add0 (l : Launch) (G : va_G) (t : Nat → ClassId) (tp : Nat) (tb : Nat) (f0 : Nat → Int32) (v0 : Int32) : Ct l G t yX10_add cX10_add 3 none ({ frames := 0, cells := 0, slots := 0, locals := 0 }) [.ref tp, .int v0] [(tp, .inr (10, [.ref tb, .int 0])), (tb, .inl (t 0, 1400, .inl f0))] (QV G (fun (u : (Nat → Int32)) => True) (fun (u : (Nat → Int32)) => [(tp, .inr (10, [.ref tb, .int 4])), (tb, .inl (t 0, 1400, .inl u))])) := by
  refine ent (by decide) (Nat.le_of_ble_eq_true rfl) ?_
  intro p e s m args below meth c hx hb hr hml hts hown hlocks hin A hA hK hO hP hD hS ls hl
  have hown : s.vm.findClass RX10 = some m.cls := hown
  have hl : lv_has ls 3 [(0, .ref tp), (1, .int v0)] := hl
  have C0 : Cx p s m args c cX10_add 3 RX10 G t := ⟨hx, hb, hml, hown, hts, hK, hO⟩
  refine lv_bipush (v := 24) hx hb dX10_add_0 (by decide) ?_
  refine lv_istore_n (lv' := [(2, .int 24), (0, .ref tp), (1, .int v0)]) hx hb dX10_add_2 rfl hl (by decide) rfl (fun ls hl => ?_)
  refine lv_iload_n hx hb dX10_add_3 rfl (lv_at hl 0 rfl) ?_
  refine lv_if_lt (tgt := 46) hx hb dX10_add_4 (by decide) (fun c_1 => absurd c_1 (by decide)) (fun _ => ?_)
  refine lv_aload_n hx hb dX10_add_7 rfl (lv_at hl 1 rfl) ?_
  refine gf hx hb hts hown hK hP 0 inT10 rfl rfl 1 (by decide) tw1_33 rfl dX10_add_8 ?_
  refine lv_sipush (v := 1400) hx hb dX10_add_11 (by decide) ?_
  refine lv_icmp_ge (tgt := 46) hx hb dX10_add_14 (by decide) (fun c_2 => absurd c_2 (by decide)) (fun _ => ?_)
  refine lv_aload_n hx hb dX10_add_17 rfl (lv_at hl 1 rfl) ?_
  refine gf hx hb hts hown hK hP 0 inT10 rfl rfl 0 (by decide) tw1_32 rfl dX10_add_18 ?_
  refine lv_aload_n hx hb dX10_add_21 rfl (lv_at hl 1 rfl) ?_
  refine gf hx hb hts hown hK hP 0 inT10 rfl rfl 1 (by decide) tw1_33 rfl dX10_add_22 ?_
  refine lv_iload_n hx hb dX10_add_25 rfl (lv_at hl 2 rfl) ?_
  refine lv_iload_n hx hb dX10_add_26 rfl (lv_at hl 0 rfl) ?_
  refine lv_ishr hx hb dX10_add_27 ?_
  refine lv_i2b (v := (v0 >>> (24 &&& 31)).toInt8.toInt32) hx hb dX10_add_28 (rfl) ?_
  obtain ⟨f_3, ef_3⟩ : ∃ z : Nat → Int32, z = upd f0 (0 : Int32).toNatClampNeg (vp_nar .byte (v0 >>> (24 &&& 31)).toInt8.toInt32) := ⟨_, rfl⟩
  refine stB hx hb hK hP hD hS 1 rfl (by unfold vp_in; decide) dX10_add_29 (f' := f_3) (ef_3.symm) (ws' := [(tp, .inr (10, [.ref tb, .int 0])), (tb, .inl (t 0, 1400, .inl f_3))]) rfl (fun H locs hP hD hS => ?_)
  refine lv_aload_n hx hb dX10_add_30 rfl (lv_at hl 1 rfl) ?_
  refine lv_dup hx hb dX10_add_31 rfl ?_
  refine gf hx hb hts hown hK hP 0 inT10 rfl rfl 1 (by decide) tw1_33 rfl dX10_add_32 ?_
  refine lv_iconst (v := 1) hx hb dX10_add_35 (by decide) ?_
  refine lv_iadd hx hb dX10_add_36 (tpi (v := 1) (by decide) ?_)
  refine pf hx hb hts hown hK hP hD hS 0 inT10 tyX10_ok nmX10 rfl rfl 1 (by decide) tw1_33 rfl rfl rfl (Nat.le_of_ble_eq_true rfl) dX10_add_37 (ws' := [(tp, .inr (10, [.ref tb, .int 1])), (tb, .inl (t 0, 1400, .inl f_3))]) rfl (fun H locs hP hD hS => ?_)
  refine lv_iinc (v := 16) (lv' := [(2, .int 16), (0, .ref tp), (1, .int v0)]) hx hb dX10_add_40 hl (k := 0) rfl (by decide) (by decide) rfl (fun ls hl => ?_)
  refine lv_goto (tgt := 3) hx hb dX10_add_43 (by decide) ?_
  refine lv_iload_n hx hb dX10_add_3 rfl (lv_at hl 0 rfl) ?_
  refine lv_if_lt (tgt := 46) hx hb dX10_add_4 (by decide) (fun c_4 => absurd c_4 (by decide)) (fun _ => ?_)
  refine lv_aload_n hx hb dX10_add_7 rfl (lv_at hl 1 rfl) ?_
  refine gf hx hb hts hown hK hP 0 inT10 rfl rfl 1 (by decide) tw1_33 rfl dX10_add_8 ?_
  refine lv_sipush (v := 1400) hx hb dX10_add_11 (by decide) ?_
  refine lv_icmp_ge (tgt := 46) hx hb dX10_add_14 (by decide) (fun c_5 => absurd c_5 (by decide)) (fun _ => ?_)
  refine lv_aload_n hx hb dX10_add_17 rfl (lv_at hl 1 rfl) ?_
  refine gf hx hb hts hown hK hP 0 inT10 rfl rfl 0 (by decide) tw1_32 rfl dX10_add_18 ?_
  refine lv_aload_n hx hb dX10_add_21 rfl (lv_at hl 1 rfl) ?_
  refine gf hx hb hts hown hK hP 0 inT10 rfl rfl 1 (by decide) tw1_33 rfl dX10_add_22 ?_
  refine lv_iload_n hx hb dX10_add_25 rfl (lv_at hl 2 rfl) ?_
  refine lv_iload_n hx hb dX10_add_26 rfl (lv_at hl 0 rfl) ?_
  refine lv_ishr hx hb dX10_add_27 ?_
  refine lv_i2b (v := (v0 >>> (16 &&& 31)).toInt8.toInt32) hx hb dX10_add_28 (rfl) ?_
  obtain ⟨f_6, ef_6⟩ : ∃ z : Nat → Int32, z = upd f_3 (1 : Int32).toNatClampNeg (vp_nar .byte (v0 >>> (16 &&& 31)).toInt8.toInt32) := ⟨_, rfl⟩
  refine stB hx hb hK hP hD hS 1 rfl (by unfold vp_in; decide) dX10_add_29 (f' := f_6) (ef_6.symm) (ws' := [(tp, .inr (10, [.ref tb, .int 1])), (tb, .inl (t 0, 1400, .inl f_6))]) rfl (fun H locs hP hD hS => ?_)
  refine lv_aload_n hx hb dX10_add_30 rfl (lv_at hl 1 rfl) ?_
  refine lv_dup hx hb dX10_add_31 rfl ?_
  refine gf hx hb hts hown hK hP 0 inT10 rfl rfl 1 (by decide) tw1_33 rfl dX10_add_32 ?_
  refine lv_iconst (v := 1) hx hb dX10_add_35 (by decide) ?_
  refine lv_iadd hx hb dX10_add_36 (tpi (v := 2) (by decide) ?_)
  refine pf hx hb hts hown hK hP hD hS 0 inT10 tyX10_ok nmX10 rfl rfl 1 (by decide) tw1_33 rfl rfl rfl (Nat.le_of_ble_eq_true rfl) dX10_add_37 (ws' := [(tp, .inr (10, [.ref tb, .int 2])), (tb, .inl (t 0, 1400, .inl f_6))]) rfl (fun H locs hP hD hS => ?_)
  refine lv_iinc (v := 8) (lv' := [(2, .int 8), (0, .ref tp), (1, .int v0)]) hx hb dX10_add_40 hl (k := 0) rfl (by decide) (by decide) rfl (fun ls hl => ?_)
  refine lv_goto (tgt := 3) hx hb dX10_add_43 (by decide) ?_
  refine lv_iload_n hx hb dX10_add_3 rfl (lv_at hl 0 rfl) ?_
  refine lv_if_lt (tgt := 46) hx hb dX10_add_4 (by decide) (fun c_7 => absurd c_7 (by decide)) (fun _ => ?_)
  refine lv_aload_n hx hb dX10_add_7 rfl (lv_at hl 1 rfl) ?_
  refine gf hx hb hts hown hK hP 0 inT10 rfl rfl 1 (by decide) tw1_33 rfl dX10_add_8 ?_
  refine lv_sipush (v := 1400) hx hb dX10_add_11 (by decide) ?_
  refine lv_icmp_ge (tgt := 46) hx hb dX10_add_14 (by decide) (fun c_8 => absurd c_8 (by decide)) (fun _ => ?_)
  refine lv_aload_n hx hb dX10_add_17 rfl (lv_at hl 1 rfl) ?_
  refine gf hx hb hts hown hK hP 0 inT10 rfl rfl 0 (by decide) tw1_32 rfl dX10_add_18 ?_
  refine lv_aload_n hx hb dX10_add_21 rfl (lv_at hl 1 rfl) ?_
  refine gf hx hb hts hown hK hP 0 inT10 rfl rfl 1 (by decide) tw1_33 rfl dX10_add_22 ?_
  refine lv_iload_n hx hb dX10_add_25 rfl (lv_at hl 2 rfl) ?_
  refine lv_iload_n hx hb dX10_add_26 rfl (lv_at hl 0 rfl) ?_
  refine lv_ishr hx hb dX10_add_27 ?_
  refine lv_i2b (v := (v0 >>> (8 &&& 31)).toInt8.toInt32) hx hb dX10_add_28 (rfl) ?_
  obtain ⟨f_9, ef_9⟩ : ∃ z : Nat → Int32, z = upd f_6 (2 : Int32).toNatClampNeg (vp_nar .byte (v0 >>> (8 &&& 31)).toInt8.toInt32) := ⟨_, rfl⟩
  refine stB hx hb hK hP hD hS 1 rfl (by unfold vp_in; decide) dX10_add_29 (f' := f_9) (ef_9.symm) (ws' := [(tp, .inr (10, [.ref tb, .int 2])), (tb, .inl (t 0, 1400, .inl f_9))]) rfl (fun H locs hP hD hS => ?_)
  refine lv_aload_n hx hb dX10_add_30 rfl (lv_at hl 1 rfl) ?_
  refine lv_dup hx hb dX10_add_31 rfl ?_
  refine gf hx hb hts hown hK hP 0 inT10 rfl rfl 1 (by decide) tw1_33 rfl dX10_add_32 ?_
  refine lv_iconst (v := 1) hx hb dX10_add_35 (by decide) ?_
  refine lv_iadd hx hb dX10_add_36 (tpi (v := 3) (by decide) ?_)
  refine pf hx hb hts hown hK hP hD hS 0 inT10 tyX10_ok nmX10 rfl rfl 1 (by decide) tw1_33 rfl rfl rfl (Nat.le_of_ble_eq_true rfl) dX10_add_37 (ws' := [(tp, .inr (10, [.ref tb, .int 3])), (tb, .inl (t 0, 1400, .inl f_9))]) rfl (fun H locs hP hD hS => ?_)
  refine lv_iinc (v := 0) (lv' := [(2, .int 0), (0, .ref tp), (1, .int v0)]) hx hb dX10_add_40 hl (k := 0) rfl (by decide) (by decide) rfl (fun ls hl => ?_)
  refine lv_goto (tgt := 3) hx hb dX10_add_43 (by decide) ?_
  refine lv_iload_n hx hb dX10_add_3 rfl (lv_at hl 0 rfl) ?_
  refine lv_if_lt (tgt := 46) hx hb dX10_add_4 (by decide) (fun c_10 => absurd c_10 (by decide)) (fun _ => ?_)
  refine lv_aload_n hx hb dX10_add_7 rfl (lv_at hl 1 rfl) ?_
  refine gf hx hb hts hown hK hP 0 inT10 rfl rfl 1 (by decide) tw1_33 rfl dX10_add_8 ?_
  refine lv_sipush (v := 1400) hx hb dX10_add_11 (by decide) ?_
  refine lv_icmp_ge (tgt := 46) hx hb dX10_add_14 (by decide) (fun c_11 => absurd c_11 (by decide)) (fun _ => ?_)
  refine lv_aload_n hx hb dX10_add_17 rfl (lv_at hl 1 rfl) ?_
  refine gf hx hb hts hown hK hP 0 inT10 rfl rfl 0 (by decide) tw1_32 rfl dX10_add_18 ?_
  refine lv_aload_n hx hb dX10_add_21 rfl (lv_at hl 1 rfl) ?_
  refine gf hx hb hts hown hK hP 0 inT10 rfl rfl 1 (by decide) tw1_33 rfl dX10_add_22 ?_
  refine lv_iload_n hx hb dX10_add_25 rfl (lv_at hl 2 rfl) ?_
  refine lv_iload_n hx hb dX10_add_26 rfl (lv_at hl 0 rfl) ?_
  refine lv_ishr hx hb dX10_add_27 ?_
  refine lv_i2b (v := (v0 >>> (0 &&& 31)).toInt8.toInt32) hx hb dX10_add_28 (rfl) ?_
  obtain ⟨f_12, ef_12⟩ : ∃ z : Nat → Int32, z = upd f_9 (3 : Int32).toNatClampNeg (vp_nar .byte (v0 >>> (0 &&& 31)).toInt8.toInt32) := ⟨_, rfl⟩
  refine stB hx hb hK hP hD hS 1 rfl (by unfold vp_in; decide) dX10_add_29 (f' := f_12) (ef_12.symm) (ws' := [(tp, .inr (10, [.ref tb, .int 3])), (tb, .inl (t 0, 1400, .inl f_12))]) rfl (fun H locs hP hD hS => ?_)
  refine lv_aload_n hx hb dX10_add_30 rfl (lv_at hl 1 rfl) ?_
  refine lv_dup hx hb dX10_add_31 rfl ?_
  refine gf hx hb hts hown hK hP 0 inT10 rfl rfl 1 (by decide) tw1_33 rfl dX10_add_32 ?_
  refine lv_iconst (v := 1) hx hb dX10_add_35 (by decide) ?_
  refine lv_iadd hx hb dX10_add_36 (tpi (v := 4) (by decide) ?_)
  refine pf hx hb hts hown hK hP hD hS 0 inT10 tyX10_ok nmX10 rfl rfl 1 (by decide) tw1_33 rfl rfl rfl (Nat.le_of_ble_eq_true rfl) dX10_add_37 (ws' := [(tp, .inr (10, [.ref tb, .int 4])), (tb, .inl (t 0, 1400, .inl f_12))]) rfl (fun H locs hP hD hS => ?_)
  refine lv_iinc (v := (-8)) (lv' := [(2, .int (-8)), (0, .ref tp), (1, .int v0)]) hx hb dX10_add_40 hl (k := 0) rfl (by decide) (by decide) rfl (fun ls hl => ?_)
  refine lv_goto (tgt := 3) hx hb dX10_add_43 (by decide) ?_
  refine lv_iload_n hx hb dX10_add_3 rfl (lv_at hl 0 rfl) ?_
  refine lv_if_lt (tgt := 46) hx hb dX10_add_4 (by decide) (fun _ => ?_) (fun c_13 => absurd (by decide) c_13)
  refine W.widen (k := 0) (n := 0) (by decide) (by decide) ?_
  exact rtV hx hb hr hlocks hS f_12 (trivial) (hP.sub [0, 1] rfl) (hD.sub [0, 1] (by decide) rfl) dX10_add_46

set_option maxHeartbeats 4000000 in
set_option maxRecDepth 100000 in
theorem c_add4 (l : Launch) (G : va_G) (t : Nat → ClassId) (tp : Nat) (tb : Nat) (f0 : Nat → Int32) (v0 : Int32) : Ct l G t yX10_add cX10_add 3 none ({ frames := 0, cells := 0, slots := 0, locals := 0 }) [.ref tp, .int v0] [(tp, .inr (10, [.ref tb, .int 4])), (tb, .inl (t 0, 1400, .inl f0))] (QV G (fun (u : (Nat → Int32)) => True) (fun (u : (Nat → Int32)) => [(tp, .inr (10, [.ref tb, .int 8])), (tb, .inl (t 0, 1400, .inl u))])) := by
  refine ent (by decide) (Nat.le_of_ble_eq_true rfl) ?_
  intro p e s m args below meth c hx hb hr hml hts hown hlocks hin A hA hK hO hP hD hS ls hl
  have hown : s.vm.findClass RX10 = some m.cls := hown
  have hl : lv_has ls 3 [(0, .ref tp), (1, .int v0)] := hl
  have C0 : Cx p s m args c cX10_add 3 RX10 G t := ⟨hx, hb, hml, hown, hts, hK, hO⟩
  refine lv_bipush (v := 24) hx hb dX10_add_0 (by decide) ?_
  refine lv_istore_n (lv' := [(2, .int 24), (0, .ref tp), (1, .int v0)]) hx hb dX10_add_2 rfl hl (by decide) rfl (fun ls hl => ?_)
  refine lv_iload_n hx hb dX10_add_3 rfl (lv_at hl 0 rfl) ?_
  refine lv_if_lt (tgt := 46) hx hb dX10_add_4 (by decide) (fun c_1 => absurd c_1 (by decide)) (fun _ => ?_)
  refine lv_aload_n hx hb dX10_add_7 rfl (lv_at hl 1 rfl) ?_
  refine gf hx hb hts hown hK hP 0 inT10 rfl rfl 1 (by decide) tw1_33 rfl dX10_add_8 ?_
  refine lv_sipush (v := 1400) hx hb dX10_add_11 (by decide) ?_
  refine lv_icmp_ge (tgt := 46) hx hb dX10_add_14 (by decide) (fun c_2 => absurd c_2 (by decide)) (fun _ => ?_)
  refine lv_aload_n hx hb dX10_add_17 rfl (lv_at hl 1 rfl) ?_
  refine gf hx hb hts hown hK hP 0 inT10 rfl rfl 0 (by decide) tw1_32 rfl dX10_add_18 ?_
  refine lv_aload_n hx hb dX10_add_21 rfl (lv_at hl 1 rfl) ?_
  refine gf hx hb hts hown hK hP 0 inT10 rfl rfl 1 (by decide) tw1_33 rfl dX10_add_22 ?_
  refine lv_iload_n hx hb dX10_add_25 rfl (lv_at hl 2 rfl) ?_
  refine lv_iload_n hx hb dX10_add_26 rfl (lv_at hl 0 rfl) ?_
  refine lv_ishr hx hb dX10_add_27 ?_
  refine lv_i2b (v := (v0 >>> (24 &&& 31)).toInt8.toInt32) hx hb dX10_add_28 (rfl) ?_
  obtain ⟨f_3, ef_3⟩ : ∃ z : Nat → Int32, z = upd f0 (4 : Int32).toNatClampNeg (vp_nar .byte (v0 >>> (24 &&& 31)).toInt8.toInt32) := ⟨_, rfl⟩
  refine stB hx hb hK hP hD hS 1 rfl (by unfold vp_in; decide) dX10_add_29 (f' := f_3) (ef_3.symm) (ws' := [(tp, .inr (10, [.ref tb, .int 4])), (tb, .inl (t 0, 1400, .inl f_3))]) rfl (fun H locs hP hD hS => ?_)
  refine lv_aload_n hx hb dX10_add_30 rfl (lv_at hl 1 rfl) ?_
  refine lv_dup hx hb dX10_add_31 rfl ?_
  refine gf hx hb hts hown hK hP 0 inT10 rfl rfl 1 (by decide) tw1_33 rfl dX10_add_32 ?_
  refine lv_iconst (v := 1) hx hb dX10_add_35 (by decide) ?_
  refine lv_iadd hx hb dX10_add_36 (tpi (v := 5) (by decide) ?_)
  refine pf hx hb hts hown hK hP hD hS 0 inT10 tyX10_ok nmX10 rfl rfl 1 (by decide) tw1_33 rfl rfl rfl (Nat.le_of_ble_eq_true rfl) dX10_add_37 (ws' := [(tp, .inr (10, [.ref tb, .int 5])), (tb, .inl (t 0, 1400, .inl f_3))]) rfl (fun H locs hP hD hS => ?_)
  refine lv_iinc (v := 16) (lv' := [(2, .int 16), (0, .ref tp), (1, .int v0)]) hx hb dX10_add_40 hl (k := 0) rfl (by decide) (by decide) rfl (fun ls hl => ?_)
  refine lv_goto (tgt := 3) hx hb dX10_add_43 (by decide) ?_
  refine lv_iload_n hx hb dX10_add_3 rfl (lv_at hl 0 rfl) ?_
  refine lv_if_lt (tgt := 46) hx hb dX10_add_4 (by decide) (fun c_4 => absurd c_4 (by decide)) (fun _ => ?_)
  refine lv_aload_n hx hb dX10_add_7 rfl (lv_at hl 1 rfl) ?_
  refine gf hx hb hts hown hK hP 0 inT10 rfl rfl 1 (by decide) tw1_33 rfl dX10_add_8 ?_
  refine lv_sipush (v := 1400) hx hb dX10_add_11 (by decide) ?_
  refine lv_icmp_ge (tgt := 46) hx hb dX10_add_14 (by decide) (fun c_5 => absurd c_5 (by decide)) (fun _ => ?_)
  refine lv_aload_n hx hb dX10_add_17 rfl (lv_at hl 1 rfl) ?_
  refine gf hx hb hts hown hK hP 0 inT10 rfl rfl 0 (by decide) tw1_32 rfl dX10_add_18 ?_
  refine lv_aload_n hx hb dX10_add_21 rfl (lv_at hl 1 rfl) ?_
  refine gf hx hb hts hown hK hP 0 inT10 rfl rfl 1 (by decide) tw1_33 rfl dX10_add_22 ?_
  refine lv_iload_n hx hb dX10_add_25 rfl (lv_at hl 2 rfl) ?_
  refine lv_iload_n hx hb dX10_add_26 rfl (lv_at hl 0 rfl) ?_
  refine lv_ishr hx hb dX10_add_27 ?_
  refine lv_i2b (v := (v0 >>> (16 &&& 31)).toInt8.toInt32) hx hb dX10_add_28 (rfl) ?_
  obtain ⟨f_6, ef_6⟩ : ∃ z : Nat → Int32, z = upd f_3 (5 : Int32).toNatClampNeg (vp_nar .byte (v0 >>> (16 &&& 31)).toInt8.toInt32) := ⟨_, rfl⟩
  refine stB hx hb hK hP hD hS 1 rfl (by unfold vp_in; decide) dX10_add_29 (f' := f_6) (ef_6.symm) (ws' := [(tp, .inr (10, [.ref tb, .int 5])), (tb, .inl (t 0, 1400, .inl f_6))]) rfl (fun H locs hP hD hS => ?_)
  refine lv_aload_n hx hb dX10_add_30 rfl (lv_at hl 1 rfl) ?_
  refine lv_dup hx hb dX10_add_31 rfl ?_
  refine gf hx hb hts hown hK hP 0 inT10 rfl rfl 1 (by decide) tw1_33 rfl dX10_add_32 ?_
  refine lv_iconst (v := 1) hx hb dX10_add_35 (by decide) ?_
  refine lv_iadd hx hb dX10_add_36 (tpi (v := 6) (by decide) ?_)
  refine pf hx hb hts hown hK hP hD hS 0 inT10 tyX10_ok nmX10 rfl rfl 1 (by decide) tw1_33 rfl rfl rfl (Nat.le_of_ble_eq_true rfl) dX10_add_37 (ws' := [(tp, .inr (10, [.ref tb, .int 6])), (tb, .inl (t 0, 1400, .inl f_6))]) rfl (fun H locs hP hD hS => ?_)
  refine lv_iinc (v := 8) (lv' := [(2, .int 8), (0, .ref tp), (1, .int v0)]) hx hb dX10_add_40 hl (k := 0) rfl (by decide) (by decide) rfl (fun ls hl => ?_)
  refine lv_goto (tgt := 3) hx hb dX10_add_43 (by decide) ?_
  refine lv_iload_n hx hb dX10_add_3 rfl (lv_at hl 0 rfl) ?_
  refine lv_if_lt (tgt := 46) hx hb dX10_add_4 (by decide) (fun c_7 => absurd c_7 (by decide)) (fun _ => ?_)
  refine lv_aload_n hx hb dX10_add_7 rfl (lv_at hl 1 rfl) ?_
  refine gf hx hb hts hown hK hP 0 inT10 rfl rfl 1 (by decide) tw1_33 rfl dX10_add_8 ?_
  refine lv_sipush (v := 1400) hx hb dX10_add_11 (by decide) ?_
  refine lv_icmp_ge (tgt := 46) hx hb dX10_add_14 (by decide) (fun c_8 => absurd c_8 (by decide)) (fun _ => ?_)
  refine lv_aload_n hx hb dX10_add_17 rfl (lv_at hl 1 rfl) ?_
  refine gf hx hb hts hown hK hP 0 inT10 rfl rfl 0 (by decide) tw1_32 rfl dX10_add_18 ?_
  refine lv_aload_n hx hb dX10_add_21 rfl (lv_at hl 1 rfl) ?_
  refine gf hx hb hts hown hK hP 0 inT10 rfl rfl 1 (by decide) tw1_33 rfl dX10_add_22 ?_
  refine lv_iload_n hx hb dX10_add_25 rfl (lv_at hl 2 rfl) ?_
  refine lv_iload_n hx hb dX10_add_26 rfl (lv_at hl 0 rfl) ?_
  refine lv_ishr hx hb dX10_add_27 ?_
  refine lv_i2b (v := (v0 >>> (8 &&& 31)).toInt8.toInt32) hx hb dX10_add_28 (rfl) ?_
  obtain ⟨f_9, ef_9⟩ : ∃ z : Nat → Int32, z = upd f_6 (6 : Int32).toNatClampNeg (vp_nar .byte (v0 >>> (8 &&& 31)).toInt8.toInt32) := ⟨_, rfl⟩
  refine stB hx hb hK hP hD hS 1 rfl (by unfold vp_in; decide) dX10_add_29 (f' := f_9) (ef_9.symm) (ws' := [(tp, .inr (10, [.ref tb, .int 6])), (tb, .inl (t 0, 1400, .inl f_9))]) rfl (fun H locs hP hD hS => ?_)
  refine lv_aload_n hx hb dX10_add_30 rfl (lv_at hl 1 rfl) ?_
  refine lv_dup hx hb dX10_add_31 rfl ?_
  refine gf hx hb hts hown hK hP 0 inT10 rfl rfl 1 (by decide) tw1_33 rfl dX10_add_32 ?_
  refine lv_iconst (v := 1) hx hb dX10_add_35 (by decide) ?_
  refine lv_iadd hx hb dX10_add_36 (tpi (v := 7) (by decide) ?_)
  refine pf hx hb hts hown hK hP hD hS 0 inT10 tyX10_ok nmX10 rfl rfl 1 (by decide) tw1_33 rfl rfl rfl (Nat.le_of_ble_eq_true rfl) dX10_add_37 (ws' := [(tp, .inr (10, [.ref tb, .int 7])), (tb, .inl (t 0, 1400, .inl f_9))]) rfl (fun H locs hP hD hS => ?_)
  refine lv_iinc (v := 0) (lv' := [(2, .int 0), (0, .ref tp), (1, .int v0)]) hx hb dX10_add_40 hl (k := 0) rfl (by decide) (by decide) rfl (fun ls hl => ?_)
  refine lv_goto (tgt := 3) hx hb dX10_add_43 (by decide) ?_
  refine lv_iload_n hx hb dX10_add_3 rfl (lv_at hl 0 rfl) ?_
  refine lv_if_lt (tgt := 46) hx hb dX10_add_4 (by decide) (fun c_10 => absurd c_10 (by decide)) (fun _ => ?_)
  refine lv_aload_n hx hb dX10_add_7 rfl (lv_at hl 1 rfl) ?_
  refine gf hx hb hts hown hK hP 0 inT10 rfl rfl 1 (by decide) tw1_33 rfl dX10_add_8 ?_
  refine lv_sipush (v := 1400) hx hb dX10_add_11 (by decide) ?_
  refine lv_icmp_ge (tgt := 46) hx hb dX10_add_14 (by decide) (fun c_11 => absurd c_11 (by decide)) (fun _ => ?_)
  refine lv_aload_n hx hb dX10_add_17 rfl (lv_at hl 1 rfl) ?_
  refine gf hx hb hts hown hK hP 0 inT10 rfl rfl 0 (by decide) tw1_32 rfl dX10_add_18 ?_
  refine lv_aload_n hx hb dX10_add_21 rfl (lv_at hl 1 rfl) ?_
  refine gf hx hb hts hown hK hP 0 inT10 rfl rfl 1 (by decide) tw1_33 rfl dX10_add_22 ?_
  refine lv_iload_n hx hb dX10_add_25 rfl (lv_at hl 2 rfl) ?_
  refine lv_iload_n hx hb dX10_add_26 rfl (lv_at hl 0 rfl) ?_
  refine lv_ishr hx hb dX10_add_27 ?_
  refine lv_i2b (v := (v0 >>> (0 &&& 31)).toInt8.toInt32) hx hb dX10_add_28 (rfl) ?_
  obtain ⟨f_12, ef_12⟩ : ∃ z : Nat → Int32, z = upd f_9 (7 : Int32).toNatClampNeg (vp_nar .byte (v0 >>> (0 &&& 31)).toInt8.toInt32) := ⟨_, rfl⟩
  refine stB hx hb hK hP hD hS 1 rfl (by unfold vp_in; decide) dX10_add_29 (f' := f_12) (ef_12.symm) (ws' := [(tp, .inr (10, [.ref tb, .int 7])), (tb, .inl (t 0, 1400, .inl f_12))]) rfl (fun H locs hP hD hS => ?_)
  refine lv_aload_n hx hb dX10_add_30 rfl (lv_at hl 1 rfl) ?_
  refine lv_dup hx hb dX10_add_31 rfl ?_
  refine gf hx hb hts hown hK hP 0 inT10 rfl rfl 1 (by decide) tw1_33 rfl dX10_add_32 ?_
  refine lv_iconst (v := 1) hx hb dX10_add_35 (by decide) ?_
  refine lv_iadd hx hb dX10_add_36 (tpi (v := 8) (by decide) ?_)
  refine pf hx hb hts hown hK hP hD hS 0 inT10 tyX10_ok nmX10 rfl rfl 1 (by decide) tw1_33 rfl rfl rfl (Nat.le_of_ble_eq_true rfl) dX10_add_37 (ws' := [(tp, .inr (10, [.ref tb, .int 8])), (tb, .inl (t 0, 1400, .inl f_12))]) rfl (fun H locs hP hD hS => ?_)
  refine lv_iinc (v := (-8)) (lv' := [(2, .int (-8)), (0, .ref tp), (1, .int v0)]) hx hb dX10_add_40 hl (k := 0) rfl (by decide) (by decide) rfl (fun ls hl => ?_)
  refine lv_goto (tgt := 3) hx hb dX10_add_43 (by decide) ?_
  refine lv_iload_n hx hb dX10_add_3 rfl (lv_at hl 0 rfl) ?_
  refine lv_if_lt (tgt := 46) hx hb dX10_add_4 (by decide) (fun _ => ?_) (fun c_13 => absurd (by decide) c_13)
  refine W.widen (k := 0) (n := 0) (by decide) (by decide) ?_
  exact rtV hx hb hr hlocks hS f_12 (trivial) (hP.sub [0, 1] rfl) (hD.sub [0, 1] (by decide) rfl) dX10_add_46

set_option maxHeartbeats 4000000 in
set_option maxRecDepth 100000 in
theorem c_add8 (l : Launch) (G : va_G) (t : Nat → ClassId) (tp : Nat) (tb : Nat) (f0 : Nat → Int32) (v0 : Int32) : Ct l G t yX10_add cX10_add 3 none ({ frames := 0, cells := 0, slots := 0, locals := 0 }) [.ref tp, .int v0] [(tp, .inr (10, [.ref tb, .int 8])), (tb, .inl (t 0, 1400, .inl f0))] (QV G (fun (u : (Nat → Int32)) => True) (fun (u : (Nat → Int32)) => [(tp, .inr (10, [.ref tb, .int 12])), (tb, .inl (t 0, 1400, .inl u))])) := by
  refine ent (by decide) (Nat.le_of_ble_eq_true rfl) ?_
  intro p e s m args below meth c hx hb hr hml hts hown hlocks hin A hA hK hO hP hD hS ls hl
  have hown : s.vm.findClass RX10 = some m.cls := hown
  have hl : lv_has ls 3 [(0, .ref tp), (1, .int v0)] := hl
  have C0 : Cx p s m args c cX10_add 3 RX10 G t := ⟨hx, hb, hml, hown, hts, hK, hO⟩
  refine lv_bipush (v := 24) hx hb dX10_add_0 (by decide) ?_
  refine lv_istore_n (lv' := [(2, .int 24), (0, .ref tp), (1, .int v0)]) hx hb dX10_add_2 rfl hl (by decide) rfl (fun ls hl => ?_)
  refine lv_iload_n hx hb dX10_add_3 rfl (lv_at hl 0 rfl) ?_
  refine lv_if_lt (tgt := 46) hx hb dX10_add_4 (by decide) (fun c_1 => absurd c_1 (by decide)) (fun _ => ?_)
  refine lv_aload_n hx hb dX10_add_7 rfl (lv_at hl 1 rfl) ?_
  refine gf hx hb hts hown hK hP 0 inT10 rfl rfl 1 (by decide) tw1_33 rfl dX10_add_8 ?_
  refine lv_sipush (v := 1400) hx hb dX10_add_11 (by decide) ?_
  refine lv_icmp_ge (tgt := 46) hx hb dX10_add_14 (by decide) (fun c_2 => absurd c_2 (by decide)) (fun _ => ?_)
  refine lv_aload_n hx hb dX10_add_17 rfl (lv_at hl 1 rfl) ?_
  refine gf hx hb hts hown hK hP 0 inT10 rfl rfl 0 (by decide) tw1_32 rfl dX10_add_18 ?_
  refine lv_aload_n hx hb dX10_add_21 rfl (lv_at hl 1 rfl) ?_
  refine gf hx hb hts hown hK hP 0 inT10 rfl rfl 1 (by decide) tw1_33 rfl dX10_add_22 ?_
  refine lv_iload_n hx hb dX10_add_25 rfl (lv_at hl 2 rfl) ?_
  refine lv_iload_n hx hb dX10_add_26 rfl (lv_at hl 0 rfl) ?_
  refine lv_ishr hx hb dX10_add_27 ?_
  refine lv_i2b (v := (v0 >>> (24 &&& 31)).toInt8.toInt32) hx hb dX10_add_28 (rfl) ?_
  obtain ⟨f_3, ef_3⟩ : ∃ z : Nat → Int32, z = upd f0 (8 : Int32).toNatClampNeg (vp_nar .byte (v0 >>> (24 &&& 31)).toInt8.toInt32) := ⟨_, rfl⟩
  refine stB hx hb hK hP hD hS 1 rfl (by unfold vp_in; decide) dX10_add_29 (f' := f_3) (ef_3.symm) (ws' := [(tp, .inr (10, [.ref tb, .int 8])), (tb, .inl (t 0, 1400, .inl f_3))]) rfl (fun H locs hP hD hS => ?_)
  refine lv_aload_n hx hb dX10_add_30 rfl (lv_at hl 1 rfl) ?_
  refine lv_dup hx hb dX10_add_31 rfl ?_
  refine gf hx hb hts hown hK hP 0 inT10 rfl rfl 1 (by decide) tw1_33 rfl dX10_add_32 ?_
  refine lv_iconst (v := 1) hx hb dX10_add_35 (by decide) ?_
  refine lv_iadd hx hb dX10_add_36 (tpi (v := 9) (by decide) ?_)
  refine pf hx hb hts hown hK hP hD hS 0 inT10 tyX10_ok nmX10 rfl rfl 1 (by decide) tw1_33 rfl rfl rfl (Nat.le_of_ble_eq_true rfl) dX10_add_37 (ws' := [(tp, .inr (10, [.ref tb, .int 9])), (tb, .inl (t 0, 1400, .inl f_3))]) rfl (fun H locs hP hD hS => ?_)
  refine lv_iinc (v := 16) (lv' := [(2, .int 16), (0, .ref tp), (1, .int v0)]) hx hb dX10_add_40 hl (k := 0) rfl (by decide) (by decide) rfl (fun ls hl => ?_)
  refine lv_goto (tgt := 3) hx hb dX10_add_43 (by decide) ?_
  refine lv_iload_n hx hb dX10_add_3 rfl (lv_at hl 0 rfl) ?_
  refine lv_if_lt (tgt := 46) hx hb dX10_add_4 (by decide) (fun c_4 => absurd c_4 (by decide)) (fun _ => ?_)
  refine lv_aload_n hx hb dX10_add_7 rfl (lv_at hl 1 rfl) ?_
  refine gf hx hb hts hown hK hP 0 inT10 rfl rfl 1 (by decide) tw1_33 rfl dX10_add_8 ?_
  refine lv_sipush (v := 1400) hx hb dX10_add_11 (by decide) ?_
  refine lv_icmp_ge (tgt := 46) hx hb dX10_add_14 (by decide) (fun c_5 => absurd c_5 (by decide)) (fun _ => ?_)
  refine lv_aload_n hx hb dX10_add_17 rfl (lv_at hl 1 rfl) ?_
  refine gf hx hb hts hown hK hP 0 inT10 rfl rfl 0 (by decide) tw1_32 rfl dX10_add_18 ?_
  refine lv_aload_n hx hb dX10_add_21 rfl (lv_at hl 1 rfl) ?_
  refine gf hx hb hts hown hK hP 0 inT10 rfl rfl 1 (by decide) tw1_33 rfl dX10_add_22 ?_
  refine lv_iload_n hx hb dX10_add_25 rfl (lv_at hl 2 rfl) ?_
  refine lv_iload_n hx hb dX10_add_26 rfl (lv_at hl 0 rfl) ?_
  refine lv_ishr hx hb dX10_add_27 ?_
  refine lv_i2b (v := (v0 >>> (16 &&& 31)).toInt8.toInt32) hx hb dX10_add_28 (rfl) ?_
  obtain ⟨f_6, ef_6⟩ : ∃ z : Nat → Int32, z = upd f_3 (9 : Int32).toNatClampNeg (vp_nar .byte (v0 >>> (16 &&& 31)).toInt8.toInt32) := ⟨_, rfl⟩
  refine stB hx hb hK hP hD hS 1 rfl (by unfold vp_in; decide) dX10_add_29 (f' := f_6) (ef_6.symm) (ws' := [(tp, .inr (10, [.ref tb, .int 9])), (tb, .inl (t 0, 1400, .inl f_6))]) rfl (fun H locs hP hD hS => ?_)
  refine lv_aload_n hx hb dX10_add_30 rfl (lv_at hl 1 rfl) ?_
  refine lv_dup hx hb dX10_add_31 rfl ?_
  refine gf hx hb hts hown hK hP 0 inT10 rfl rfl 1 (by decide) tw1_33 rfl dX10_add_32 ?_
  refine lv_iconst (v := 1) hx hb dX10_add_35 (by decide) ?_
  refine lv_iadd hx hb dX10_add_36 (tpi (v := 10) (by decide) ?_)
  refine pf hx hb hts hown hK hP hD hS 0 inT10 tyX10_ok nmX10 rfl rfl 1 (by decide) tw1_33 rfl rfl rfl (Nat.le_of_ble_eq_true rfl) dX10_add_37 (ws' := [(tp, .inr (10, [.ref tb, .int 10])), (tb, .inl (t 0, 1400, .inl f_6))]) rfl (fun H locs hP hD hS => ?_)
  refine lv_iinc (v := 8) (lv' := [(2, .int 8), (0, .ref tp), (1, .int v0)]) hx hb dX10_add_40 hl (k := 0) rfl (by decide) (by decide) rfl (fun ls hl => ?_)
  refine lv_goto (tgt := 3) hx hb dX10_add_43 (by decide) ?_
  refine lv_iload_n hx hb dX10_add_3 rfl (lv_at hl 0 rfl) ?_
  refine lv_if_lt (tgt := 46) hx hb dX10_add_4 (by decide) (fun c_7 => absurd c_7 (by decide)) (fun _ => ?_)
  refine lv_aload_n hx hb dX10_add_7 rfl (lv_at hl 1 rfl) ?_
  refine gf hx hb hts hown hK hP 0 inT10 rfl rfl 1 (by decide) tw1_33 rfl dX10_add_8 ?_
  refine lv_sipush (v := 1400) hx hb dX10_add_11 (by decide) ?_
  refine lv_icmp_ge (tgt := 46) hx hb dX10_add_14 (by decide) (fun c_8 => absurd c_8 (by decide)) (fun _ => ?_)
  refine lv_aload_n hx hb dX10_add_17 rfl (lv_at hl 1 rfl) ?_
  refine gf hx hb hts hown hK hP 0 inT10 rfl rfl 0 (by decide) tw1_32 rfl dX10_add_18 ?_
  refine lv_aload_n hx hb dX10_add_21 rfl (lv_at hl 1 rfl) ?_
  refine gf hx hb hts hown hK hP 0 inT10 rfl rfl 1 (by decide) tw1_33 rfl dX10_add_22 ?_
  refine lv_iload_n hx hb dX10_add_25 rfl (lv_at hl 2 rfl) ?_
  refine lv_iload_n hx hb dX10_add_26 rfl (lv_at hl 0 rfl) ?_
  refine lv_ishr hx hb dX10_add_27 ?_
  refine lv_i2b (v := (v0 >>> (8 &&& 31)).toInt8.toInt32) hx hb dX10_add_28 (rfl) ?_
  obtain ⟨f_9, ef_9⟩ : ∃ z : Nat → Int32, z = upd f_6 (10 : Int32).toNatClampNeg (vp_nar .byte (v0 >>> (8 &&& 31)).toInt8.toInt32) := ⟨_, rfl⟩
  refine stB hx hb hK hP hD hS 1 rfl (by unfold vp_in; decide) dX10_add_29 (f' := f_9) (ef_9.symm) (ws' := [(tp, .inr (10, [.ref tb, .int 10])), (tb, .inl (t 0, 1400, .inl f_9))]) rfl (fun H locs hP hD hS => ?_)
  refine lv_aload_n hx hb dX10_add_30 rfl (lv_at hl 1 rfl) ?_
  refine lv_dup hx hb dX10_add_31 rfl ?_
  refine gf hx hb hts hown hK hP 0 inT10 rfl rfl 1 (by decide) tw1_33 rfl dX10_add_32 ?_
  refine lv_iconst (v := 1) hx hb dX10_add_35 (by decide) ?_
  refine lv_iadd hx hb dX10_add_36 (tpi (v := 11) (by decide) ?_)
  refine pf hx hb hts hown hK hP hD hS 0 inT10 tyX10_ok nmX10 rfl rfl 1 (by decide) tw1_33 rfl rfl rfl (Nat.le_of_ble_eq_true rfl) dX10_add_37 (ws' := [(tp, .inr (10, [.ref tb, .int 11])), (tb, .inl (t 0, 1400, .inl f_9))]) rfl (fun H locs hP hD hS => ?_)
  refine lv_iinc (v := 0) (lv' := [(2, .int 0), (0, .ref tp), (1, .int v0)]) hx hb dX10_add_40 hl (k := 0) rfl (by decide) (by decide) rfl (fun ls hl => ?_)
  refine lv_goto (tgt := 3) hx hb dX10_add_43 (by decide) ?_
  refine lv_iload_n hx hb dX10_add_3 rfl (lv_at hl 0 rfl) ?_
  refine lv_if_lt (tgt := 46) hx hb dX10_add_4 (by decide) (fun c_10 => absurd c_10 (by decide)) (fun _ => ?_)
  refine lv_aload_n hx hb dX10_add_7 rfl (lv_at hl 1 rfl) ?_
  refine gf hx hb hts hown hK hP 0 inT10 rfl rfl 1 (by decide) tw1_33 rfl dX10_add_8 ?_
  refine lv_sipush (v := 1400) hx hb dX10_add_11 (by decide) ?_
  refine lv_icmp_ge (tgt := 46) hx hb dX10_add_14 (by decide) (fun c_11 => absurd c_11 (by decide)) (fun _ => ?_)
  refine lv_aload_n hx hb dX10_add_17 rfl (lv_at hl 1 rfl) ?_
  refine gf hx hb hts hown hK hP 0 inT10 rfl rfl 0 (by decide) tw1_32 rfl dX10_add_18 ?_
  refine lv_aload_n hx hb dX10_add_21 rfl (lv_at hl 1 rfl) ?_
  refine gf hx hb hts hown hK hP 0 inT10 rfl rfl 1 (by decide) tw1_33 rfl dX10_add_22 ?_
  refine lv_iload_n hx hb dX10_add_25 rfl (lv_at hl 2 rfl) ?_
  refine lv_iload_n hx hb dX10_add_26 rfl (lv_at hl 0 rfl) ?_
  refine lv_ishr hx hb dX10_add_27 ?_
  refine lv_i2b (v := (v0 >>> (0 &&& 31)).toInt8.toInt32) hx hb dX10_add_28 (rfl) ?_
  obtain ⟨f_12, ef_12⟩ : ∃ z : Nat → Int32, z = upd f_9 (11 : Int32).toNatClampNeg (vp_nar .byte (v0 >>> (0 &&& 31)).toInt8.toInt32) := ⟨_, rfl⟩
  refine stB hx hb hK hP hD hS 1 rfl (by unfold vp_in; decide) dX10_add_29 (f' := f_12) (ef_12.symm) (ws' := [(tp, .inr (10, [.ref tb, .int 11])), (tb, .inl (t 0, 1400, .inl f_12))]) rfl (fun H locs hP hD hS => ?_)
  refine lv_aload_n hx hb dX10_add_30 rfl (lv_at hl 1 rfl) ?_
  refine lv_dup hx hb dX10_add_31 rfl ?_
  refine gf hx hb hts hown hK hP 0 inT10 rfl rfl 1 (by decide) tw1_33 rfl dX10_add_32 ?_
  refine lv_iconst (v := 1) hx hb dX10_add_35 (by decide) ?_
  refine lv_iadd hx hb dX10_add_36 (tpi (v := 12) (by decide) ?_)
  refine pf hx hb hts hown hK hP hD hS 0 inT10 tyX10_ok nmX10 rfl rfl 1 (by decide) tw1_33 rfl rfl rfl (Nat.le_of_ble_eq_true rfl) dX10_add_37 (ws' := [(tp, .inr (10, [.ref tb, .int 12])), (tb, .inl (t 0, 1400, .inl f_12))]) rfl (fun H locs hP hD hS => ?_)
  refine lv_iinc (v := (-8)) (lv' := [(2, .int (-8)), (0, .ref tp), (1, .int v0)]) hx hb dX10_add_40 hl (k := 0) rfl (by decide) (by decide) rfl (fun ls hl => ?_)
  refine lv_goto (tgt := 3) hx hb dX10_add_43 (by decide) ?_
  refine lv_iload_n hx hb dX10_add_3 rfl (lv_at hl 0 rfl) ?_
  refine lv_if_lt (tgt := 46) hx hb dX10_add_4 (by decide) (fun _ => ?_) (fun c_13 => absurd (by decide) c_13)
  refine W.widen (k := 0) (n := 0) (by decide) (by decide) ?_
  exact rtV hx hb hr hlocks hS f_12 (trivial) (hP.sub [0, 1] rfl) (hD.sub [0, 1] (by decide) rfl) dX10_add_46

set_option maxHeartbeats 4000000 in
set_option maxRecDepth 100000 in
theorem c_add12 (l : Launch) (G : va_G) (t : Nat → ClassId) (tp : Nat) (tb : Nat) (f0 : Nat → Int32) (v0 : Int32) : Ct l G t yX10_add cX10_add 3 none ({ frames := 0, cells := 0, slots := 0, locals := 0 }) [.ref tp, .int v0] [(tp, .inr (10, [.ref tb, .int 12])), (tb, .inl (t 0, 1400, .inl f0))] (QV G (fun (u : (Nat → Int32)) => True) (fun (u : (Nat → Int32)) => [(tp, .inr (10, [.ref tb, .int 16])), (tb, .inl (t 0, 1400, .inl u))])) := by
  refine ent (by decide) (Nat.le_of_ble_eq_true rfl) ?_
  intro p e s m args below meth c hx hb hr hml hts hown hlocks hin A hA hK hO hP hD hS ls hl
  have hown : s.vm.findClass RX10 = some m.cls := hown
  have hl : lv_has ls 3 [(0, .ref tp), (1, .int v0)] := hl
  have C0 : Cx p s m args c cX10_add 3 RX10 G t := ⟨hx, hb, hml, hown, hts, hK, hO⟩
  refine lv_bipush (v := 24) hx hb dX10_add_0 (by decide) ?_
  refine lv_istore_n (lv' := [(2, .int 24), (0, .ref tp), (1, .int v0)]) hx hb dX10_add_2 rfl hl (by decide) rfl (fun ls hl => ?_)
  refine lv_iload_n hx hb dX10_add_3 rfl (lv_at hl 0 rfl) ?_
  refine lv_if_lt (tgt := 46) hx hb dX10_add_4 (by decide) (fun c_1 => absurd c_1 (by decide)) (fun _ => ?_)
  refine lv_aload_n hx hb dX10_add_7 rfl (lv_at hl 1 rfl) ?_
  refine gf hx hb hts hown hK hP 0 inT10 rfl rfl 1 (by decide) tw1_33 rfl dX10_add_8 ?_
  refine lv_sipush (v := 1400) hx hb dX10_add_11 (by decide) ?_
  refine lv_icmp_ge (tgt := 46) hx hb dX10_add_14 (by decide) (fun c_2 => absurd c_2 (by decide)) (fun _ => ?_)
  refine lv_aload_n hx hb dX10_add_17 rfl (lv_at hl 1 rfl) ?_
  refine gf hx hb hts hown hK hP 0 inT10 rfl rfl 0 (by decide) tw1_32 rfl dX10_add_18 ?_
  refine lv_aload_n hx hb dX10_add_21 rfl (lv_at hl 1 rfl) ?_
  refine gf hx hb hts hown hK hP 0 inT10 rfl rfl 1 (by decide) tw1_33 rfl dX10_add_22 ?_
  refine lv_iload_n hx hb dX10_add_25 rfl (lv_at hl 2 rfl) ?_
  refine lv_iload_n hx hb dX10_add_26 rfl (lv_at hl 0 rfl) ?_
  refine lv_ishr hx hb dX10_add_27 ?_
  refine lv_i2b (v := (v0 >>> (24 &&& 31)).toInt8.toInt32) hx hb dX10_add_28 (rfl) ?_
  obtain ⟨f_3, ef_3⟩ : ∃ z : Nat → Int32, z = upd f0 (12 : Int32).toNatClampNeg (vp_nar .byte (v0 >>> (24 &&& 31)).toInt8.toInt32) := ⟨_, rfl⟩
  refine stB hx hb hK hP hD hS 1 rfl (by unfold vp_in; decide) dX10_add_29 (f' := f_3) (ef_3.symm) (ws' := [(tp, .inr (10, [.ref tb, .int 12])), (tb, .inl (t 0, 1400, .inl f_3))]) rfl (fun H locs hP hD hS => ?_)
  refine lv_aload_n hx hb dX10_add_30 rfl (lv_at hl 1 rfl) ?_
  refine lv_dup hx hb dX10_add_31 rfl ?_
  refine gf hx hb hts hown hK hP 0 inT10 rfl rfl 1 (by decide) tw1_33 rfl dX10_add_32 ?_
  refine lv_iconst (v := 1) hx hb dX10_add_35 (by decide) ?_
  refine lv_iadd hx hb dX10_add_36 (tpi (v := 13) (by decide) ?_)
  refine pf hx hb hts hown hK hP hD hS 0 inT10 tyX10_ok nmX10 rfl rfl 1 (by decide) tw1_33 rfl rfl rfl (Nat.le_of_ble_eq_true rfl) dX10_add_37 (ws' := [(tp, .inr (10, [.ref tb, .int 13])), (tb, .inl (t 0, 1400, .inl f_3))]) rfl (fun H locs hP hD hS => ?_)
  refine lv_iinc (v := 16) (lv' := [(2, .int 16), (0, .ref tp), (1, .int v0)]) hx hb dX10_add_40 hl (k := 0) rfl (by decide) (by decide) rfl (fun ls hl => ?_)
  refine lv_goto (tgt := 3) hx hb dX10_add_43 (by decide) ?_
  refine lv_iload_n hx hb dX10_add_3 rfl (lv_at hl 0 rfl) ?_
  refine lv_if_lt (tgt := 46) hx hb dX10_add_4 (by decide) (fun c_4 => absurd c_4 (by decide)) (fun _ => ?_)
  refine lv_aload_n hx hb dX10_add_7 rfl (lv_at hl 1 rfl) ?_
  refine gf hx hb hts hown hK hP 0 inT10 rfl rfl 1 (by decide) tw1_33 rfl dX10_add_8 ?_
  refine lv_sipush (v := 1400) hx hb dX10_add_11 (by decide) ?_
  refine lv_icmp_ge (tgt := 46) hx hb dX10_add_14 (by decide) (fun c_5 => absurd c_5 (by decide)) (fun _ => ?_)
  refine lv_aload_n hx hb dX10_add_17 rfl (lv_at hl 1 rfl) ?_
  refine gf hx hb hts hown hK hP 0 inT10 rfl rfl 0 (by decide) tw1_32 rfl dX10_add_18 ?_
  refine lv_aload_n hx hb dX10_add_21 rfl (lv_at hl 1 rfl) ?_
  refine gf hx hb hts hown hK hP 0 inT10 rfl rfl 1 (by decide) tw1_33 rfl dX10_add_22 ?_
  refine lv_iload_n hx hb dX10_add_25 rfl (lv_at hl 2 rfl) ?_
  refine lv_iload_n hx hb dX10_add_26 rfl (lv_at hl 0 rfl) ?_
  refine lv_ishr hx hb dX10_add_27 ?_
  refine lv_i2b (v := (v0 >>> (16 &&& 31)).toInt8.toInt32) hx hb dX10_add_28 (rfl) ?_
  obtain ⟨f_6, ef_6⟩ : ∃ z : Nat → Int32, z = upd f_3 (13 : Int32).toNatClampNeg (vp_nar .byte (v0 >>> (16 &&& 31)).toInt8.toInt32) := ⟨_, rfl⟩
  refine stB hx hb hK hP hD hS 1 rfl (by unfold vp_in; decide) dX10_add_29 (f' := f_6) (ef_6.symm) (ws' := [(tp, .inr (10, [.ref tb, .int 13])), (tb, .inl (t 0, 1400, .inl f_6))]) rfl (fun H locs hP hD hS => ?_)
  refine lv_aload_n hx hb dX10_add_30 rfl (lv_at hl 1 rfl) ?_
  refine lv_dup hx hb dX10_add_31 rfl ?_
  refine gf hx hb hts hown hK hP 0 inT10 rfl rfl 1 (by decide) tw1_33 rfl dX10_add_32 ?_
  refine lv_iconst (v := 1) hx hb dX10_add_35 (by decide) ?_
  refine lv_iadd hx hb dX10_add_36 (tpi (v := 14) (by decide) ?_)
  refine pf hx hb hts hown hK hP hD hS 0 inT10 tyX10_ok nmX10 rfl rfl 1 (by decide) tw1_33 rfl rfl rfl (Nat.le_of_ble_eq_true rfl) dX10_add_37 (ws' := [(tp, .inr (10, [.ref tb, .int 14])), (tb, .inl (t 0, 1400, .inl f_6))]) rfl (fun H locs hP hD hS => ?_)
  refine lv_iinc (v := 8) (lv' := [(2, .int 8), (0, .ref tp), (1, .int v0)]) hx hb dX10_add_40 hl (k := 0) rfl (by decide) (by decide) rfl (fun ls hl => ?_)
  refine lv_goto (tgt := 3) hx hb dX10_add_43 (by decide) ?_
  refine lv_iload_n hx hb dX10_add_3 rfl (lv_at hl 0 rfl) ?_
  refine lv_if_lt (tgt := 46) hx hb dX10_add_4 (by decide) (fun c_7 => absurd c_7 (by decide)) (fun _ => ?_)
  refine lv_aload_n hx hb dX10_add_7 rfl (lv_at hl 1 rfl) ?_
  refine gf hx hb hts hown hK hP 0 inT10 rfl rfl 1 (by decide) tw1_33 rfl dX10_add_8 ?_
  refine lv_sipush (v := 1400) hx hb dX10_add_11 (by decide) ?_
  refine lv_icmp_ge (tgt := 46) hx hb dX10_add_14 (by decide) (fun c_8 => absurd c_8 (by decide)) (fun _ => ?_)
  refine lv_aload_n hx hb dX10_add_17 rfl (lv_at hl 1 rfl) ?_
  refine gf hx hb hts hown hK hP 0 inT10 rfl rfl 0 (by decide) tw1_32 rfl dX10_add_18 ?_
  refine lv_aload_n hx hb dX10_add_21 rfl (lv_at hl 1 rfl) ?_
  refine gf hx hb hts hown hK hP 0 inT10 rfl rfl 1 (by decide) tw1_33 rfl dX10_add_22 ?_
  refine lv_iload_n hx hb dX10_add_25 rfl (lv_at hl 2 rfl) ?_
  refine lv_iload_n hx hb dX10_add_26 rfl (lv_at hl 0 rfl) ?_
  refine lv_ishr hx hb dX10_add_27 ?_
  refine lv_i2b (v := (v0 >>> (8 &&& 31)).toInt8.toInt32) hx hb dX10_add_28 (rfl) ?_
  obtain ⟨f_9, ef_9⟩ : ∃ z : Nat → Int32, z = upd f_6 (14 : Int32).toNatClampNeg (vp_nar .byte (v0 >>> (8 &&& 31)).toInt8.toInt32) := ⟨_, rfl⟩
  refine stB hx hb hK hP hD hS 1 rfl (by unfold vp_in; decide) dX10_add_29 (f' := f_9) (ef_9.symm) (ws' := [(tp, .inr (10, [.ref tb, .int 14])), (tb, .inl (t 0, 1400, .inl f_9))]) rfl (fun H locs hP hD hS => ?_)
  refine lv_aload_n hx hb dX10_add_30 rfl (lv_at hl 1 rfl) ?_
  refine lv_dup hx hb dX10_add_31 rfl ?_
  refine gf hx hb hts hown hK hP 0 inT10 rfl rfl 1 (by decide) tw1_33 rfl dX10_add_32 ?_
  refine lv_iconst (v := 1) hx hb dX10_add_35 (by decide) ?_
  refine lv_iadd hx hb dX10_add_36 (tpi (v := 15) (by decide) ?_)
  refine pf hx hb hts hown hK hP hD hS 0 inT10 tyX10_ok nmX10 rfl rfl 1 (by decide) tw1_33 rfl rfl rfl (Nat.le_of_ble_eq_true rfl) dX10_add_37 (ws' := [(tp, .inr (10, [.ref tb, .int 15])), (tb, .inl (t 0, 1400, .inl f_9))]) rfl (fun H locs hP hD hS => ?_)
  refine lv_iinc (v := 0) (lv' := [(2, .int 0), (0, .ref tp), (1, .int v0)]) hx hb dX10_add_40 hl (k := 0) rfl (by decide) (by decide) rfl (fun ls hl => ?_)
  refine lv_goto (tgt := 3) hx hb dX10_add_43 (by decide) ?_
  refine lv_iload_n hx hb dX10_add_3 rfl (lv_at hl 0 rfl) ?_
  refine lv_if_lt (tgt := 46) hx hb dX10_add_4 (by decide) (fun c_10 => absurd c_10 (by decide)) (fun _ => ?_)
  refine lv_aload_n hx hb dX10_add_7 rfl (lv_at hl 1 rfl) ?_
  refine gf hx hb hts hown hK hP 0 inT10 rfl rfl 1 (by decide) tw1_33 rfl dX10_add_8 ?_
  refine lv_sipush (v := 1400) hx hb dX10_add_11 (by decide) ?_
  refine lv_icmp_ge (tgt := 46) hx hb dX10_add_14 (by decide) (fun c_11 => absurd c_11 (by decide)) (fun _ => ?_)
  refine lv_aload_n hx hb dX10_add_17 rfl (lv_at hl 1 rfl) ?_
  refine gf hx hb hts hown hK hP 0 inT10 rfl rfl 0 (by decide) tw1_32 rfl dX10_add_18 ?_
  refine lv_aload_n hx hb dX10_add_21 rfl (lv_at hl 1 rfl) ?_
  refine gf hx hb hts hown hK hP 0 inT10 rfl rfl 1 (by decide) tw1_33 rfl dX10_add_22 ?_
  refine lv_iload_n hx hb dX10_add_25 rfl (lv_at hl 2 rfl) ?_
  refine lv_iload_n hx hb dX10_add_26 rfl (lv_at hl 0 rfl) ?_
  refine lv_ishr hx hb dX10_add_27 ?_
  refine lv_i2b (v := (v0 >>> (0 &&& 31)).toInt8.toInt32) hx hb dX10_add_28 (rfl) ?_
  obtain ⟨f_12, ef_12⟩ : ∃ z : Nat → Int32, z = upd f_9 (15 : Int32).toNatClampNeg (vp_nar .byte (v0 >>> (0 &&& 31)).toInt8.toInt32) := ⟨_, rfl⟩
  refine stB hx hb hK hP hD hS 1 rfl (by unfold vp_in; decide) dX10_add_29 (f' := f_12) (ef_12.symm) (ws' := [(tp, .inr (10, [.ref tb, .int 15])), (tb, .inl (t 0, 1400, .inl f_12))]) rfl (fun H locs hP hD hS => ?_)
  refine lv_aload_n hx hb dX10_add_30 rfl (lv_at hl 1 rfl) ?_
  refine lv_dup hx hb dX10_add_31 rfl ?_
  refine gf hx hb hts hown hK hP 0 inT10 rfl rfl 1 (by decide) tw1_33 rfl dX10_add_32 ?_
  refine lv_iconst (v := 1) hx hb dX10_add_35 (by decide) ?_
  refine lv_iadd hx hb dX10_add_36 (tpi (v := 16) (by decide) ?_)
  refine pf hx hb hts hown hK hP hD hS 0 inT10 tyX10_ok nmX10 rfl rfl 1 (by decide) tw1_33 rfl rfl rfl (Nat.le_of_ble_eq_true rfl) dX10_add_37 (ws' := [(tp, .inr (10, [.ref tb, .int 16])), (tb, .inl (t 0, 1400, .inl f_12))]) rfl (fun H locs hP hD hS => ?_)
  refine lv_iinc (v := (-8)) (lv' := [(2, .int (-8)), (0, .ref tp), (1, .int v0)]) hx hb dX10_add_40 hl (k := 0) rfl (by decide) (by decide) rfl (fun ls hl => ?_)
  refine lv_goto (tgt := 3) hx hb dX10_add_43 (by decide) ?_
  refine lv_iload_n hx hb dX10_add_3 rfl (lv_at hl 0 rfl) ?_
  refine lv_if_lt (tgt := 46) hx hb dX10_add_4 (by decide) (fun _ => ?_) (fun c_13 => absurd (by decide) c_13)
  refine W.widen (k := 0) (n := 0) (by decide) (by decide) ?_
  exact rtV hx hb hr hlocks hS f_12 (trivial) (hP.sub [0, 1] rfl) (hD.sub [0, 1] (by decide) rfl) dX10_add_46

set_option maxHeartbeats 4000000 in
set_option maxRecDepth 100000 in
theorem c_add16 (l : Launch) (G : va_G) (t : Nat → ClassId) (tp : Nat) (tb : Nat) (f0 : Nat → Int32) (v0 : Int32) : Ct l G t yX10_add cX10_add 3 none ({ frames := 0, cells := 0, slots := 0, locals := 0 }) [.ref tp, .int v0] [(tp, .inr (10, [.ref tb, .int 16])), (tb, .inl (t 0, 1400, .inl f0))] (QV G (fun (u : (Nat → Int32)) => True) (fun (u : (Nat → Int32)) => [(tp, .inr (10, [.ref tb, .int 20])), (tb, .inl (t 0, 1400, .inl u))])) := by
  refine ent (by decide) (Nat.le_of_ble_eq_true rfl) ?_
  intro p e s m args below meth c hx hb hr hml hts hown hlocks hin A hA hK hO hP hD hS ls hl
  have hown : s.vm.findClass RX10 = some m.cls := hown
  have hl : lv_has ls 3 [(0, .ref tp), (1, .int v0)] := hl
  have C0 : Cx p s m args c cX10_add 3 RX10 G t := ⟨hx, hb, hml, hown, hts, hK, hO⟩
  refine lv_bipush (v := 24) hx hb dX10_add_0 (by decide) ?_
  refine lv_istore_n (lv' := [(2, .int 24), (0, .ref tp), (1, .int v0)]) hx hb dX10_add_2 rfl hl (by decide) rfl (fun ls hl => ?_)
  refine lv_iload_n hx hb dX10_add_3 rfl (lv_at hl 0 rfl) ?_
  refine lv_if_lt (tgt := 46) hx hb dX10_add_4 (by decide) (fun c_1 => absurd c_1 (by decide)) (fun _ => ?_)
  refine lv_aload_n hx hb dX10_add_7 rfl (lv_at hl 1 rfl) ?_
  refine gf hx hb hts hown hK hP 0 inT10 rfl rfl 1 (by decide) tw1_33 rfl dX10_add_8 ?_
  refine lv_sipush (v := 1400) hx hb dX10_add_11 (by decide) ?_
  refine lv_icmp_ge (tgt := 46) hx hb dX10_add_14 (by decide) (fun c_2 => absurd c_2 (by decide)) (fun _ => ?_)
  refine lv_aload_n hx hb dX10_add_17 rfl (lv_at hl 1 rfl) ?_
  refine gf hx hb hts hown hK hP 0 inT10 rfl rfl 0 (by decide) tw1_32 rfl dX10_add_18 ?_
  refine lv_aload_n hx hb dX10_add_21 rfl (lv_at hl 1 rfl) ?_
  refine gf hx hb hts hown hK hP 0 inT10 rfl rfl 1 (by decide) tw1_33 rfl dX10_add_22 ?_
  refine lv_iload_n hx hb dX10_add_25 rfl (lv_at hl 2 rfl) ?_
  refine lv_iload_n hx hb dX10_add_26 rfl (lv_at hl 0 rfl) ?_
  refine lv_ishr hx hb dX10_add_27 ?_
  refine lv_i2b (v := (v0 >>> (24 &&& 31)).toInt8.toInt32) hx hb dX10_add_28 (rfl) ?_
  obtain ⟨f_3, ef_3⟩ : ∃ z : Nat → Int32, z = upd f0 (16 : Int32).toNatClampNeg (vp_nar .byte (v0 >>> (24 &&& 31)).toInt8.toInt32) := ⟨_, rfl⟩
  refine stB hx hb hK hP hD hS 1 rfl (by unfold vp_in; decide) dX10_add_29 (f' := f_3) (ef_3.symm) (ws' := [(tp, .inr (10, [.ref tb, .int 16])), (tb, .inl (t 0, 1400, .inl f_3))]) rfl (fun H locs hP hD hS => ?_)
  refine lv_aload_n hx hb dX10_add_30 rfl (lv_at hl 1 rfl) ?_
  refine lv_dup hx hb dX10_add_31 rfl ?_
  refine gf hx hb hts hown hK hP 0 inT10 rfl rfl 1 (by decide) tw1_33 rfl dX10_add_32 ?_
  refine lv_iconst (v := 1) hx hb dX10_add_35 (by decide) ?_
  refine lv_iadd hx hb dX10_add_36 (tpi (v := 17) (by decide) ?_)
  refine pf hx hb hts hown hK hP hD hS 0 inT10 tyX10_ok nmX10 rfl rfl 1 (by decide) tw1_33 rfl rfl rfl (Nat.le_of_ble_eq_true rfl) dX10_add_37 (ws' := [(tp, .inr (10, [.ref tb, .int 17])), (tb, .inl (t 0, 1400, .inl f_3))]) rfl (fun H locs hP hD hS => ?_)
  refine lv_iinc (v := 16) (lv' := [(2, .int 16), (0, .ref tp), (1, .int v0)]) hx hb dX10_add_40 hl (k := 0) rfl (by decide) (by decide) rfl (fun ls hl => ?_)
  refine lv_goto (tgt := 3) hx hb dX10_add_43 (by decide) ?_
  refine lv_iload_n hx hb dX10_add_3 rfl (lv_at hl 0 rfl) ?_
  refine lv_if_lt (tgt := 46) hx hb dX10_add_4 (by decide) (fun c_4 => absurd c_4 (by decide)) (fun _ => ?_)
  refine lv_aload_n hx hb dX10_add_7 rfl (lv_at hl 1 rfl) ?_
  refine gf hx hb hts hown hK hP 0 inT10 rfl rfl 1 (by decide) tw1_33 rfl dX10_add_8 ?_
  refine lv_sipush (v := 1400) hx hb dX10_add_11 (by decide) ?_
  refine lv_icmp_ge (tgt := 46) hx hb dX10_add_14 (by decide) (fun c_5 => absurd c_5 (by decide)) (fun _ => ?_)
  refine lv_aload_n hx hb dX10_add_17 rfl (lv_at hl 1 rfl) ?_
  refine gf hx hb hts hown hK hP 0 inT10 rfl rfl 0 (by decide) tw1_32 rfl dX10_add_18 ?_
  refine lv_aload_n hx hb dX10_add_21 rfl (lv_at hl 1 rfl) ?_
  refine gf hx hb hts hown hK hP 0 inT10 rfl rfl 1 (by decide) tw1_33 rfl dX10_add_22 ?_
  refine lv_iload_n hx hb dX10_add_25 rfl (lv_at hl 2 rfl) ?_
  refine lv_iload_n hx hb dX10_add_26 rfl (lv_at hl 0 rfl) ?_
  refine lv_ishr hx hb dX10_add_27 ?_
  refine lv_i2b (v := (v0 >>> (16 &&& 31)).toInt8.toInt32) hx hb dX10_add_28 (rfl) ?_
  obtain ⟨f_6, ef_6⟩ : ∃ z : Nat → Int32, z = upd f_3 (17 : Int32).toNatClampNeg (vp_nar .byte (v0 >>> (16 &&& 31)).toInt8.toInt32) := ⟨_, rfl⟩
  refine stB hx hb hK hP hD hS 1 rfl (by unfold vp_in; decide) dX10_add_29 (f' := f_6) (ef_6.symm) (ws' := [(tp, .inr (10, [.ref tb, .int 17])), (tb, .inl (t 0, 1400, .inl f_6))]) rfl (fun H locs hP hD hS => ?_)
  refine lv_aload_n hx hb dX10_add_30 rfl (lv_at hl 1 rfl) ?_
  refine lv_dup hx hb dX10_add_31 rfl ?_
  refine gf hx hb hts hown hK hP 0 inT10 rfl rfl 1 (by decide) tw1_33 rfl dX10_add_32 ?_
  refine lv_iconst (v := 1) hx hb dX10_add_35 (by decide) ?_
  refine lv_iadd hx hb dX10_add_36 (tpi (v := 18) (by decide) ?_)
  refine pf hx hb hts hown hK hP hD hS 0 inT10 tyX10_ok nmX10 rfl rfl 1 (by decide) tw1_33 rfl rfl rfl (Nat.le_of_ble_eq_true rfl) dX10_add_37 (ws' := [(tp, .inr (10, [.ref tb, .int 18])), (tb, .inl (t 0, 1400, .inl f_6))]) rfl (fun H locs hP hD hS => ?_)
  refine lv_iinc (v := 8) (lv' := [(2, .int 8), (0, .ref tp), (1, .int v0)]) hx hb dX10_add_40 hl (k := 0) rfl (by decide) (by decide) rfl (fun ls hl => ?_)
  refine lv_goto (tgt := 3) hx hb dX10_add_43 (by decide) ?_
  refine lv_iload_n hx hb dX10_add_3 rfl (lv_at hl 0 rfl) ?_
  refine lv_if_lt (tgt := 46) hx hb dX10_add_4 (by decide) (fun c_7 => absurd c_7 (by decide)) (fun _ => ?_)
  refine lv_aload_n hx hb dX10_add_7 rfl (lv_at hl 1 rfl) ?_
  refine gf hx hb hts hown hK hP 0 inT10 rfl rfl 1 (by decide) tw1_33 rfl dX10_add_8 ?_
  refine lv_sipush (v := 1400) hx hb dX10_add_11 (by decide) ?_
  refine lv_icmp_ge (tgt := 46) hx hb dX10_add_14 (by decide) (fun c_8 => absurd c_8 (by decide)) (fun _ => ?_)
  refine lv_aload_n hx hb dX10_add_17 rfl (lv_at hl 1 rfl) ?_
  refine gf hx hb hts hown hK hP 0 inT10 rfl rfl 0 (by decide) tw1_32 rfl dX10_add_18 ?_
  refine lv_aload_n hx hb dX10_add_21 rfl (lv_at hl 1 rfl) ?_
  refine gf hx hb hts hown hK hP 0 inT10 rfl rfl 1 (by decide) tw1_33 rfl dX10_add_22 ?_
  refine lv_iload_n hx hb dX10_add_25 rfl (lv_at hl 2 rfl) ?_
  refine lv_iload_n hx hb dX10_add_26 rfl (lv_at hl 0 rfl) ?_
  refine lv_ishr hx hb dX10_add_27 ?_
  refine lv_i2b (v := (v0 >>> (8 &&& 31)).toInt8.toInt32) hx hb dX10_add_28 (rfl) ?_
  obtain ⟨f_9, ef_9⟩ : ∃ z : Nat → Int32, z = upd f_6 (18 : Int32).toNatClampNeg (vp_nar .byte (v0 >>> (8 &&& 31)).toInt8.toInt32) := ⟨_, rfl⟩
  refine stB hx hb hK hP hD hS 1 rfl (by unfold vp_in; decide) dX10_add_29 (f' := f_9) (ef_9.symm) (ws' := [(tp, .inr (10, [.ref tb, .int 18])), (tb, .inl (t 0, 1400, .inl f_9))]) rfl (fun H locs hP hD hS => ?_)
  refine lv_aload_n hx hb dX10_add_30 rfl (lv_at hl 1 rfl) ?_
  refine lv_dup hx hb dX10_add_31 rfl ?_
  refine gf hx hb hts hown hK hP 0 inT10 rfl rfl 1 (by decide) tw1_33 rfl dX10_add_32 ?_
  refine lv_iconst (v := 1) hx hb dX10_add_35 (by decide) ?_
  refine lv_iadd hx hb dX10_add_36 (tpi (v := 19) (by decide) ?_)
  refine pf hx hb hts hown hK hP hD hS 0 inT10 tyX10_ok nmX10 rfl rfl 1 (by decide) tw1_33 rfl rfl rfl (Nat.le_of_ble_eq_true rfl) dX10_add_37 (ws' := [(tp, .inr (10, [.ref tb, .int 19])), (tb, .inl (t 0, 1400, .inl f_9))]) rfl (fun H locs hP hD hS => ?_)
  refine lv_iinc (v := 0) (lv' := [(2, .int 0), (0, .ref tp), (1, .int v0)]) hx hb dX10_add_40 hl (k := 0) rfl (by decide) (by decide) rfl (fun ls hl => ?_)
  refine lv_goto (tgt := 3) hx hb dX10_add_43 (by decide) ?_
  refine lv_iload_n hx hb dX10_add_3 rfl (lv_at hl 0 rfl) ?_
  refine lv_if_lt (tgt := 46) hx hb dX10_add_4 (by decide) (fun c_10 => absurd c_10 (by decide)) (fun _ => ?_)
  refine lv_aload_n hx hb dX10_add_7 rfl (lv_at hl 1 rfl) ?_
  refine gf hx hb hts hown hK hP 0 inT10 rfl rfl 1 (by decide) tw1_33 rfl dX10_add_8 ?_
  refine lv_sipush (v := 1400) hx hb dX10_add_11 (by decide) ?_
  refine lv_icmp_ge (tgt := 46) hx hb dX10_add_14 (by decide) (fun c_11 => absurd c_11 (by decide)) (fun _ => ?_)
  refine lv_aload_n hx hb dX10_add_17 rfl (lv_at hl 1 rfl) ?_
  refine gf hx hb hts hown hK hP 0 inT10 rfl rfl 0 (by decide) tw1_32 rfl dX10_add_18 ?_
  refine lv_aload_n hx hb dX10_add_21 rfl (lv_at hl 1 rfl) ?_
  refine gf hx hb hts hown hK hP 0 inT10 rfl rfl 1 (by decide) tw1_33 rfl dX10_add_22 ?_
  refine lv_iload_n hx hb dX10_add_25 rfl (lv_at hl 2 rfl) ?_
  refine lv_iload_n hx hb dX10_add_26 rfl (lv_at hl 0 rfl) ?_
  refine lv_ishr hx hb dX10_add_27 ?_
  refine lv_i2b (v := (v0 >>> (0 &&& 31)).toInt8.toInt32) hx hb dX10_add_28 (rfl) ?_
  obtain ⟨f_12, ef_12⟩ : ∃ z : Nat → Int32, z = upd f_9 (19 : Int32).toNatClampNeg (vp_nar .byte (v0 >>> (0 &&& 31)).toInt8.toInt32) := ⟨_, rfl⟩
  refine stB hx hb hK hP hD hS 1 rfl (by unfold vp_in; decide) dX10_add_29 (f' := f_12) (ef_12.symm) (ws' := [(tp, .inr (10, [.ref tb, .int 19])), (tb, .inl (t 0, 1400, .inl f_12))]) rfl (fun H locs hP hD hS => ?_)
  refine lv_aload_n hx hb dX10_add_30 rfl (lv_at hl 1 rfl) ?_
  refine lv_dup hx hb dX10_add_31 rfl ?_
  refine gf hx hb hts hown hK hP 0 inT10 rfl rfl 1 (by decide) tw1_33 rfl dX10_add_32 ?_
  refine lv_iconst (v := 1) hx hb dX10_add_35 (by decide) ?_
  refine lv_iadd hx hb dX10_add_36 (tpi (v := 20) (by decide) ?_)
  refine pf hx hb hts hown hK hP hD hS 0 inT10 tyX10_ok nmX10 rfl rfl 1 (by decide) tw1_33 rfl rfl rfl (Nat.le_of_ble_eq_true rfl) dX10_add_37 (ws' := [(tp, .inr (10, [.ref tb, .int 20])), (tb, .inl (t 0, 1400, .inl f_12))]) rfl (fun H locs hP hD hS => ?_)
  refine lv_iinc (v := (-8)) (lv' := [(2, .int (-8)), (0, .ref tp), (1, .int v0)]) hx hb dX10_add_40 hl (k := 0) rfl (by decide) (by decide) rfl (fun ls hl => ?_)
  refine lv_goto (tgt := 3) hx hb dX10_add_43 (by decide) ?_
  refine lv_iload_n hx hb dX10_add_3 rfl (lv_at hl 0 rfl) ?_
  refine lv_if_lt (tgt := 46) hx hb dX10_add_4 (by decide) (fun _ => ?_) (fun c_13 => absurd (by decide) c_13)
  refine W.widen (k := 0) (n := 0) (by decide) (by decide) ?_
  exact rtV hx hb hr hlocks hS f_12 (trivial) (hP.sub [0, 1] rfl) (hD.sub [0, 1] (by decide) rfl) dX10_add_46

set_option maxHeartbeats 4000000 in
set_option maxRecDepth 100000 in
theorem x_feed (l : Launch) (G : va_G) (t : Nat → ClassId) (x : Nat) (tp : Nat) (rd : Nat) (im : Nat) (mk : Nat) (sl : Nat) (ac : Nat) (cl : Nat) (xhb : Nat) (rs : Nat) (sd : Nat) (cr : Nat) (xhl : Nat) (df : Nat) (tb : Nat) (a0 : Int32) (b0 : Int32) (c0 : Int32) (d0 : Int32) (e0 : Int32) : Ct l G t yX11_feed cX11_feed 6 (some .int) ({ frames := 1, cells := 0, slots := 0, locals := 22 }) [.ref x, .int a0, .int b0, .int c0, .int d0, .int e0] [(x, .inr (11, [.ref tp, .ref rd, .ref im, .ref mk, .ref sl, .ref ac, .ref cl, .ref xhb, .ref rs, .ref sd, .ref cr, .ref xhl, .ref df])), (tp, .inr (10, [.ref tb, .int 0])), (tb, .inl (t 0, 1400, .inl (fun _ => 0)))] (QI G (fun r (u : Unit) => r = 20) (fun (u : Unit) => [])) := by
  refine ent (by decide) (Nat.le_of_ble_eq_true rfl) ?_
  intro p e s m args below meth c hx hb hr hml hts hown hlocks hin A hA hK hO hP hD hS ls hl
  have hown : s.vm.findClass RX11 = some m.cls := hown
  have hl : lv_has ls 6 [(0, .ref x), (1, .int a0), (2, .int b0), (3, .int c0), (4, .int d0), (5, .int e0)] := hl
  have C0 : Cx p s m args c cX11_feed 6 RX11 G t := ⟨hx, hb, hml, hown, hts, hK, hO⟩
  refine lv_aload_n hx hb dX11_feed_0 rfl (lv_at hl 0 rfl) ?_
  refine gf hx hb hts hown hK hP 0 inT11 rfl rfl 0 (by decide) tw2_127 rfl dX11_feed_1 ?_
  refine goI (rnV C0 (c_hasRoom l G t tp tb) lkX11_96 ⟨by decide, by decide⟩ (hP.sub (ws' := [(tp, .inr (10, [.ref tb, .int 0]))]) [1] rfl) (hD.sub (ws' := [(tp, .inr (10, [.ref tb, .int 0]))]) [1] (by decide) rfl) 0 10 rfl rfl rfl rfl hl.1 (rest := []) rfl (Nat.le_of_ble_eq_true rfl) dX11_feed_4 ⟨by decide, by decide⟩) hP hD hS hA [1] [0, 2] (wr := [(x, .inr (11, [.ref tp, .ref rd, .ref im, .ref mk, .ref sl, .ref ac, .ref cl, .ref xhb, .ref rs, .ref sd, .ref cr, .ref xhl, .ref df])), (tb, .inl (t 0, 1400, .inl (fun _ => 0)))]) rfl rfl (by decide) (by decide) (fun r_1 u H locs h_2 hP hD hS => ?_)
  have hP : va_P G vwCl [(x, .inr (11, [.ref tp, .ref rd, .ref im, .ref mk, .ref sl, .ref ac, .ref cl, .ref xhb, .ref rs, .ref sd, .ref cr, .ref xhl, .ref df])), (tb, .inl (t 0, 1400, .inl (fun _ => 0))), (tp, .inr (10, [.ref tb, .int 0]))] H := hP
  have hD : va_D A [(x, .inr (11, [.ref tp, .ref rd, .ref im, .ref mk, .ref sl, .ref ac, .ref cl, .ref xhb, .ref rs, .ref sd, .ref cr, .ref xhl, .ref df])), (tb, .inl (t 0, 1400, .inl (fun _ => 0))), (tp, .inr (10, [.ref tb, .int 0]))] := hD
  refine W.widen (k := 0) (n := 0) (Nat.le_of_ble_eq_true rfl) (Nat.le_of_ble_eq_true rfl) ?_
  obtain rfl : r_1 = 1 := h_2
  refine lv_if_ne (tgt := 12) hx hb dX11_feed_7 (by decide) (fun _ => ?_) (fun c_3 => absurd c_3 (by decide))
  refine lv_aload_n hx hb dX11_feed_12 rfl (lv_at hl 0 rfl) ?_
  refine gf hx hb hts hown hK hP 0 inT11 rfl rfl 0 (by decide) tw2_127 rfl dX11_feed_13 ?_
  refine lv_iload_n hx hb dX11_feed_16 rfl (lv_at hl 1 rfl) ?_
  refine goV (rnV C0 (c_add0 l G t tp tb (fun _ => 0) a0) lkX11_100 ⟨by decide, by decide⟩ (hP.sub (ws' := [(tp, .inr (10, [.ref tb, .int 0])), (tb, .inl (t 0, 1400, .inl (fun _ => 0)))]) [2, 1] rfl) (hD.sub (ws' := [(tp, .inr (10, [.ref tb, .int 0])), (tb, .inl (t 0, 1400, .inl (fun _ => 0)))]) [2, 1] (by decide) rfl) 0 10 rfl rfl rfl rfl hl.1 (rest := []) rfl (Nat.le_of_ble_eq_true rfl) dX11_feed_17 ⟨by decide, by decide⟩) hP hD hS hA [2, 1] [0] (wr := [(x, .inr (11, [.ref tp, .ref rd, .ref im, .ref mk, .ref sl, .ref ac, .ref cl, .ref xhb, .ref rs, .ref sd, .ref cr, .ref xhl, .ref df]))]) rfl rfl (by decide) (by decide) (fun u H locs h_5 hP hD hS => ?_)
  obtain ⟨u_6, eu_6⟩ : ∃ z, z = u := ⟨_, rfl⟩
  subst eu_6
  have hP : va_P G vwCl [(x, .inr (11, [.ref tp, .ref rd, .ref im, .ref mk, .ref sl, .ref ac, .ref cl, .ref xhb, .ref rs, .ref sd, .ref cr, .ref xhl, .ref df])), (tp, .inr (10, [.ref tb, .int 4])), (tb, .inl (t 0, 1400, .inl u_6))] H := hP
  have hD : va_D A [(x, .inr (11, [.ref tp, .ref rd, .ref im, .ref mk, .ref sl, .ref ac, .ref cl, .ref xhb, .ref rs, .ref sd, .ref cr, .ref xhl, .ref df])), (tp, .inr (10, [.ref tb, .int 4])), (tb, .inl (t 0, 1400, .inl u_6))] := hD
  refine W.widen (k := 0) (n := 0) (Nat.le_of_ble_eq_true rfl) (Nat.le_of_ble_eq_true rfl) ?_
  refine lv_aload_n hx hb dX11_feed_20 rfl (lv_at hl 0 rfl) ?_
  refine gf hx hb hts hown hK hP 0 inT11 rfl rfl 0 (by decide) tw2_127 rfl dX11_feed_21 ?_
  refine lv_iload_n hx hb dX11_feed_24 rfl (lv_at hl 2 rfl) ?_
  refine goV (rnV C0 (c_add4 l G t tp tb u_6 b0) lkX11_100 ⟨by decide, by decide⟩ (hP.sub (ws' := [(tp, .inr (10, [.ref tb, .int 4])), (tb, .inl (t 0, 1400, .inl u_6))]) [1, 2] rfl) (hD.sub (ws' := [(tp, .inr (10, [.ref tb, .int 4])), (tb, .inl (t 0, 1400, .inl u_6))]) [1, 2] (by decide) rfl) 0 10 rfl rfl rfl rfl hl.1 (rest := []) rfl (Nat.le_of_ble_eq_true rfl) dX11_feed_25 ⟨by decide, by decide⟩) hP hD hS hA [1, 2] [0] (wr := [(x, .inr (11, [.ref tp, .ref rd, .ref im, .ref mk, .ref sl, .ref ac, .ref cl, .ref xhb, .ref rs, .ref sd, .ref cr, .ref xhl, .ref df]))]) rfl rfl (by decide) (by decide) (fun u H locs h_8 hP hD hS => ?_)
  obtain ⟨u_9, eu_9⟩ : ∃ z, z = u := ⟨_, rfl⟩
  subst eu_9
  have hP : va_P G vwCl [(x, .inr (11, [.ref tp, .ref rd, .ref im, .ref mk, .ref sl, .ref ac, .ref cl, .ref xhb, .ref rs, .ref sd, .ref cr, .ref xhl, .ref df])), (tp, .inr (10, [.ref tb, .int 8])), (tb, .inl (t 0, 1400, .inl u_9))] H := hP
  have hD : va_D A [(x, .inr (11, [.ref tp, .ref rd, .ref im, .ref mk, .ref sl, .ref ac, .ref cl, .ref xhb, .ref rs, .ref sd, .ref cr, .ref xhl, .ref df])), (tp, .inr (10, [.ref tb, .int 8])), (tb, .inl (t 0, 1400, .inl u_9))] := hD
  refine W.widen (k := 0) (n := 0) (Nat.le_of_ble_eq_true rfl) (Nat.le_of_ble_eq_true rfl) ?_
  refine lv_aload_n hx hb dX11_feed_28 rfl (lv_at hl 0 rfl) ?_
  refine gf hx hb hts hown hK hP 0 inT11 rfl rfl 0 (by decide) tw2_127 rfl dX11_feed_29 ?_
  refine lv_iload_n hx hb dX11_feed_32 rfl (lv_at hl 3 rfl) ?_
  refine goV (rnV C0 (c_add8 l G t tp tb u_9 c0) lkX11_100 ⟨by decide, by decide⟩ (hP.sub (ws' := [(tp, .inr (10, [.ref tb, .int 8])), (tb, .inl (t 0, 1400, .inl u_9))]) [1, 2] rfl) (hD.sub (ws' := [(tp, .inr (10, [.ref tb, .int 8])), (tb, .inl (t 0, 1400, .inl u_9))]) [1, 2] (by decide) rfl) 0 10 rfl rfl rfl rfl hl.1 (rest := []) rfl (Nat.le_of_ble_eq_true rfl) dX11_feed_33 ⟨by decide, by decide⟩) hP hD hS hA [1, 2] [0] (wr := [(x, .inr (11, [.ref tp, .ref rd, .ref im, .ref mk, .ref sl, .ref ac, .ref cl, .ref xhb, .ref rs, .ref sd, .ref cr, .ref xhl, .ref df]))]) rfl rfl (by decide) (by decide) (fun u H locs h_11 hP hD hS => ?_)
  obtain ⟨u_12, eu_12⟩ : ∃ z, z = u := ⟨_, rfl⟩
  subst eu_12
  have hP : va_P G vwCl [(x, .inr (11, [.ref tp, .ref rd, .ref im, .ref mk, .ref sl, .ref ac, .ref cl, .ref xhb, .ref rs, .ref sd, .ref cr, .ref xhl, .ref df])), (tp, .inr (10, [.ref tb, .int 12])), (tb, .inl (t 0, 1400, .inl u_12))] H := hP
  have hD : va_D A [(x, .inr (11, [.ref tp, .ref rd, .ref im, .ref mk, .ref sl, .ref ac, .ref cl, .ref xhb, .ref rs, .ref sd, .ref cr, .ref xhl, .ref df])), (tp, .inr (10, [.ref tb, .int 12])), (tb, .inl (t 0, 1400, .inl u_12))] := hD
  refine W.widen (k := 0) (n := 0) (Nat.le_of_ble_eq_true rfl) (Nat.le_of_ble_eq_true rfl) ?_
  refine lv_aload_n hx hb dX11_feed_36 rfl (lv_at hl 0 rfl) ?_
  refine gf hx hb hts hown hK hP 0 inT11 rfl rfl 0 (by decide) tw2_127 rfl dX11_feed_37 ?_
  refine lv_iload hx hb dX11_feed_40 (lv_at hl 4 rfl) ?_
  refine goV (rnV C0 (c_add12 l G t tp tb u_12 d0) lkX11_100 ⟨by decide, by decide⟩ (hP.sub (ws' := [(tp, .inr (10, [.ref tb, .int 12])), (tb, .inl (t 0, 1400, .inl u_12))]) [1, 2] rfl) (hD.sub (ws' := [(tp, .inr (10, [.ref tb, .int 12])), (tb, .inl (t 0, 1400, .inl u_12))]) [1, 2] (by decide) rfl) 0 10 rfl rfl rfl rfl hl.1 (rest := []) rfl (Nat.le_of_ble_eq_true rfl) dX11_feed_42 ⟨by decide, by decide⟩) hP hD hS hA [1, 2] [0] (wr := [(x, .inr (11, [.ref tp, .ref rd, .ref im, .ref mk, .ref sl, .ref ac, .ref cl, .ref xhb, .ref rs, .ref sd, .ref cr, .ref xhl, .ref df]))]) rfl rfl (by decide) (by decide) (fun u H locs h_14 hP hD hS => ?_)
  obtain ⟨u_15, eu_15⟩ : ∃ z, z = u := ⟨_, rfl⟩
  subst eu_15
  have hP : va_P G vwCl [(x, .inr (11, [.ref tp, .ref rd, .ref im, .ref mk, .ref sl, .ref ac, .ref cl, .ref xhb, .ref rs, .ref sd, .ref cr, .ref xhl, .ref df])), (tp, .inr (10, [.ref tb, .int 16])), (tb, .inl (t 0, 1400, .inl u_15))] H := hP
  have hD : va_D A [(x, .inr (11, [.ref tp, .ref rd, .ref im, .ref mk, .ref sl, .ref ac, .ref cl, .ref xhb, .ref rs, .ref sd, .ref cr, .ref xhl, .ref df])), (tp, .inr (10, [.ref tb, .int 16])), (tb, .inl (t 0, 1400, .inl u_15))] := hD
  refine W.widen (k := 0) (n := 0) (Nat.le_of_ble_eq_true rfl) (Nat.le_of_ble_eq_true rfl) ?_
  refine lv_aload_n hx hb dX11_feed_45 rfl (lv_at hl 0 rfl) ?_
  refine gf hx hb hts hown hK hP 0 inT11 rfl rfl 0 (by decide) tw2_127 rfl dX11_feed_46 ?_
  refine lv_iload hx hb dX11_feed_49 (lv_at hl 5 rfl) ?_
  refine goV (rnV C0 (c_add16 l G t tp tb u_15 e0) lkX11_100 ⟨by decide, by decide⟩ (hP.sub (ws' := [(tp, .inr (10, [.ref tb, .int 16])), (tb, .inl (t 0, 1400, .inl u_15))]) [1, 2] rfl) (hD.sub (ws' := [(tp, .inr (10, [.ref tb, .int 16])), (tb, .inl (t 0, 1400, .inl u_15))]) [1, 2] (by decide) rfl) 0 10 rfl rfl rfl rfl hl.1 (rest := []) rfl (Nat.le_of_ble_eq_true rfl) dX11_feed_51 ⟨by decide, by decide⟩) hP hD hS hA [1, 2] [0] (wr := [(x, .inr (11, [.ref tp, .ref rd, .ref im, .ref mk, .ref sl, .ref ac, .ref cl, .ref xhb, .ref rs, .ref sd, .ref cr, .ref xhl, .ref df]))]) rfl rfl (by decide) (by decide) (fun u H locs h_17 hP hD hS => ?_)
  obtain ⟨u_18, eu_18⟩ : ∃ z, z = u := ⟨_, rfl⟩
  subst eu_18
  have hP : va_P G vwCl [(x, .inr (11, [.ref tp, .ref rd, .ref im, .ref mk, .ref sl, .ref ac, .ref cl, .ref xhb, .ref rs, .ref sd, .ref cr, .ref xhl, .ref df])), (tp, .inr (10, [.ref tb, .int 20])), (tb, .inl (t 0, 1400, .inl u_18))] H := hP
  have hD : va_D A [(x, .inr (11, [.ref tp, .ref rd, .ref im, .ref mk, .ref sl, .ref ac, .ref cl, .ref xhb, .ref rs, .ref sd, .ref cr, .ref xhl, .ref df])), (tp, .inr (10, [.ref tb, .int 20])), (tb, .inl (t 0, 1400, .inl u_18))] := hD
  refine W.widen (k := 0) (n := 0) (Nat.le_of_ble_eq_true rfl) (Nat.le_of_ble_eq_true rfl) ?_
  refine lv_aload_n hx hb dX11_feed_54 rfl (lv_at hl 0 rfl) ?_
  refine gf hx hb hts hown hK hP 0 inT11 rfl rfl 0 (by decide) tw2_127 rfl dX11_feed_55 ?_
  refine gf hx hb hts hown hK hP 1 inT10 rfl rfl 1 (by decide) tw1_34 rfl dX11_feed_58 ?_
  refine W.widen (k := 0) (n := 0) (by decide) (by decide) ?_
  exact rtI hx hb hr hlocks hS () (rfl) (hP.sub [] rfl) (hD.sub [] (by decide) rfl) dX11_feed_61

set_option maxHeartbeats 4000000 in
set_option maxRecDepth 100000 in
theorem x_end (l : Launch) (G : va_G) (t : Nat → ClassId) (x : Nat) (tp : Nat) (rd : Nat) (im : Nat) (mk : Nat) (sl : Nat) (ac : Nat) (cl : Nat) (xhb : Nat) (rs : Nat) (sd : Nat) (cr : Nat) (xhl : Nat) (df : Nat) (tb : Nat) (a0 : Int32) : Ct l G t yX11_end cX11_end 2 (some .int) ({ frames := 0, cells := 0, slots := 0, locals := 0 }) [.ref x, .int a0] [(x, .inr (11, [.ref tp, .ref rd, .ref im, .ref mk, .ref sl, .ref ac, .ref cl, .ref xhb, .ref rs, .ref sd, .ref cr, .ref xhl, .ref df])), (tp, .inr (10, [.ref tb, .int 0])), (tb, .inl (t 0, 1400, .inl (fun _ => 0)))] (QI G (fun r (u : Unit) => (r = 0 ∧ a0.toInt = 0) ∨ (r = (-1) ∧ ¬ a0.toInt = 0)) (fun (u : Unit) => [])) := by
  refine ent (by decide) (Nat.le_of_ble_eq_true rfl) ?_
  intro p e s m args below meth c hx hb hr hml hts hown hlocks hin A hA hK hO hP hD hS ls hl
  have hown : s.vm.findClass RX11 = some m.cls := hown
  have hl : lv_has ls 2 [(0, .ref x), (1, .int a0)] := hl
  have C0 : Cx p s m args c cX11_end 2 RX11 G t := ⟨hx, hb, hml, hown, hts, hK, hO⟩
  refine lv_iload_n hx hb dX11_end_0 rfl (lv_at hl 1 rfl) ?_
  refine lv_if_lt (tgt := 15) hx hb dX11_end_1 (by decide) (fun c_1 => ?_) (fun c_1 => ?_)
  · refine lv_iconst (v := (-1)) hx hb dX11_end_15 (by decide) ?_
    refine W.widen (k := 0) (n := 0) (by decide) (by decide) ?_
    exact rtI hx hb hr hlocks hS () (by first | exact Or.inr (⟨rfl, by (try simp only [zlt, zle, zeq, zle64, z64, z0, z1, z2, z3, z4, z5, z6, z7, z8, z9, z60, zm1, y0, y2, y3, y4, ym1] at c_1); (try simp only [zlt, zle, zeq, zle64, z64, z0, z1, z2, z3, z4, z5, z6, z7, z8, z9, z60, zm1, y0, y2, y3, y4, ym1]) <;> omega⟩)) (hP.sub [] rfl) (hD.sub [] (by decide) rfl) dX11_end_16
  · refine lv_iload_n hx hb dX11_end_4 rfl (lv_at hl 1 rfl) ?_
    refine lv_aload_n hx hb dX11_end_5 rfl (lv_at hl 0 rfl) ?_
    refine gf hx hb hts hown hK hP 0 inT11 rfl rfl 0 (by decide) tw2_127 rfl dX11_end_6 ?_
    refine gf hx hb hts hown hK hP 1 inT10 rfl rfl 1 (by decide) tw1_34 rfl dX11_end_9 ?_
    refine lv_icmp_le (tgt := 17) hx hb dX11_end_12 (by decide) (fun c_2 => ?_) (fun c_2 => ?_)
    · refine lv_aload_n hx hb dX11_end_17 rfl (lv_at hl 0 rfl) ?_
      refine gf hx hb hts hown hK hP 0 inT11 rfl rfl 0 (by decide) tw2_127 rfl dX11_end_18 ?_
      refine lv_iload_n hx hb dX11_end_21 rfl (lv_at hl 1 rfl) ?_
      refine pf hx hb hts hown hK hP hD hS 1 inT10 tyX10_ok nmX10 rfl rfl 1 (by decide) tw1_34 rfl rfl rfl (Nat.le_of_ble_eq_true rfl) dX11_end_22 (ws' := [(x, .inr (11, [.ref tp, .ref rd, .ref im, .ref mk, .ref sl, .ref ac, .ref cl, .ref xhb, .ref rs, .ref sd, .ref cr, .ref xhl, .ref df])), (tp, .inr (10, [.ref tb, .int a0])), (tb, .inl (t 0, 1400, .inl (fun _ => 0)))]) rfl (fun H locs hP hD hS => ?_)
      refine lv_iload_n hx hb dX11_end_25 rfl (lv_at hl 1 rfl) ?_
      refine W.widen (k := 0) (n := 0) (by decide) (by decide) ?_
      exact rtI hx hb hr hlocks hS () (Or.inl ⟨by (try simp only [zlt, zle, zeq, zle64, z64, z0, z1, z2, z3, z4, z5, z6, z7, z8, z9, z60, zm1, y0, y2, y3, y4, ym1] at c_1); (try simp only [zlt, zle, zeq, zle64, z64, z0, z1, z2, z3, z4, z5, z6, z7, z8, z9, z60, zm1, y0, y2, y3, y4, ym1] at c_2); (try simp only [zlt, zle, zeq, zle64, z64, z0, z1, z2, z3, z4, z5, z6, z7, z8, z9, z60, zm1, y0, y2, y3, y4, ym1]) <;> omega, by (try simp only [zlt, zle, zeq, zle64, z64, z0, z1, z2, z3, z4, z5, z6, z7, z8, z9, z60, zm1, y0, y2, y3, y4, ym1] at c_1); (try simp only [zlt, zle, zeq, zle64, z64, z0, z1, z2, z3, z4, z5, z6, z7, z8, z9, z60, zm1, y0, y2, y3, y4, ym1] at c_2); (try simp only [zlt, zle, zeq, zle64, z64, z0, z1, z2, z3, z4, z5, z6, z7, z8, z9, z60, zm1, y0, y2, y3, y4, ym1]) <;> omega⟩) (hP.sub [] rfl) (hD.sub [] (by decide) rfl) dX11_end_26
    · refine lv_iconst (v := (-1)) hx hb dX11_end_15 (by decide) ?_
      refine W.widen (k := 0) (n := 0) (by decide) (by decide) ?_
      exact rtI hx hb hr hlocks hS () (by first | exact Or.inr (⟨rfl, by (try simp only [zlt, zle, zeq, zle64, z64, z0, z1, z2, z3, z4, z5, z6, z7, z8, z9, z60, zm1, y0, y2, y3, y4, ym1] at c_1); (try simp only [zlt, zle, zeq, zle64, z64, z0, z1, z2, z3, z4, z5, z6, z7, z8, z9, z60, zm1, y0, y2, y3, y4, ym1] at c_2); (try simp only [zlt, zle, zeq, zle64, z64, z0, z1, z2, z3, z4, z5, z6, z7, z8, z9, z60, zm1, y0, y2, y3, y4, ym1]) <;> omega⟩)) (hP.sub [] rfl) (hD.sub [] (by decide) rfl) dX11_end_16

set_option maxHeartbeats 4000000 in
set_option maxRecDepth 100000 in
theorem x_fault (l : Launch) (G : va_G) (t : Nat → ClassId) (x : Nat) (tp : Nat) (rd : Nat) (im : Nat) (mk : Nat) (sl : Nat) (ac : Nat) (cl : Nat) (xhb : Nat) (rs : Nat) (sd : Nat) (cr : Nat) (xhl : Nat) (df : Nat) (a0 : Int32) : Ct l G t yX11_fault cX11_fault 2 (some .int) ({ frames := 0, cells := 0, slots := 0, locals := 0 }) [.ref x, .int a0] [(x, .inr (11, [.ref tp, .ref rd, .ref im, .ref mk, .ref sl, .ref ac, .ref cl, .ref xhb, .ref rs, .ref sd, .ref cr, .ref xhl, .ref df])), (rd, .inr (6, [.int 0, .int (-1), .ref tp, .ref df, .int 0, .int 0, .int 0, .int 0, .int 0, .int 0]))] (QI G (fun r (u : Unit) => (r = 0 ∧ a0.toInt = 0) ∨ (r = (-1) ∧ ¬ a0.toInt = 0)) (fun (u : Unit) => [])) := by
  refine ent (by decide) (Nat.le_of_ble_eq_true rfl) ?_
  intro p e s m args below meth c hx hb hr hml hts hown hlocks hin A hA hK hO hP hD hS ls hl
  have hown : s.vm.findClass RX11 = some m.cls := hown
  have hl : lv_has ls 2 [(0, .ref x), (1, .int a0)] := hl
  have C0 : Cx p s m args c cX11_fault 2 RX11 G t := ⟨hx, hb, hml, hown, hts, hK, hO⟩
  refine lv_iload_n hx hb dX11_fault_0 rfl (lv_at hl 1 rfl) ?_
  refine lv_if_ne (tgt := 12) hx hb dX11_fault_1 (by decide) (fun c_1 => ?_) (fun c_1 => ?_)
  · refine lv_iload_n hx hb dX11_fault_12 rfl (lv_at hl 1 rfl) ?_
    refine lv_iconst (v := 1) hx hb dX11_fault_13 (by decide) ?_
    refine lv_icmp_ne (tgt := 27) hx hb dX11_fault_14 (by decide) (fun c_2 => ?_) (fun c_2 => ?_)
    · refine lv_iconst (v := (-1)) hx hb dX11_fault_27 (by decide) ?_
      refine W.widen (k := 0) (n := 0) (by decide) (by decide) ?_
      exact rtI hx hb hr hlocks hS () (by first | exact Or.inr (⟨rfl, by (try simp only [zlt, zle, zeq, zle64, z64, z0, z1, z2, z3, z4, z5, z6, z7, z8, z9, z60, zm1, y0, y2, y3, y4, ym1] at c_1); (try simp only [zlt, zle, zeq, zle64, z64, z0, z1, z2, z3, z4, z5, z6, z7, z8, z9, z60, zm1, y0, y2, y3, y4, ym1] at c_2); (try simp only [zlt, zle, zeq, zle64, z64, z0, z1, z2, z3, z4, z5, z6, z7, z8, z9, z60, zm1, y0, y2, y3, y4, ym1]) <;> omega⟩)) (hP.sub [] rfl) (hD.sub [] (by decide) rfl) dX11_fault_28
    · refine lv_aload_n hx hb dX11_fault_17 rfl (lv_at hl 0 rfl) ?_
      refine gf hx hb hts hown hK hP 0 inT11 rfl rfl 1 (by decide) tw2_128 rfl dX11_fault_18 ?_
      refine gf hx hb hts hown hK hP 1 inT6 rfl rfl 1 (by decide) tw1_205 rfl dX11_fault_21 ?_
      refine lv_goto (tgt := 28) hx hb dX11_fault_24 (by decide) ?_
      refine W.widen (k := 0) (n := 0) (by decide) (by decide) ?_
      exact rtI hx hb hr hlocks hS () (by first | exact Or.inr (⟨rfl, by (try simp only [zlt, zle, zeq, zle64, z64, z0, z1, z2, z3, z4, z5, z6, z7, z8, z9, z60, zm1, y0, y2, y3, y4, ym1] at c_1); (try simp only [zlt, zle, zeq, zle64, z64, z0, z1, z2, z3, z4, z5, z6, z7, z8, z9, z60, zm1, y0, y2, y3, y4, ym1] at c_2); (try simp only [zlt, zle, zeq, zle64, z64, z0, z1, z2, z3, z4, z5, z6, z7, z8, z9, z60, zm1, y0, y2, y3, y4, ym1]) <;> omega⟩)) (hP.sub [] rfl) (hD.sub [] (by decide) rfl) dX11_fault_28
  · refine lv_aload_n hx hb dX11_fault_4 rfl (lv_at hl 0 rfl) ?_
    refine gf hx hb hts hown hK hP 0 inT11 rfl rfl 1 (by decide) tw2_128 rfl dX11_fault_5 ?_
    refine gf hx hb hts hown hK hP 1 inT6 rfl rfl 0 (by decide) tw1_203 rfl dX11_fault_8 ?_
    refine W.widen (k := 0) (n := 0) (by decide) (by decide) ?_
    exact rtI hx hb hr hlocks hS () (by first | exact Or.inl ⟨rfl, by (try simp only [zlt, zle, zeq, zle64, z64, z0, z1, z2, z3, z4, z5, z6, z7, z8, z9, z60, zm1, y0, y2, y3, y4, ym1] at c_1); (try simp only [zlt, zle, zeq, zle64, z64, z0, z1, z2, z3, z4, z5, z6, z7, z8, z9, z60, zm1, y0, y2, y3, y4, ym1]) <;> omega⟩) (hP.sub [] rfl) (hD.sub [] (by decide) rfl) dX11_fault_11

set_option maxHeartbeats 4000000 in
set_option maxRecDepth 100000 in
theorem c_four0 (l : Launch) (G : va_G) (t : Nat → ClassId) (z : Nat) (zw : Nat) (zm : Nat) (zc : Nat) (zv : Nat) (zt : Nat) (zn : Nat) (zh : Nat) (zp : Nat) (ze : Nat) (zs : Nat) (zg : Nat) (zk : Nat) (za : Nat) (zd : Nat) (zf : Nat) (zo : Nat) (zE : Nat) (zq : Nat) (zC : Nat) (f0 : Nat → Int32) (v0 : Int32) : Ct l G t yX12_four cX12_four 3 none ({ frames := 0, cells := 0, slots := 0, locals := 0 }) [.ref z, .int v0] [(z, .inr (12, [.int 0, .ref zw, .ref zm, .ref zc, .ref zv, .ref zt, .int 0, .int 0, .int 0, .int 0, .int 0, .long 0, .int 0, .int 0, .int 0, .int (-1), .ref zn, .ref zh, .ref zp, .ref ze, .ref zs, .ref zg, .ref zk, .ref za, .ref zd, .ref zf, .ref zo, .ref zE, .ref zq, .int 0, .int 0, .int 0, .int 0, .int 0, .int 0, .ref zC])), (zt, .inl (t 0, 1400, .inl f0))] (QV G (fun (u : (Nat → Int32)) => True) (fun (u : (Nat → Int32)) => [(z, .inr (12, [.int 0, .ref zw, .ref zm, .ref zc, .ref zv, .ref zt, .int 4, .int 0, .int 0, .int 0, .int 0, .long 0, .int 0, .int 0, .int 0, .int (-1), .ref zn, .ref zh, .ref zp, .ref ze, .ref zs, .ref zg, .ref zk, .ref za, .ref zd, .ref zf, .ref zo, .ref zE, .ref zq, .int 0, .int 0, .int 0, .int 0, .int 0, .int 0, .ref zC])), (zt, .inl (t 0, 1400, .inl u))])) := by
  refine ent (by decide) (Nat.le_of_ble_eq_true rfl) ?_
  intro p e s m args below meth c hx hb hr hml hts hown hlocks hin A hA hK hO hP hD hS ls hl
  have hown : s.vm.findClass RX12 = some m.cls := hown
  have hl : lv_has ls 3 [(0, .ref z), (1, .int v0)] := hl
  have C0 : Cx p s m args c cX12_four 3 RX12 G t := ⟨hx, hb, hml, hown, hts, hK, hO⟩
  refine lv_bipush (v := 24) hx hb dX12_four_0 (by decide) ?_
  refine lv_istore_n (lv' := [(2, .int 24), (0, .ref z), (1, .int v0)]) hx hb dX12_four_2 rfl hl (by decide) rfl (fun ls hl => ?_)
  refine lv_iload_n hx hb dX12_four_3 rfl (lv_at hl 0 rfl) ?_
  refine lv_if_lt (tgt := 36) hx hb dX12_four_4 (by decide) (fun c_1 => absurd c_1 (by decide)) (fun _ => ?_)
  refine lv_aload_n hx hb dX12_four_7 rfl (lv_at hl 1 rfl) ?_
  refine gf hx hb hts hown hK hP 0 inT12 rfl rfl 5 (by decide) tw5_230 rfl dX12_four_8 ?_
  refine lv_aload_n hx hb dX12_four_11 rfl (lv_at hl 1 rfl) ?_
  refine gf hx hb hts hown hK hP 0 inT12 rfl rfl 6 (by decide) tw5_231 rfl dX12_four_12 ?_
  refine lv_iload_n hx hb dX12_four_15 rfl (lv_at hl 2 rfl) ?_
  refine lv_iload_n hx hb dX12_four_16 rfl (lv_at hl 0 rfl) ?_
  refine lv_ishr hx hb dX12_four_17 ?_
  refine lv_i2b (v := (v0 >>> (24 &&& 31)).toInt8.toInt32) hx hb dX12_four_18 (rfl) ?_
  obtain ⟨f_2, ef_2⟩ : ∃ z : Nat → Int32, z = upd f0 (0 : Int32).toNatClampNeg (vp_nar .byte (v0 >>> (24 &&& 31)).toInt8.toInt32) := ⟨_, rfl⟩
  refine stB hx hb hK hP hD hS 1 rfl (by unfold vp_in; decide) dX12_four_19 (f' := f_2) (ef_2.symm) (ws' := [(z, .inr (12, [.int 0, .ref zw, .ref zm, .ref zc, .ref zv, .ref zt, .int 0, .int 0, .int 0, .int 0, .int 0, .long 0, .int 0, .int 0, .int 0, .int (-1), .ref zn, .ref zh, .ref zp, .ref ze, .ref zs, .ref zg, .ref zk, .ref za, .ref zd, .ref zf, .ref zo, .ref zE, .ref zq, .int 0, .int 0, .int 0, .int 0, .int 0, .int 0, .ref zC])), (zt, .inl (t 0, 1400, .inl f_2))]) rfl (fun H locs hP hD hS => ?_)
  refine lv_aload_n hx hb dX12_four_20 rfl (lv_at hl 1 rfl) ?_
  refine lv_dup hx hb dX12_four_21 rfl ?_
  refine gf hx hb hts hown hK hP 0 inT12 rfl rfl 6 (by decide) tw5_231 rfl dX12_four_22 ?_
  refine lv_iconst (v := 1) hx hb dX12_four_25 (by decide) ?_
  refine lv_iadd hx hb dX12_four_26 (tpi (v := 1) (by decide) ?_)
  refine pf hx hb hts hown hK hP hD hS 0 inT12 tyX12_ok nmX12 rfl rfl 6 (by decide) tw5_231 rfl rfl rfl (Nat.le_of_ble_eq_true rfl) dX12_four_27 (ws' := [(z, .inr (12, [.int 0, .ref zw, .ref zm, .ref zc, .ref zv, .ref zt, .int 1, .int 0, .int 0, .int 0, .int 0, .long 0, .int 0, .int 0, .int 0, .int (-1), .ref zn, .ref zh, .ref zp, .ref ze, .ref zs, .ref zg, .ref zk, .ref za, .ref zd, .ref zf, .ref zo, .ref zE, .ref zq, .int 0, .int 0, .int 0, .int 0, .int 0, .int 0, .ref zC])), (zt, .inl (t 0, 1400, .inl f_2))]) rfl (fun H locs hP hD hS => ?_)
  refine lv_iinc (v := 16) (lv' := [(2, .int 16), (0, .ref z), (1, .int v0)]) hx hb dX12_four_30 hl (k := 0) rfl (by decide) (by decide) rfl (fun ls hl => ?_)
  refine lv_goto (tgt := 3) hx hb dX12_four_33 (by decide) ?_
  refine lv_iload_n hx hb dX12_four_3 rfl (lv_at hl 0 rfl) ?_
  refine lv_if_lt (tgt := 36) hx hb dX12_four_4 (by decide) (fun c_3 => absurd c_3 (by decide)) (fun _ => ?_)
  refine lv_aload_n hx hb dX12_four_7 rfl (lv_at hl 1 rfl) ?_
  refine gf hx hb hts hown hK hP 0 inT12 rfl rfl 5 (by decide) tw5_230 rfl dX12_four_8 ?_
  refine lv_aload_n hx hb dX12_four_11 rfl (lv_at hl 1 rfl) ?_
  refine gf hx hb hts hown hK hP 0 inT12 rfl rfl 6 (by decide) tw5_231 rfl dX12_four_12 ?_
  refine lv_iload_n hx hb dX12_four_15 rfl (lv_at hl 2 rfl) ?_
  refine lv_iload_n hx hb dX12_four_16 rfl (lv_at hl 0 rfl) ?_
  refine lv_ishr hx hb dX12_four_17 ?_
  refine lv_i2b (v := (v0 >>> (16 &&& 31)).toInt8.toInt32) hx hb dX12_four_18 (rfl) ?_
  obtain ⟨f_4, ef_4⟩ : ∃ z : Nat → Int32, z = upd f_2 (1 : Int32).toNatClampNeg (vp_nar .byte (v0 >>> (16 &&& 31)).toInt8.toInt32) := ⟨_, rfl⟩
  refine stB hx hb hK hP hD hS 1 rfl (by unfold vp_in; decide) dX12_four_19 (f' := f_4) (ef_4.symm) (ws' := [(z, .inr (12, [.int 0, .ref zw, .ref zm, .ref zc, .ref zv, .ref zt, .int 1, .int 0, .int 0, .int 0, .int 0, .long 0, .int 0, .int 0, .int 0, .int (-1), .ref zn, .ref zh, .ref zp, .ref ze, .ref zs, .ref zg, .ref zk, .ref za, .ref zd, .ref zf, .ref zo, .ref zE, .ref zq, .int 0, .int 0, .int 0, .int 0, .int 0, .int 0, .ref zC])), (zt, .inl (t 0, 1400, .inl f_4))]) rfl (fun H locs hP hD hS => ?_)
  refine lv_aload_n hx hb dX12_four_20 rfl (lv_at hl 1 rfl) ?_
  refine lv_dup hx hb dX12_four_21 rfl ?_
  refine gf hx hb hts hown hK hP 0 inT12 rfl rfl 6 (by decide) tw5_231 rfl dX12_four_22 ?_
  refine lv_iconst (v := 1) hx hb dX12_four_25 (by decide) ?_
  refine lv_iadd hx hb dX12_four_26 (tpi (v := 2) (by decide) ?_)
  refine pf hx hb hts hown hK hP hD hS 0 inT12 tyX12_ok nmX12 rfl rfl 6 (by decide) tw5_231 rfl rfl rfl (Nat.le_of_ble_eq_true rfl) dX12_four_27 (ws' := [(z, .inr (12, [.int 0, .ref zw, .ref zm, .ref zc, .ref zv, .ref zt, .int 2, .int 0, .int 0, .int 0, .int 0, .long 0, .int 0, .int 0, .int 0, .int (-1), .ref zn, .ref zh, .ref zp, .ref ze, .ref zs, .ref zg, .ref zk, .ref za, .ref zd, .ref zf, .ref zo, .ref zE, .ref zq, .int 0, .int 0, .int 0, .int 0, .int 0, .int 0, .ref zC])), (zt, .inl (t 0, 1400, .inl f_4))]) rfl (fun H locs hP hD hS => ?_)
  refine lv_iinc (v := 8) (lv' := [(2, .int 8), (0, .ref z), (1, .int v0)]) hx hb dX12_four_30 hl (k := 0) rfl (by decide) (by decide) rfl (fun ls hl => ?_)
  refine lv_goto (tgt := 3) hx hb dX12_four_33 (by decide) ?_
  refine lv_iload_n hx hb dX12_four_3 rfl (lv_at hl 0 rfl) ?_
  refine lv_if_lt (tgt := 36) hx hb dX12_four_4 (by decide) (fun c_5 => absurd c_5 (by decide)) (fun _ => ?_)
  refine lv_aload_n hx hb dX12_four_7 rfl (lv_at hl 1 rfl) ?_
  refine gf hx hb hts hown hK hP 0 inT12 rfl rfl 5 (by decide) tw5_230 rfl dX12_four_8 ?_
  refine lv_aload_n hx hb dX12_four_11 rfl (lv_at hl 1 rfl) ?_
  refine gf hx hb hts hown hK hP 0 inT12 rfl rfl 6 (by decide) tw5_231 rfl dX12_four_12 ?_
  refine lv_iload_n hx hb dX12_four_15 rfl (lv_at hl 2 rfl) ?_
  refine lv_iload_n hx hb dX12_four_16 rfl (lv_at hl 0 rfl) ?_
  refine lv_ishr hx hb dX12_four_17 ?_
  refine lv_i2b (v := (v0 >>> (8 &&& 31)).toInt8.toInt32) hx hb dX12_four_18 (rfl) ?_
  obtain ⟨f_6, ef_6⟩ : ∃ z : Nat → Int32, z = upd f_4 (2 : Int32).toNatClampNeg (vp_nar .byte (v0 >>> (8 &&& 31)).toInt8.toInt32) := ⟨_, rfl⟩
  refine stB hx hb hK hP hD hS 1 rfl (by unfold vp_in; decide) dX12_four_19 (f' := f_6) (ef_6.symm) (ws' := [(z, .inr (12, [.int 0, .ref zw, .ref zm, .ref zc, .ref zv, .ref zt, .int 2, .int 0, .int 0, .int 0, .int 0, .long 0, .int 0, .int 0, .int 0, .int (-1), .ref zn, .ref zh, .ref zp, .ref ze, .ref zs, .ref zg, .ref zk, .ref za, .ref zd, .ref zf, .ref zo, .ref zE, .ref zq, .int 0, .int 0, .int 0, .int 0, .int 0, .int 0, .ref zC])), (zt, .inl (t 0, 1400, .inl f_6))]) rfl (fun H locs hP hD hS => ?_)
  refine lv_aload_n hx hb dX12_four_20 rfl (lv_at hl 1 rfl) ?_
  refine lv_dup hx hb dX12_four_21 rfl ?_
  refine gf hx hb hts hown hK hP 0 inT12 rfl rfl 6 (by decide) tw5_231 rfl dX12_four_22 ?_
  refine lv_iconst (v := 1) hx hb dX12_four_25 (by decide) ?_
  refine lv_iadd hx hb dX12_four_26 (tpi (v := 3) (by decide) ?_)
  refine pf hx hb hts hown hK hP hD hS 0 inT12 tyX12_ok nmX12 rfl rfl 6 (by decide) tw5_231 rfl rfl rfl (Nat.le_of_ble_eq_true rfl) dX12_four_27 (ws' := [(z, .inr (12, [.int 0, .ref zw, .ref zm, .ref zc, .ref zv, .ref zt, .int 3, .int 0, .int 0, .int 0, .int 0, .long 0, .int 0, .int 0, .int 0, .int (-1), .ref zn, .ref zh, .ref zp, .ref ze, .ref zs, .ref zg, .ref zk, .ref za, .ref zd, .ref zf, .ref zo, .ref zE, .ref zq, .int 0, .int 0, .int 0, .int 0, .int 0, .int 0, .ref zC])), (zt, .inl (t 0, 1400, .inl f_6))]) rfl (fun H locs hP hD hS => ?_)
  refine lv_iinc (v := 0) (lv' := [(2, .int 0), (0, .ref z), (1, .int v0)]) hx hb dX12_four_30 hl (k := 0) rfl (by decide) (by decide) rfl (fun ls hl => ?_)
  refine lv_goto (tgt := 3) hx hb dX12_four_33 (by decide) ?_
  refine lv_iload_n hx hb dX12_four_3 rfl (lv_at hl 0 rfl) ?_
  refine lv_if_lt (tgt := 36) hx hb dX12_four_4 (by decide) (fun c_7 => absurd c_7 (by decide)) (fun _ => ?_)
  refine lv_aload_n hx hb dX12_four_7 rfl (lv_at hl 1 rfl) ?_
  refine gf hx hb hts hown hK hP 0 inT12 rfl rfl 5 (by decide) tw5_230 rfl dX12_four_8 ?_
  refine lv_aload_n hx hb dX12_four_11 rfl (lv_at hl 1 rfl) ?_
  refine gf hx hb hts hown hK hP 0 inT12 rfl rfl 6 (by decide) tw5_231 rfl dX12_four_12 ?_
  refine lv_iload_n hx hb dX12_four_15 rfl (lv_at hl 2 rfl) ?_
  refine lv_iload_n hx hb dX12_four_16 rfl (lv_at hl 0 rfl) ?_
  refine lv_ishr hx hb dX12_four_17 ?_
  refine lv_i2b (v := (v0 >>> (0 &&& 31)).toInt8.toInt32) hx hb dX12_four_18 (rfl) ?_
  obtain ⟨f_8, ef_8⟩ : ∃ z : Nat → Int32, z = upd f_6 (3 : Int32).toNatClampNeg (vp_nar .byte (v0 >>> (0 &&& 31)).toInt8.toInt32) := ⟨_, rfl⟩
  refine stB hx hb hK hP hD hS 1 rfl (by unfold vp_in; decide) dX12_four_19 (f' := f_8) (ef_8.symm) (ws' := [(z, .inr (12, [.int 0, .ref zw, .ref zm, .ref zc, .ref zv, .ref zt, .int 3, .int 0, .int 0, .int 0, .int 0, .long 0, .int 0, .int 0, .int 0, .int (-1), .ref zn, .ref zh, .ref zp, .ref ze, .ref zs, .ref zg, .ref zk, .ref za, .ref zd, .ref zf, .ref zo, .ref zE, .ref zq, .int 0, .int 0, .int 0, .int 0, .int 0, .int 0, .ref zC])), (zt, .inl (t 0, 1400, .inl f_8))]) rfl (fun H locs hP hD hS => ?_)
  refine lv_aload_n hx hb dX12_four_20 rfl (lv_at hl 1 rfl) ?_
  refine lv_dup hx hb dX12_four_21 rfl ?_
  refine gf hx hb hts hown hK hP 0 inT12 rfl rfl 6 (by decide) tw5_231 rfl dX12_four_22 ?_
  refine lv_iconst (v := 1) hx hb dX12_four_25 (by decide) ?_
  refine lv_iadd hx hb dX12_four_26 (tpi (v := 4) (by decide) ?_)
  refine pf hx hb hts hown hK hP hD hS 0 inT12 tyX12_ok nmX12 rfl rfl 6 (by decide) tw5_231 rfl rfl rfl (Nat.le_of_ble_eq_true rfl) dX12_four_27 (ws' := [(z, .inr (12, [.int 0, .ref zw, .ref zm, .ref zc, .ref zv, .ref zt, .int 4, .int 0, .int 0, .int 0, .int 0, .long 0, .int 0, .int 0, .int 0, .int (-1), .ref zn, .ref zh, .ref zp, .ref ze, .ref zs, .ref zg, .ref zk, .ref za, .ref zd, .ref zf, .ref zo, .ref zE, .ref zq, .int 0, .int 0, .int 0, .int 0, .int 0, .int 0, .ref zC])), (zt, .inl (t 0, 1400, .inl f_8))]) rfl (fun H locs hP hD hS => ?_)
  refine lv_iinc (v := (-8)) (lv' := [(2, .int (-8)), (0, .ref z), (1, .int v0)]) hx hb dX12_four_30 hl (k := 0) rfl (by decide) (by decide) rfl (fun ls hl => ?_)
  refine lv_goto (tgt := 3) hx hb dX12_four_33 (by decide) ?_
  refine lv_iload_n hx hb dX12_four_3 rfl (lv_at hl 0 rfl) ?_
  refine lv_if_lt (tgt := 36) hx hb dX12_four_4 (by decide) (fun _ => ?_) (fun c_9 => absurd (by decide) c_9)
  refine W.widen (k := 0) (n := 0) (by decide) (by decide) ?_
  exact rtV hx hb hr hlocks hS f_8 (trivial) (hP.sub [0, 1] rfl) (hD.sub [0, 1] (by decide) rfl) dX12_four_36

set_option maxHeartbeats 4000000 in
set_option maxRecDepth 100000 in
theorem c_four4 (l : Launch) (G : va_G) (t : Nat → ClassId) (z : Nat) (zw : Nat) (zm : Nat) (zc : Nat) (zv : Nat) (zt : Nat) (zn : Nat) (zh : Nat) (zp : Nat) (ze : Nat) (zs : Nat) (zg : Nat) (zk : Nat) (za : Nat) (zd : Nat) (zf : Nat) (zo : Nat) (zE : Nat) (zq : Nat) (zC : Nat) (f0 : Nat → Int32) (v0 : Int32) : Ct l G t yX12_four cX12_four 3 none ({ frames := 0, cells := 0, slots := 0, locals := 0 }) [.ref z, .int v0] [(z, .inr (12, [.int 0, .ref zw, .ref zm, .ref zc, .ref zv, .ref zt, .int 4, .int 0, .int 0, .int 0, .int 0, .long 0, .int 0, .int 0, .int 0, .int (-1), .ref zn, .ref zh, .ref zp, .ref ze, .ref zs, .ref zg, .ref zk, .ref za, .ref zd, .ref zf, .ref zo, .ref zE, .ref zq, .int 0, .int 0, .int 0, .int 0, .int 0, .int 0, .ref zC])), (zt, .inl (t 0, 1400, .inl f0))] (QV G (fun (u : (Nat → Int32)) => True) (fun (u : (Nat → Int32)) => [(z, .inr (12, [.int 0, .ref zw, .ref zm, .ref zc, .ref zv, .ref zt, .int 8, .int 0, .int 0, .int 0, .int 0, .long 0, .int 0, .int 0, .int 0, .int (-1), .ref zn, .ref zh, .ref zp, .ref ze, .ref zs, .ref zg, .ref zk, .ref za, .ref zd, .ref zf, .ref zo, .ref zE, .ref zq, .int 0, .int 0, .int 0, .int 0, .int 0, .int 0, .ref zC])), (zt, .inl (t 0, 1400, .inl u))])) := by
  refine ent (by decide) (Nat.le_of_ble_eq_true rfl) ?_
  intro p e s m args below meth c hx hb hr hml hts hown hlocks hin A hA hK hO hP hD hS ls hl
  have hown : s.vm.findClass RX12 = some m.cls := hown
  have hl : lv_has ls 3 [(0, .ref z), (1, .int v0)] := hl
  have C0 : Cx p s m args c cX12_four 3 RX12 G t := ⟨hx, hb, hml, hown, hts, hK, hO⟩
  refine lv_bipush (v := 24) hx hb dX12_four_0 (by decide) ?_
  refine lv_istore_n (lv' := [(2, .int 24), (0, .ref z), (1, .int v0)]) hx hb dX12_four_2 rfl hl (by decide) rfl (fun ls hl => ?_)
  refine lv_iload_n hx hb dX12_four_3 rfl (lv_at hl 0 rfl) ?_
  refine lv_if_lt (tgt := 36) hx hb dX12_four_4 (by decide) (fun c_1 => absurd c_1 (by decide)) (fun _ => ?_)
  refine lv_aload_n hx hb dX12_four_7 rfl (lv_at hl 1 rfl) ?_
  refine gf hx hb hts hown hK hP 0 inT12 rfl rfl 5 (by decide) tw5_230 rfl dX12_four_8 ?_
  refine lv_aload_n hx hb dX12_four_11 rfl (lv_at hl 1 rfl) ?_
  refine gf hx hb hts hown hK hP 0 inT12 rfl rfl 6 (by decide) tw5_231 rfl dX12_four_12 ?_
  refine lv_iload_n hx hb dX12_four_15 rfl (lv_at hl 2 rfl) ?_
  refine lv_iload_n hx hb dX12_four_16 rfl (lv_at hl 0 rfl) ?_
  refine lv_ishr hx hb dX12_four_17 ?_
  refine lv_i2b (v := (v0 >>> (24 &&& 31)).toInt8.toInt32) hx hb dX12_four_18 (rfl) ?_
  obtain ⟨f_2, ef_2⟩ : ∃ z : Nat → Int32, z = upd f0 (4 : Int32).toNatClampNeg (vp_nar .byte (v0 >>> (24 &&& 31)).toInt8.toInt32) := ⟨_, rfl⟩
  refine stB hx hb hK hP hD hS 1 rfl (by unfold vp_in; decide) dX12_four_19 (f' := f_2) (ef_2.symm) (ws' := [(z, .inr (12, [.int 0, .ref zw, .ref zm, .ref zc, .ref zv, .ref zt, .int 4, .int 0, .int 0, .int 0, .int 0, .long 0, .int 0, .int 0, .int 0, .int (-1), .ref zn, .ref zh, .ref zp, .ref ze, .ref zs, .ref zg, .ref zk, .ref za, .ref zd, .ref zf, .ref zo, .ref zE, .ref zq, .int 0, .int 0, .int 0, .int 0, .int 0, .int 0, .ref zC])), (zt, .inl (t 0, 1400, .inl f_2))]) rfl (fun H locs hP hD hS => ?_)
  refine lv_aload_n hx hb dX12_four_20 rfl (lv_at hl 1 rfl) ?_
  refine lv_dup hx hb dX12_four_21 rfl ?_
  refine gf hx hb hts hown hK hP 0 inT12 rfl rfl 6 (by decide) tw5_231 rfl dX12_four_22 ?_
  refine lv_iconst (v := 1) hx hb dX12_four_25 (by decide) ?_
  refine lv_iadd hx hb dX12_four_26 (tpi (v := 5) (by decide) ?_)
  refine pf hx hb hts hown hK hP hD hS 0 inT12 tyX12_ok nmX12 rfl rfl 6 (by decide) tw5_231 rfl rfl rfl (Nat.le_of_ble_eq_true rfl) dX12_four_27 (ws' := [(z, .inr (12, [.int 0, .ref zw, .ref zm, .ref zc, .ref zv, .ref zt, .int 5, .int 0, .int 0, .int 0, .int 0, .long 0, .int 0, .int 0, .int 0, .int (-1), .ref zn, .ref zh, .ref zp, .ref ze, .ref zs, .ref zg, .ref zk, .ref za, .ref zd, .ref zf, .ref zo, .ref zE, .ref zq, .int 0, .int 0, .int 0, .int 0, .int 0, .int 0, .ref zC])), (zt, .inl (t 0, 1400, .inl f_2))]) rfl (fun H locs hP hD hS => ?_)
  refine lv_iinc (v := 16) (lv' := [(2, .int 16), (0, .ref z), (1, .int v0)]) hx hb dX12_four_30 hl (k := 0) rfl (by decide) (by decide) rfl (fun ls hl => ?_)
  refine lv_goto (tgt := 3) hx hb dX12_four_33 (by decide) ?_
  refine lv_iload_n hx hb dX12_four_3 rfl (lv_at hl 0 rfl) ?_
  refine lv_if_lt (tgt := 36) hx hb dX12_four_4 (by decide) (fun c_3 => absurd c_3 (by decide)) (fun _ => ?_)
  refine lv_aload_n hx hb dX12_four_7 rfl (lv_at hl 1 rfl) ?_
  refine gf hx hb hts hown hK hP 0 inT12 rfl rfl 5 (by decide) tw5_230 rfl dX12_four_8 ?_
  refine lv_aload_n hx hb dX12_four_11 rfl (lv_at hl 1 rfl) ?_
  refine gf hx hb hts hown hK hP 0 inT12 rfl rfl 6 (by decide) tw5_231 rfl dX12_four_12 ?_
  refine lv_iload_n hx hb dX12_four_15 rfl (lv_at hl 2 rfl) ?_
  refine lv_iload_n hx hb dX12_four_16 rfl (lv_at hl 0 rfl) ?_
  refine lv_ishr hx hb dX12_four_17 ?_
  refine lv_i2b (v := (v0 >>> (16 &&& 31)).toInt8.toInt32) hx hb dX12_four_18 (rfl) ?_
  obtain ⟨f_4, ef_4⟩ : ∃ z : Nat → Int32, z = upd f_2 (5 : Int32).toNatClampNeg (vp_nar .byte (v0 >>> (16 &&& 31)).toInt8.toInt32) := ⟨_, rfl⟩
  refine stB hx hb hK hP hD hS 1 rfl (by unfold vp_in; decide) dX12_four_19 (f' := f_4) (ef_4.symm) (ws' := [(z, .inr (12, [.int 0, .ref zw, .ref zm, .ref zc, .ref zv, .ref zt, .int 5, .int 0, .int 0, .int 0, .int 0, .long 0, .int 0, .int 0, .int 0, .int (-1), .ref zn, .ref zh, .ref zp, .ref ze, .ref zs, .ref zg, .ref zk, .ref za, .ref zd, .ref zf, .ref zo, .ref zE, .ref zq, .int 0, .int 0, .int 0, .int 0, .int 0, .int 0, .ref zC])), (zt, .inl (t 0, 1400, .inl f_4))]) rfl (fun H locs hP hD hS => ?_)
  refine lv_aload_n hx hb dX12_four_20 rfl (lv_at hl 1 rfl) ?_
  refine lv_dup hx hb dX12_four_21 rfl ?_
  refine gf hx hb hts hown hK hP 0 inT12 rfl rfl 6 (by decide) tw5_231 rfl dX12_four_22 ?_
  refine lv_iconst (v := 1) hx hb dX12_four_25 (by decide) ?_
  refine lv_iadd hx hb dX12_four_26 (tpi (v := 6) (by decide) ?_)
  refine pf hx hb hts hown hK hP hD hS 0 inT12 tyX12_ok nmX12 rfl rfl 6 (by decide) tw5_231 rfl rfl rfl (Nat.le_of_ble_eq_true rfl) dX12_four_27 (ws' := [(z, .inr (12, [.int 0, .ref zw, .ref zm, .ref zc, .ref zv, .ref zt, .int 6, .int 0, .int 0, .int 0, .int 0, .long 0, .int 0, .int 0, .int 0, .int (-1), .ref zn, .ref zh, .ref zp, .ref ze, .ref zs, .ref zg, .ref zk, .ref za, .ref zd, .ref zf, .ref zo, .ref zE, .ref zq, .int 0, .int 0, .int 0, .int 0, .int 0, .int 0, .ref zC])), (zt, .inl (t 0, 1400, .inl f_4))]) rfl (fun H locs hP hD hS => ?_)
  refine lv_iinc (v := 8) (lv' := [(2, .int 8), (0, .ref z), (1, .int v0)]) hx hb dX12_four_30 hl (k := 0) rfl (by decide) (by decide) rfl (fun ls hl => ?_)
  refine lv_goto (tgt := 3) hx hb dX12_four_33 (by decide) ?_
  refine lv_iload_n hx hb dX12_four_3 rfl (lv_at hl 0 rfl) ?_
  refine lv_if_lt (tgt := 36) hx hb dX12_four_4 (by decide) (fun c_5 => absurd c_5 (by decide)) (fun _ => ?_)
  refine lv_aload_n hx hb dX12_four_7 rfl (lv_at hl 1 rfl) ?_
  refine gf hx hb hts hown hK hP 0 inT12 rfl rfl 5 (by decide) tw5_230 rfl dX12_four_8 ?_
  refine lv_aload_n hx hb dX12_four_11 rfl (lv_at hl 1 rfl) ?_
  refine gf hx hb hts hown hK hP 0 inT12 rfl rfl 6 (by decide) tw5_231 rfl dX12_four_12 ?_
  refine lv_iload_n hx hb dX12_four_15 rfl (lv_at hl 2 rfl) ?_
  refine lv_iload_n hx hb dX12_four_16 rfl (lv_at hl 0 rfl) ?_
  refine lv_ishr hx hb dX12_four_17 ?_
  refine lv_i2b (v := (v0 >>> (8 &&& 31)).toInt8.toInt32) hx hb dX12_four_18 (rfl) ?_
  obtain ⟨f_6, ef_6⟩ : ∃ z : Nat → Int32, z = upd f_4 (6 : Int32).toNatClampNeg (vp_nar .byte (v0 >>> (8 &&& 31)).toInt8.toInt32) := ⟨_, rfl⟩
  refine stB hx hb hK hP hD hS 1 rfl (by unfold vp_in; decide) dX12_four_19 (f' := f_6) (ef_6.symm) (ws' := [(z, .inr (12, [.int 0, .ref zw, .ref zm, .ref zc, .ref zv, .ref zt, .int 6, .int 0, .int 0, .int 0, .int 0, .long 0, .int 0, .int 0, .int 0, .int (-1), .ref zn, .ref zh, .ref zp, .ref ze, .ref zs, .ref zg, .ref zk, .ref za, .ref zd, .ref zf, .ref zo, .ref zE, .ref zq, .int 0, .int 0, .int 0, .int 0, .int 0, .int 0, .ref zC])), (zt, .inl (t 0, 1400, .inl f_6))]) rfl (fun H locs hP hD hS => ?_)
  refine lv_aload_n hx hb dX12_four_20 rfl (lv_at hl 1 rfl) ?_
  refine lv_dup hx hb dX12_four_21 rfl ?_
  refine gf hx hb hts hown hK hP 0 inT12 rfl rfl 6 (by decide) tw5_231 rfl dX12_four_22 ?_
  refine lv_iconst (v := 1) hx hb dX12_four_25 (by decide) ?_
  refine lv_iadd hx hb dX12_four_26 (tpi (v := 7) (by decide) ?_)
  refine pf hx hb hts hown hK hP hD hS 0 inT12 tyX12_ok nmX12 rfl rfl 6 (by decide) tw5_231 rfl rfl rfl (Nat.le_of_ble_eq_true rfl) dX12_four_27 (ws' := [(z, .inr (12, [.int 0, .ref zw, .ref zm, .ref zc, .ref zv, .ref zt, .int 7, .int 0, .int 0, .int 0, .int 0, .long 0, .int 0, .int 0, .int 0, .int (-1), .ref zn, .ref zh, .ref zp, .ref ze, .ref zs, .ref zg, .ref zk, .ref za, .ref zd, .ref zf, .ref zo, .ref zE, .ref zq, .int 0, .int 0, .int 0, .int 0, .int 0, .int 0, .ref zC])), (zt, .inl (t 0, 1400, .inl f_6))]) rfl (fun H locs hP hD hS => ?_)
  refine lv_iinc (v := 0) (lv' := [(2, .int 0), (0, .ref z), (1, .int v0)]) hx hb dX12_four_30 hl (k := 0) rfl (by decide) (by decide) rfl (fun ls hl => ?_)
  refine lv_goto (tgt := 3) hx hb dX12_four_33 (by decide) ?_
  refine lv_iload_n hx hb dX12_four_3 rfl (lv_at hl 0 rfl) ?_
  refine lv_if_lt (tgt := 36) hx hb dX12_four_4 (by decide) (fun c_7 => absurd c_7 (by decide)) (fun _ => ?_)
  refine lv_aload_n hx hb dX12_four_7 rfl (lv_at hl 1 rfl) ?_
  refine gf hx hb hts hown hK hP 0 inT12 rfl rfl 5 (by decide) tw5_230 rfl dX12_four_8 ?_
  refine lv_aload_n hx hb dX12_four_11 rfl (lv_at hl 1 rfl) ?_
  refine gf hx hb hts hown hK hP 0 inT12 rfl rfl 6 (by decide) tw5_231 rfl dX12_four_12 ?_
  refine lv_iload_n hx hb dX12_four_15 rfl (lv_at hl 2 rfl) ?_
  refine lv_iload_n hx hb dX12_four_16 rfl (lv_at hl 0 rfl) ?_
  refine lv_ishr hx hb dX12_four_17 ?_
  refine lv_i2b (v := (v0 >>> (0 &&& 31)).toInt8.toInt32) hx hb dX12_four_18 (rfl) ?_
  obtain ⟨f_8, ef_8⟩ : ∃ z : Nat → Int32, z = upd f_6 (7 : Int32).toNatClampNeg (vp_nar .byte (v0 >>> (0 &&& 31)).toInt8.toInt32) := ⟨_, rfl⟩
  refine stB hx hb hK hP hD hS 1 rfl (by unfold vp_in; decide) dX12_four_19 (f' := f_8) (ef_8.symm) (ws' := [(z, .inr (12, [.int 0, .ref zw, .ref zm, .ref zc, .ref zv, .ref zt, .int 7, .int 0, .int 0, .int 0, .int 0, .long 0, .int 0, .int 0, .int 0, .int (-1), .ref zn, .ref zh, .ref zp, .ref ze, .ref zs, .ref zg, .ref zk, .ref za, .ref zd, .ref zf, .ref zo, .ref zE, .ref zq, .int 0, .int 0, .int 0, .int 0, .int 0, .int 0, .ref zC])), (zt, .inl (t 0, 1400, .inl f_8))]) rfl (fun H locs hP hD hS => ?_)
  refine lv_aload_n hx hb dX12_four_20 rfl (lv_at hl 1 rfl) ?_
  refine lv_dup hx hb dX12_four_21 rfl ?_
  refine gf hx hb hts hown hK hP 0 inT12 rfl rfl 6 (by decide) tw5_231 rfl dX12_four_22 ?_
  refine lv_iconst (v := 1) hx hb dX12_four_25 (by decide) ?_
  refine lv_iadd hx hb dX12_four_26 (tpi (v := 8) (by decide) ?_)
  refine pf hx hb hts hown hK hP hD hS 0 inT12 tyX12_ok nmX12 rfl rfl 6 (by decide) tw5_231 rfl rfl rfl (Nat.le_of_ble_eq_true rfl) dX12_four_27 (ws' := [(z, .inr (12, [.int 0, .ref zw, .ref zm, .ref zc, .ref zv, .ref zt, .int 8, .int 0, .int 0, .int 0, .int 0, .long 0, .int 0, .int 0, .int 0, .int (-1), .ref zn, .ref zh, .ref zp, .ref ze, .ref zs, .ref zg, .ref zk, .ref za, .ref zd, .ref zf, .ref zo, .ref zE, .ref zq, .int 0, .int 0, .int 0, .int 0, .int 0, .int 0, .ref zC])), (zt, .inl (t 0, 1400, .inl f_8))]) rfl (fun H locs hP hD hS => ?_)
  refine lv_iinc (v := (-8)) (lv' := [(2, .int (-8)), (0, .ref z), (1, .int v0)]) hx hb dX12_four_30 hl (k := 0) rfl (by decide) (by decide) rfl (fun ls hl => ?_)
  refine lv_goto (tgt := 3) hx hb dX12_four_33 (by decide) ?_
  refine lv_iload_n hx hb dX12_four_3 rfl (lv_at hl 0 rfl) ?_
  refine lv_if_lt (tgt := 36) hx hb dX12_four_4 (by decide) (fun _ => ?_) (fun c_9 => absurd (by decide) c_9)
  refine W.widen (k := 0) (n := 0) (by decide) (by decide) ?_
  exact rtV hx hb hr hlocks hS f_8 (trivial) (hP.sub [0, 1] rfl) (hD.sub [0, 1] (by decide) rfl) dX12_four_36

set_option maxHeartbeats 4000000 in
set_option maxRecDepth 100000 in
theorem c_four8 (l : Launch) (G : va_G) (t : Nat → ClassId) (z : Nat) (zw : Nat) (zm : Nat) (zc : Nat) (zv : Nat) (zt : Nat) (zn : Nat) (zh : Nat) (zp : Nat) (ze : Nat) (zs : Nat) (zg : Nat) (zk : Nat) (za : Nat) (zd : Nat) (zf : Nat) (zo : Nat) (zE : Nat) (zq : Nat) (zC : Nat) (f0 : Nat → Int32) (v0 : Int32) : Ct l G t yX12_four cX12_four 3 none ({ frames := 0, cells := 0, slots := 0, locals := 0 }) [.ref z, .int v0] [(z, .inr (12, [.int 0, .ref zw, .ref zm, .ref zc, .ref zv, .ref zt, .int 8, .int 0, .int 0, .int 0, .int 0, .long 0, .int 0, .int 0, .int 0, .int (-1), .ref zn, .ref zh, .ref zp, .ref ze, .ref zs, .ref zg, .ref zk, .ref za, .ref zd, .ref zf, .ref zo, .ref zE, .ref zq, .int 0, .int 0, .int 0, .int 0, .int 0, .int 0, .ref zC])), (zt, .inl (t 0, 1400, .inl f0))] (QV G (fun (u : (Nat → Int32)) => True) (fun (u : (Nat → Int32)) => [(z, .inr (12, [.int 0, .ref zw, .ref zm, .ref zc, .ref zv, .ref zt, .int 12, .int 0, .int 0, .int 0, .int 0, .long 0, .int 0, .int 0, .int 0, .int (-1), .ref zn, .ref zh, .ref zp, .ref ze, .ref zs, .ref zg, .ref zk, .ref za, .ref zd, .ref zf, .ref zo, .ref zE, .ref zq, .int 0, .int 0, .int 0, .int 0, .int 0, .int 0, .ref zC])), (zt, .inl (t 0, 1400, .inl u))])) := by
  refine ent (by decide) (Nat.le_of_ble_eq_true rfl) ?_
  intro p e s m args below meth c hx hb hr hml hts hown hlocks hin A hA hK hO hP hD hS ls hl
  have hown : s.vm.findClass RX12 = some m.cls := hown
  have hl : lv_has ls 3 [(0, .ref z), (1, .int v0)] := hl
  have C0 : Cx p s m args c cX12_four 3 RX12 G t := ⟨hx, hb, hml, hown, hts, hK, hO⟩
  refine lv_bipush (v := 24) hx hb dX12_four_0 (by decide) ?_
  refine lv_istore_n (lv' := [(2, .int 24), (0, .ref z), (1, .int v0)]) hx hb dX12_four_2 rfl hl (by decide) rfl (fun ls hl => ?_)
  refine lv_iload_n hx hb dX12_four_3 rfl (lv_at hl 0 rfl) ?_
  refine lv_if_lt (tgt := 36) hx hb dX12_four_4 (by decide) (fun c_1 => absurd c_1 (by decide)) (fun _ => ?_)
  refine lv_aload_n hx hb dX12_four_7 rfl (lv_at hl 1 rfl) ?_
  refine gf hx hb hts hown hK hP 0 inT12 rfl rfl 5 (by decide) tw5_230 rfl dX12_four_8 ?_
  refine lv_aload_n hx hb dX12_four_11 rfl (lv_at hl 1 rfl) ?_
  refine gf hx hb hts hown hK hP 0 inT12 rfl rfl 6 (by decide) tw5_231 rfl dX12_four_12 ?_
  refine lv_iload_n hx hb dX12_four_15 rfl (lv_at hl 2 rfl) ?_
  refine lv_iload_n hx hb dX12_four_16 rfl (lv_at hl 0 rfl) ?_
  refine lv_ishr hx hb dX12_four_17 ?_
  refine lv_i2b (v := (v0 >>> (24 &&& 31)).toInt8.toInt32) hx hb dX12_four_18 (rfl) ?_
  obtain ⟨f_2, ef_2⟩ : ∃ z : Nat → Int32, z = upd f0 (8 : Int32).toNatClampNeg (vp_nar .byte (v0 >>> (24 &&& 31)).toInt8.toInt32) := ⟨_, rfl⟩
  refine stB hx hb hK hP hD hS 1 rfl (by unfold vp_in; decide) dX12_four_19 (f' := f_2) (ef_2.symm) (ws' := [(z, .inr (12, [.int 0, .ref zw, .ref zm, .ref zc, .ref zv, .ref zt, .int 8, .int 0, .int 0, .int 0, .int 0, .long 0, .int 0, .int 0, .int 0, .int (-1), .ref zn, .ref zh, .ref zp, .ref ze, .ref zs, .ref zg, .ref zk, .ref za, .ref zd, .ref zf, .ref zo, .ref zE, .ref zq, .int 0, .int 0, .int 0, .int 0, .int 0, .int 0, .ref zC])), (zt, .inl (t 0, 1400, .inl f_2))]) rfl (fun H locs hP hD hS => ?_)
  refine lv_aload_n hx hb dX12_four_20 rfl (lv_at hl 1 rfl) ?_
  refine lv_dup hx hb dX12_four_21 rfl ?_
  refine gf hx hb hts hown hK hP 0 inT12 rfl rfl 6 (by decide) tw5_231 rfl dX12_four_22 ?_
  refine lv_iconst (v := 1) hx hb dX12_four_25 (by decide) ?_
  refine lv_iadd hx hb dX12_four_26 (tpi (v := 9) (by decide) ?_)
  refine pf hx hb hts hown hK hP hD hS 0 inT12 tyX12_ok nmX12 rfl rfl 6 (by decide) tw5_231 rfl rfl rfl (Nat.le_of_ble_eq_true rfl) dX12_four_27 (ws' := [(z, .inr (12, [.int 0, .ref zw, .ref zm, .ref zc, .ref zv, .ref zt, .int 9, .int 0, .int 0, .int 0, .int 0, .long 0, .int 0, .int 0, .int 0, .int (-1), .ref zn, .ref zh, .ref zp, .ref ze, .ref zs, .ref zg, .ref zk, .ref za, .ref zd, .ref zf, .ref zo, .ref zE, .ref zq, .int 0, .int 0, .int 0, .int 0, .int 0, .int 0, .ref zC])), (zt, .inl (t 0, 1400, .inl f_2))]) rfl (fun H locs hP hD hS => ?_)
  refine lv_iinc (v := 16) (lv' := [(2, .int 16), (0, .ref z), (1, .int v0)]) hx hb dX12_four_30 hl (k := 0) rfl (by decide) (by decide) rfl (fun ls hl => ?_)
  refine lv_goto (tgt := 3) hx hb dX12_four_33 (by decide) ?_
  refine lv_iload_n hx hb dX12_four_3 rfl (lv_at hl 0 rfl) ?_
  refine lv_if_lt (tgt := 36) hx hb dX12_four_4 (by decide) (fun c_3 => absurd c_3 (by decide)) (fun _ => ?_)
  refine lv_aload_n hx hb dX12_four_7 rfl (lv_at hl 1 rfl) ?_
  refine gf hx hb hts hown hK hP 0 inT12 rfl rfl 5 (by decide) tw5_230 rfl dX12_four_8 ?_
  refine lv_aload_n hx hb dX12_four_11 rfl (lv_at hl 1 rfl) ?_
  refine gf hx hb hts hown hK hP 0 inT12 rfl rfl 6 (by decide) tw5_231 rfl dX12_four_12 ?_
  refine lv_iload_n hx hb dX12_four_15 rfl (lv_at hl 2 rfl) ?_
  refine lv_iload_n hx hb dX12_four_16 rfl (lv_at hl 0 rfl) ?_
  refine lv_ishr hx hb dX12_four_17 ?_
  refine lv_i2b (v := (v0 >>> (16 &&& 31)).toInt8.toInt32) hx hb dX12_four_18 (rfl) ?_
  obtain ⟨f_4, ef_4⟩ : ∃ z : Nat → Int32, z = upd f_2 (9 : Int32).toNatClampNeg (vp_nar .byte (v0 >>> (16 &&& 31)).toInt8.toInt32) := ⟨_, rfl⟩
  refine stB hx hb hK hP hD hS 1 rfl (by unfold vp_in; decide) dX12_four_19 (f' := f_4) (ef_4.symm) (ws' := [(z, .inr (12, [.int 0, .ref zw, .ref zm, .ref zc, .ref zv, .ref zt, .int 9, .int 0, .int 0, .int 0, .int 0, .long 0, .int 0, .int 0, .int 0, .int (-1), .ref zn, .ref zh, .ref zp, .ref ze, .ref zs, .ref zg, .ref zk, .ref za, .ref zd, .ref zf, .ref zo, .ref zE, .ref zq, .int 0, .int 0, .int 0, .int 0, .int 0, .int 0, .ref zC])), (zt, .inl (t 0, 1400, .inl f_4))]) rfl (fun H locs hP hD hS => ?_)
  refine lv_aload_n hx hb dX12_four_20 rfl (lv_at hl 1 rfl) ?_
  refine lv_dup hx hb dX12_four_21 rfl ?_
  refine gf hx hb hts hown hK hP 0 inT12 rfl rfl 6 (by decide) tw5_231 rfl dX12_four_22 ?_
  refine lv_iconst (v := 1) hx hb dX12_four_25 (by decide) ?_
  refine lv_iadd hx hb dX12_four_26 (tpi (v := 10) (by decide) ?_)
  refine pf hx hb hts hown hK hP hD hS 0 inT12 tyX12_ok nmX12 rfl rfl 6 (by decide) tw5_231 rfl rfl rfl (Nat.le_of_ble_eq_true rfl) dX12_four_27 (ws' := [(z, .inr (12, [.int 0, .ref zw, .ref zm, .ref zc, .ref zv, .ref zt, .int 10, .int 0, .int 0, .int 0, .int 0, .long 0, .int 0, .int 0, .int 0, .int (-1), .ref zn, .ref zh, .ref zp, .ref ze, .ref zs, .ref zg, .ref zk, .ref za, .ref zd, .ref zf, .ref zo, .ref zE, .ref zq, .int 0, .int 0, .int 0, .int 0, .int 0, .int 0, .ref zC])), (zt, .inl (t 0, 1400, .inl f_4))]) rfl (fun H locs hP hD hS => ?_)
  refine lv_iinc (v := 8) (lv' := [(2, .int 8), (0, .ref z), (1, .int v0)]) hx hb dX12_four_30 hl (k := 0) rfl (by decide) (by decide) rfl (fun ls hl => ?_)
  refine lv_goto (tgt := 3) hx hb dX12_four_33 (by decide) ?_
  refine lv_iload_n hx hb dX12_four_3 rfl (lv_at hl 0 rfl) ?_
  refine lv_if_lt (tgt := 36) hx hb dX12_four_4 (by decide) (fun c_5 => absurd c_5 (by decide)) (fun _ => ?_)
  refine lv_aload_n hx hb dX12_four_7 rfl (lv_at hl 1 rfl) ?_
  refine gf hx hb hts hown hK hP 0 inT12 rfl rfl 5 (by decide) tw5_230 rfl dX12_four_8 ?_
  refine lv_aload_n hx hb dX12_four_11 rfl (lv_at hl 1 rfl) ?_
  refine gf hx hb hts hown hK hP 0 inT12 rfl rfl 6 (by decide) tw5_231 rfl dX12_four_12 ?_
  refine lv_iload_n hx hb dX12_four_15 rfl (lv_at hl 2 rfl) ?_
  refine lv_iload_n hx hb dX12_four_16 rfl (lv_at hl 0 rfl) ?_
  refine lv_ishr hx hb dX12_four_17 ?_
  refine lv_i2b (v := (v0 >>> (8 &&& 31)).toInt8.toInt32) hx hb dX12_four_18 (rfl) ?_
  obtain ⟨f_6, ef_6⟩ : ∃ z : Nat → Int32, z = upd f_4 (10 : Int32).toNatClampNeg (vp_nar .byte (v0 >>> (8 &&& 31)).toInt8.toInt32) := ⟨_, rfl⟩
  refine stB hx hb hK hP hD hS 1 rfl (by unfold vp_in; decide) dX12_four_19 (f' := f_6) (ef_6.symm) (ws' := [(z, .inr (12, [.int 0, .ref zw, .ref zm, .ref zc, .ref zv, .ref zt, .int 10, .int 0, .int 0, .int 0, .int 0, .long 0, .int 0, .int 0, .int 0, .int (-1), .ref zn, .ref zh, .ref zp, .ref ze, .ref zs, .ref zg, .ref zk, .ref za, .ref zd, .ref zf, .ref zo, .ref zE, .ref zq, .int 0, .int 0, .int 0, .int 0, .int 0, .int 0, .ref zC])), (zt, .inl (t 0, 1400, .inl f_6))]) rfl (fun H locs hP hD hS => ?_)
  refine lv_aload_n hx hb dX12_four_20 rfl (lv_at hl 1 rfl) ?_
  refine lv_dup hx hb dX12_four_21 rfl ?_
  refine gf hx hb hts hown hK hP 0 inT12 rfl rfl 6 (by decide) tw5_231 rfl dX12_four_22 ?_
  refine lv_iconst (v := 1) hx hb dX12_four_25 (by decide) ?_
  refine lv_iadd hx hb dX12_four_26 (tpi (v := 11) (by decide) ?_)
  refine pf hx hb hts hown hK hP hD hS 0 inT12 tyX12_ok nmX12 rfl rfl 6 (by decide) tw5_231 rfl rfl rfl (Nat.le_of_ble_eq_true rfl) dX12_four_27 (ws' := [(z, .inr (12, [.int 0, .ref zw, .ref zm, .ref zc, .ref zv, .ref zt, .int 11, .int 0, .int 0, .int 0, .int 0, .long 0, .int 0, .int 0, .int 0, .int (-1), .ref zn, .ref zh, .ref zp, .ref ze, .ref zs, .ref zg, .ref zk, .ref za, .ref zd, .ref zf, .ref zo, .ref zE, .ref zq, .int 0, .int 0, .int 0, .int 0, .int 0, .int 0, .ref zC])), (zt, .inl (t 0, 1400, .inl f_6))]) rfl (fun H locs hP hD hS => ?_)
  refine lv_iinc (v := 0) (lv' := [(2, .int 0), (0, .ref z), (1, .int v0)]) hx hb dX12_four_30 hl (k := 0) rfl (by decide) (by decide) rfl (fun ls hl => ?_)
  refine lv_goto (tgt := 3) hx hb dX12_four_33 (by decide) ?_
  refine lv_iload_n hx hb dX12_four_3 rfl (lv_at hl 0 rfl) ?_
  refine lv_if_lt (tgt := 36) hx hb dX12_four_4 (by decide) (fun c_7 => absurd c_7 (by decide)) (fun _ => ?_)
  refine lv_aload_n hx hb dX12_four_7 rfl (lv_at hl 1 rfl) ?_
  refine gf hx hb hts hown hK hP 0 inT12 rfl rfl 5 (by decide) tw5_230 rfl dX12_four_8 ?_
  refine lv_aload_n hx hb dX12_four_11 rfl (lv_at hl 1 rfl) ?_
  refine gf hx hb hts hown hK hP 0 inT12 rfl rfl 6 (by decide) tw5_231 rfl dX12_four_12 ?_
  refine lv_iload_n hx hb dX12_four_15 rfl (lv_at hl 2 rfl) ?_
  refine lv_iload_n hx hb dX12_four_16 rfl (lv_at hl 0 rfl) ?_
  refine lv_ishr hx hb dX12_four_17 ?_
  refine lv_i2b (v := (v0 >>> (0 &&& 31)).toInt8.toInt32) hx hb dX12_four_18 (rfl) ?_
  obtain ⟨f_8, ef_8⟩ : ∃ z : Nat → Int32, z = upd f_6 (11 : Int32).toNatClampNeg (vp_nar .byte (v0 >>> (0 &&& 31)).toInt8.toInt32) := ⟨_, rfl⟩
  refine stB hx hb hK hP hD hS 1 rfl (by unfold vp_in; decide) dX12_four_19 (f' := f_8) (ef_8.symm) (ws' := [(z, .inr (12, [.int 0, .ref zw, .ref zm, .ref zc, .ref zv, .ref zt, .int 11, .int 0, .int 0, .int 0, .int 0, .long 0, .int 0, .int 0, .int 0, .int (-1), .ref zn, .ref zh, .ref zp, .ref ze, .ref zs, .ref zg, .ref zk, .ref za, .ref zd, .ref zf, .ref zo, .ref zE, .ref zq, .int 0, .int 0, .int 0, .int 0, .int 0, .int 0, .ref zC])), (zt, .inl (t 0, 1400, .inl f_8))]) rfl (fun H locs hP hD hS => ?_)
  refine lv_aload_n hx hb dX12_four_20 rfl (lv_at hl 1 rfl) ?_
  refine lv_dup hx hb dX12_four_21 rfl ?_
  refine gf hx hb hts hown hK hP 0 inT12 rfl rfl 6 (by decide) tw5_231 rfl dX12_four_22 ?_
  refine lv_iconst (v := 1) hx hb dX12_four_25 (by decide) ?_
  refine lv_iadd hx hb dX12_four_26 (tpi (v := 12) (by decide) ?_)
  refine pf hx hb hts hown hK hP hD hS 0 inT12 tyX12_ok nmX12 rfl rfl 6 (by decide) tw5_231 rfl rfl rfl (Nat.le_of_ble_eq_true rfl) dX12_four_27 (ws' := [(z, .inr (12, [.int 0, .ref zw, .ref zm, .ref zc, .ref zv, .ref zt, .int 12, .int 0, .int 0, .int 0, .int 0, .long 0, .int 0, .int 0, .int 0, .int (-1), .ref zn, .ref zh, .ref zp, .ref ze, .ref zs, .ref zg, .ref zk, .ref za, .ref zd, .ref zf, .ref zo, .ref zE, .ref zq, .int 0, .int 0, .int 0, .int 0, .int 0, .int 0, .ref zC])), (zt, .inl (t 0, 1400, .inl f_8))]) rfl (fun H locs hP hD hS => ?_)
  refine lv_iinc (v := (-8)) (lv' := [(2, .int (-8)), (0, .ref z), (1, .int v0)]) hx hb dX12_four_30 hl (k := 0) rfl (by decide) (by decide) rfl (fun ls hl => ?_)
  refine lv_goto (tgt := 3) hx hb dX12_four_33 (by decide) ?_
  refine lv_iload_n hx hb dX12_four_3 rfl (lv_at hl 0 rfl) ?_
  refine lv_if_lt (tgt := 36) hx hb dX12_four_4 (by decide) (fun _ => ?_) (fun c_9 => absurd (by decide) c_9)
  refine W.widen (k := 0) (n := 0) (by decide) (by decide) ?_
  exact rtV hx hb hr hlocks hS f_8 (trivial) (hP.sub [0, 1] rfl) (hD.sub [0, 1] (by decide) rfl) dX12_four_36

set_option maxHeartbeats 4000000 in
set_option maxRecDepth 100000 in
theorem c_four12 (l : Launch) (G : va_G) (t : Nat → ClassId) (z : Nat) (zw : Nat) (zm : Nat) (zc : Nat) (zv : Nat) (zt : Nat) (zn : Nat) (zh : Nat) (zp : Nat) (ze : Nat) (zs : Nat) (zg : Nat) (zk : Nat) (za : Nat) (zd : Nat) (zf : Nat) (zo : Nat) (zE : Nat) (zq : Nat) (zC : Nat) (f0 : Nat → Int32) (v0 : Int32) : Ct l G t yX12_four cX12_four 3 none ({ frames := 0, cells := 0, slots := 0, locals := 0 }) [.ref z, .int v0] [(z, .inr (12, [.int 0, .ref zw, .ref zm, .ref zc, .ref zv, .ref zt, .int 12, .int 0, .int 0, .int 0, .int 0, .long 0, .int 0, .int 0, .int 0, .int (-1), .ref zn, .ref zh, .ref zp, .ref ze, .ref zs, .ref zg, .ref zk, .ref za, .ref zd, .ref zf, .ref zo, .ref zE, .ref zq, .int 0, .int 0, .int 0, .int 0, .int 0, .int 0, .ref zC])), (zt, .inl (t 0, 1400, .inl f0))] (QV G (fun (u : (Nat → Int32)) => True) (fun (u : (Nat → Int32)) => [(z, .inr (12, [.int 0, .ref zw, .ref zm, .ref zc, .ref zv, .ref zt, .int 16, .int 0, .int 0, .int 0, .int 0, .long 0, .int 0, .int 0, .int 0, .int (-1), .ref zn, .ref zh, .ref zp, .ref ze, .ref zs, .ref zg, .ref zk, .ref za, .ref zd, .ref zf, .ref zo, .ref zE, .ref zq, .int 0, .int 0, .int 0, .int 0, .int 0, .int 0, .ref zC])), (zt, .inl (t 0, 1400, .inl u))])) := by
  refine ent (by decide) (Nat.le_of_ble_eq_true rfl) ?_
  intro p e s m args below meth c hx hb hr hml hts hown hlocks hin A hA hK hO hP hD hS ls hl
  have hown : s.vm.findClass RX12 = some m.cls := hown
  have hl : lv_has ls 3 [(0, .ref z), (1, .int v0)] := hl
  have C0 : Cx p s m args c cX12_four 3 RX12 G t := ⟨hx, hb, hml, hown, hts, hK, hO⟩
  refine lv_bipush (v := 24) hx hb dX12_four_0 (by decide) ?_
  refine lv_istore_n (lv' := [(2, .int 24), (0, .ref z), (1, .int v0)]) hx hb dX12_four_2 rfl hl (by decide) rfl (fun ls hl => ?_)
  refine lv_iload_n hx hb dX12_four_3 rfl (lv_at hl 0 rfl) ?_
  refine lv_if_lt (tgt := 36) hx hb dX12_four_4 (by decide) (fun c_1 => absurd c_1 (by decide)) (fun _ => ?_)
  refine lv_aload_n hx hb dX12_four_7 rfl (lv_at hl 1 rfl) ?_
  refine gf hx hb hts hown hK hP 0 inT12 rfl rfl 5 (by decide) tw5_230 rfl dX12_four_8 ?_
  refine lv_aload_n hx hb dX12_four_11 rfl (lv_at hl 1 rfl) ?_
  refine gf hx hb hts hown hK hP 0 inT12 rfl rfl 6 (by decide) tw5_231 rfl dX12_four_12 ?_
  refine lv_iload_n hx hb dX12_four_15 rfl (lv_at hl 2 rfl) ?_
  refine lv_iload_n hx hb dX12_four_16 rfl (lv_at hl 0 rfl) ?_
  refine lv_ishr hx hb dX12_four_17 ?_
  refine lv_i2b (v := (v0 >>> (24 &&& 31)).toInt8.toInt32) hx hb dX12_four_18 (rfl) ?_
  obtain ⟨f_2, ef_2⟩ : ∃ z : Nat → Int32, z = upd f0 (12 : Int32).toNatClampNeg (vp_nar .byte (v0 >>> (24 &&& 31)).toInt8.toInt32) := ⟨_, rfl⟩
  refine stB hx hb hK hP hD hS 1 rfl (by unfold vp_in; decide) dX12_four_19 (f' := f_2) (ef_2.symm) (ws' := [(z, .inr (12, [.int 0, .ref zw, .ref zm, .ref zc, .ref zv, .ref zt, .int 12, .int 0, .int 0, .int 0, .int 0, .long 0, .int 0, .int 0, .int 0, .int (-1), .ref zn, .ref zh, .ref zp, .ref ze, .ref zs, .ref zg, .ref zk, .ref za, .ref zd, .ref zf, .ref zo, .ref zE, .ref zq, .int 0, .int 0, .int 0, .int 0, .int 0, .int 0, .ref zC])), (zt, .inl (t 0, 1400, .inl f_2))]) rfl (fun H locs hP hD hS => ?_)
  refine lv_aload_n hx hb dX12_four_20 rfl (lv_at hl 1 rfl) ?_
  refine lv_dup hx hb dX12_four_21 rfl ?_
  refine gf hx hb hts hown hK hP 0 inT12 rfl rfl 6 (by decide) tw5_231 rfl dX12_four_22 ?_
  refine lv_iconst (v := 1) hx hb dX12_four_25 (by decide) ?_
  refine lv_iadd hx hb dX12_four_26 (tpi (v := 13) (by decide) ?_)
  refine pf hx hb hts hown hK hP hD hS 0 inT12 tyX12_ok nmX12 rfl rfl 6 (by decide) tw5_231 rfl rfl rfl (Nat.le_of_ble_eq_true rfl) dX12_four_27 (ws' := [(z, .inr (12, [.int 0, .ref zw, .ref zm, .ref zc, .ref zv, .ref zt, .int 13, .int 0, .int 0, .int 0, .int 0, .long 0, .int 0, .int 0, .int 0, .int (-1), .ref zn, .ref zh, .ref zp, .ref ze, .ref zs, .ref zg, .ref zk, .ref za, .ref zd, .ref zf, .ref zo, .ref zE, .ref zq, .int 0, .int 0, .int 0, .int 0, .int 0, .int 0, .ref zC])), (zt, .inl (t 0, 1400, .inl f_2))]) rfl (fun H locs hP hD hS => ?_)
  refine lv_iinc (v := 16) (lv' := [(2, .int 16), (0, .ref z), (1, .int v0)]) hx hb dX12_four_30 hl (k := 0) rfl (by decide) (by decide) rfl (fun ls hl => ?_)
  refine lv_goto (tgt := 3) hx hb dX12_four_33 (by decide) ?_
  refine lv_iload_n hx hb dX12_four_3 rfl (lv_at hl 0 rfl) ?_
  refine lv_if_lt (tgt := 36) hx hb dX12_four_4 (by decide) (fun c_3 => absurd c_3 (by decide)) (fun _ => ?_)
  refine lv_aload_n hx hb dX12_four_7 rfl (lv_at hl 1 rfl) ?_
  refine gf hx hb hts hown hK hP 0 inT12 rfl rfl 5 (by decide) tw5_230 rfl dX12_four_8 ?_
  refine lv_aload_n hx hb dX12_four_11 rfl (lv_at hl 1 rfl) ?_
  refine gf hx hb hts hown hK hP 0 inT12 rfl rfl 6 (by decide) tw5_231 rfl dX12_four_12 ?_
  refine lv_iload_n hx hb dX12_four_15 rfl (lv_at hl 2 rfl) ?_
  refine lv_iload_n hx hb dX12_four_16 rfl (lv_at hl 0 rfl) ?_
  refine lv_ishr hx hb dX12_four_17 ?_
  refine lv_i2b (v := (v0 >>> (16 &&& 31)).toInt8.toInt32) hx hb dX12_four_18 (rfl) ?_
  obtain ⟨f_4, ef_4⟩ : ∃ z : Nat → Int32, z = upd f_2 (13 : Int32).toNatClampNeg (vp_nar .byte (v0 >>> (16 &&& 31)).toInt8.toInt32) := ⟨_, rfl⟩
  refine stB hx hb hK hP hD hS 1 rfl (by unfold vp_in; decide) dX12_four_19 (f' := f_4) (ef_4.symm) (ws' := [(z, .inr (12, [.int 0, .ref zw, .ref zm, .ref zc, .ref zv, .ref zt, .int 13, .int 0, .int 0, .int 0, .int 0, .long 0, .int 0, .int 0, .int 0, .int (-1), .ref zn, .ref zh, .ref zp, .ref ze, .ref zs, .ref zg, .ref zk, .ref za, .ref zd, .ref zf, .ref zo, .ref zE, .ref zq, .int 0, .int 0, .int 0, .int 0, .int 0, .int 0, .ref zC])), (zt, .inl (t 0, 1400, .inl f_4))]) rfl (fun H locs hP hD hS => ?_)
  refine lv_aload_n hx hb dX12_four_20 rfl (lv_at hl 1 rfl) ?_
  refine lv_dup hx hb dX12_four_21 rfl ?_
  refine gf hx hb hts hown hK hP 0 inT12 rfl rfl 6 (by decide) tw5_231 rfl dX12_four_22 ?_
  refine lv_iconst (v := 1) hx hb dX12_four_25 (by decide) ?_
  refine lv_iadd hx hb dX12_four_26 (tpi (v := 14) (by decide) ?_)
  refine pf hx hb hts hown hK hP hD hS 0 inT12 tyX12_ok nmX12 rfl rfl 6 (by decide) tw5_231 rfl rfl rfl (Nat.le_of_ble_eq_true rfl) dX12_four_27 (ws' := [(z, .inr (12, [.int 0, .ref zw, .ref zm, .ref zc, .ref zv, .ref zt, .int 14, .int 0, .int 0, .int 0, .int 0, .long 0, .int 0, .int 0, .int 0, .int (-1), .ref zn, .ref zh, .ref zp, .ref ze, .ref zs, .ref zg, .ref zk, .ref za, .ref zd, .ref zf, .ref zo, .ref zE, .ref zq, .int 0, .int 0, .int 0, .int 0, .int 0, .int 0, .ref zC])), (zt, .inl (t 0, 1400, .inl f_4))]) rfl (fun H locs hP hD hS => ?_)
  refine lv_iinc (v := 8) (lv' := [(2, .int 8), (0, .ref z), (1, .int v0)]) hx hb dX12_four_30 hl (k := 0) rfl (by decide) (by decide) rfl (fun ls hl => ?_)
  refine lv_goto (tgt := 3) hx hb dX12_four_33 (by decide) ?_
  refine lv_iload_n hx hb dX12_four_3 rfl (lv_at hl 0 rfl) ?_
  refine lv_if_lt (tgt := 36) hx hb dX12_four_4 (by decide) (fun c_5 => absurd c_5 (by decide)) (fun _ => ?_)
  refine lv_aload_n hx hb dX12_four_7 rfl (lv_at hl 1 rfl) ?_
  refine gf hx hb hts hown hK hP 0 inT12 rfl rfl 5 (by decide) tw5_230 rfl dX12_four_8 ?_
  refine lv_aload_n hx hb dX12_four_11 rfl (lv_at hl 1 rfl) ?_
  refine gf hx hb hts hown hK hP 0 inT12 rfl rfl 6 (by decide) tw5_231 rfl dX12_four_12 ?_
  refine lv_iload_n hx hb dX12_four_15 rfl (lv_at hl 2 rfl) ?_
  refine lv_iload_n hx hb dX12_four_16 rfl (lv_at hl 0 rfl) ?_
  refine lv_ishr hx hb dX12_four_17 ?_
  refine lv_i2b (v := (v0 >>> (8 &&& 31)).toInt8.toInt32) hx hb dX12_four_18 (rfl) ?_
  obtain ⟨f_6, ef_6⟩ : ∃ z : Nat → Int32, z = upd f_4 (14 : Int32).toNatClampNeg (vp_nar .byte (v0 >>> (8 &&& 31)).toInt8.toInt32) := ⟨_, rfl⟩
  refine stB hx hb hK hP hD hS 1 rfl (by unfold vp_in; decide) dX12_four_19 (f' := f_6) (ef_6.symm) (ws' := [(z, .inr (12, [.int 0, .ref zw, .ref zm, .ref zc, .ref zv, .ref zt, .int 14, .int 0, .int 0, .int 0, .int 0, .long 0, .int 0, .int 0, .int 0, .int (-1), .ref zn, .ref zh, .ref zp, .ref ze, .ref zs, .ref zg, .ref zk, .ref za, .ref zd, .ref zf, .ref zo, .ref zE, .ref zq, .int 0, .int 0, .int 0, .int 0, .int 0, .int 0, .ref zC])), (zt, .inl (t 0, 1400, .inl f_6))]) rfl (fun H locs hP hD hS => ?_)
  refine lv_aload_n hx hb dX12_four_20 rfl (lv_at hl 1 rfl) ?_
  refine lv_dup hx hb dX12_four_21 rfl ?_
  refine gf hx hb hts hown hK hP 0 inT12 rfl rfl 6 (by decide) tw5_231 rfl dX12_four_22 ?_
  refine lv_iconst (v := 1) hx hb dX12_four_25 (by decide) ?_
  refine lv_iadd hx hb dX12_four_26 (tpi (v := 15) (by decide) ?_)
  refine pf hx hb hts hown hK hP hD hS 0 inT12 tyX12_ok nmX12 rfl rfl 6 (by decide) tw5_231 rfl rfl rfl (Nat.le_of_ble_eq_true rfl) dX12_four_27 (ws' := [(z, .inr (12, [.int 0, .ref zw, .ref zm, .ref zc, .ref zv, .ref zt, .int 15, .int 0, .int 0, .int 0, .int 0, .long 0, .int 0, .int 0, .int 0, .int (-1), .ref zn, .ref zh, .ref zp, .ref ze, .ref zs, .ref zg, .ref zk, .ref za, .ref zd, .ref zf, .ref zo, .ref zE, .ref zq, .int 0, .int 0, .int 0, .int 0, .int 0, .int 0, .ref zC])), (zt, .inl (t 0, 1400, .inl f_6))]) rfl (fun H locs hP hD hS => ?_)
  refine lv_iinc (v := 0) (lv' := [(2, .int 0), (0, .ref z), (1, .int v0)]) hx hb dX12_four_30 hl (k := 0) rfl (by decide) (by decide) rfl (fun ls hl => ?_)
  refine lv_goto (tgt := 3) hx hb dX12_four_33 (by decide) ?_
  refine lv_iload_n hx hb dX12_four_3 rfl (lv_at hl 0 rfl) ?_
  refine lv_if_lt (tgt := 36) hx hb dX12_four_4 (by decide) (fun c_7 => absurd c_7 (by decide)) (fun _ => ?_)
  refine lv_aload_n hx hb dX12_four_7 rfl (lv_at hl 1 rfl) ?_
  refine gf hx hb hts hown hK hP 0 inT12 rfl rfl 5 (by decide) tw5_230 rfl dX12_four_8 ?_
  refine lv_aload_n hx hb dX12_four_11 rfl (lv_at hl 1 rfl) ?_
  refine gf hx hb hts hown hK hP 0 inT12 rfl rfl 6 (by decide) tw5_231 rfl dX12_four_12 ?_
  refine lv_iload_n hx hb dX12_four_15 rfl (lv_at hl 2 rfl) ?_
  refine lv_iload_n hx hb dX12_four_16 rfl (lv_at hl 0 rfl) ?_
  refine lv_ishr hx hb dX12_four_17 ?_
  refine lv_i2b (v := (v0 >>> (0 &&& 31)).toInt8.toInt32) hx hb dX12_four_18 (rfl) ?_
  obtain ⟨f_8, ef_8⟩ : ∃ z : Nat → Int32, z = upd f_6 (15 : Int32).toNatClampNeg (vp_nar .byte (v0 >>> (0 &&& 31)).toInt8.toInt32) := ⟨_, rfl⟩
  refine stB hx hb hK hP hD hS 1 rfl (by unfold vp_in; decide) dX12_four_19 (f' := f_8) (ef_8.symm) (ws' := [(z, .inr (12, [.int 0, .ref zw, .ref zm, .ref zc, .ref zv, .ref zt, .int 15, .int 0, .int 0, .int 0, .int 0, .long 0, .int 0, .int 0, .int 0, .int (-1), .ref zn, .ref zh, .ref zp, .ref ze, .ref zs, .ref zg, .ref zk, .ref za, .ref zd, .ref zf, .ref zo, .ref zE, .ref zq, .int 0, .int 0, .int 0, .int 0, .int 0, .int 0, .ref zC])), (zt, .inl (t 0, 1400, .inl f_8))]) rfl (fun H locs hP hD hS => ?_)
  refine lv_aload_n hx hb dX12_four_20 rfl (lv_at hl 1 rfl) ?_
  refine lv_dup hx hb dX12_four_21 rfl ?_
  refine gf hx hb hts hown hK hP 0 inT12 rfl rfl 6 (by decide) tw5_231 rfl dX12_four_22 ?_
  refine lv_iconst (v := 1) hx hb dX12_four_25 (by decide) ?_
  refine lv_iadd hx hb dX12_four_26 (tpi (v := 16) (by decide) ?_)
  refine pf hx hb hts hown hK hP hD hS 0 inT12 tyX12_ok nmX12 rfl rfl 6 (by decide) tw5_231 rfl rfl rfl (Nat.le_of_ble_eq_true rfl) dX12_four_27 (ws' := [(z, .inr (12, [.int 0, .ref zw, .ref zm, .ref zc, .ref zv, .ref zt, .int 16, .int 0, .int 0, .int 0, .int 0, .long 0, .int 0, .int 0, .int 0, .int (-1), .ref zn, .ref zh, .ref zp, .ref ze, .ref zs, .ref zg, .ref zk, .ref za, .ref zd, .ref zf, .ref zo, .ref zE, .ref zq, .int 0, .int 0, .int 0, .int 0, .int 0, .int 0, .ref zC])), (zt, .inl (t 0, 1400, .inl f_8))]) rfl (fun H locs hP hD hS => ?_)
  refine lv_iinc (v := (-8)) (lv' := [(2, .int (-8)), (0, .ref z), (1, .int v0)]) hx hb dX12_four_30 hl (k := 0) rfl (by decide) (by decide) rfl (fun ls hl => ?_)
  refine lv_goto (tgt := 3) hx hb dX12_four_33 (by decide) ?_
  refine lv_iload_n hx hb dX12_four_3 rfl (lv_at hl 0 rfl) ?_
  refine lv_if_lt (tgt := 36) hx hb dX12_four_4 (by decide) (fun _ => ?_) (fun c_9 => absurd (by decide) c_9)
  refine W.widen (k := 0) (n := 0) (by decide) (by decide) ?_
  exact rtV hx hb hr hlocks hS f_8 (trivial) (hP.sub [0, 1] rfl) (hD.sub [0, 1] (by decide) rfl) dX12_four_36

set_option maxHeartbeats 4000000 in
set_option maxRecDepth 100000 in
theorem c_four16 (l : Launch) (G : va_G) (t : Nat → ClassId) (z : Nat) (zw : Nat) (zm : Nat) (zc : Nat) (zv : Nat) (zt : Nat) (zn : Nat) (zh : Nat) (zp : Nat) (ze : Nat) (zs : Nat) (zg : Nat) (zk : Nat) (za : Nat) (zd : Nat) (zf : Nat) (zo : Nat) (zE : Nat) (zq : Nat) (zC : Nat) (f0 : Nat → Int32) (v0 : Int32) : Ct l G t yX12_four cX12_four 3 none ({ frames := 0, cells := 0, slots := 0, locals := 0 }) [.ref z, .int v0] [(z, .inr (12, [.int 0, .ref zw, .ref zm, .ref zc, .ref zv, .ref zt, .int 16, .int 0, .int 0, .int 0, .int 0, .long 0, .int 0, .int 0, .int 0, .int (-1), .ref zn, .ref zh, .ref zp, .ref ze, .ref zs, .ref zg, .ref zk, .ref za, .ref zd, .ref zf, .ref zo, .ref zE, .ref zq, .int 0, .int 0, .int 0, .int 0, .int 0, .int 0, .ref zC])), (zt, .inl (t 0, 1400, .inl f0))] (QV G (fun (u : (Nat → Int32)) => True) (fun (u : (Nat → Int32)) => [(z, .inr (12, [.int 0, .ref zw, .ref zm, .ref zc, .ref zv, .ref zt, .int 20, .int 0, .int 0, .int 0, .int 0, .long 0, .int 0, .int 0, .int 0, .int (-1), .ref zn, .ref zh, .ref zp, .ref ze, .ref zs, .ref zg, .ref zk, .ref za, .ref zd, .ref zf, .ref zo, .ref zE, .ref zq, .int 0, .int 0, .int 0, .int 0, .int 0, .int 0, .ref zC])), (zt, .inl (t 0, 1400, .inl u))])) := by
  refine ent (by decide) (Nat.le_of_ble_eq_true rfl) ?_
  intro p e s m args below meth c hx hb hr hml hts hown hlocks hin A hA hK hO hP hD hS ls hl
  have hown : s.vm.findClass RX12 = some m.cls := hown
  have hl : lv_has ls 3 [(0, .ref z), (1, .int v0)] := hl
  have C0 : Cx p s m args c cX12_four 3 RX12 G t := ⟨hx, hb, hml, hown, hts, hK, hO⟩
  refine lv_bipush (v := 24) hx hb dX12_four_0 (by decide) ?_
  refine lv_istore_n (lv' := [(2, .int 24), (0, .ref z), (1, .int v0)]) hx hb dX12_four_2 rfl hl (by decide) rfl (fun ls hl => ?_)
  refine lv_iload_n hx hb dX12_four_3 rfl (lv_at hl 0 rfl) ?_
  refine lv_if_lt (tgt := 36) hx hb dX12_four_4 (by decide) (fun c_1 => absurd c_1 (by decide)) (fun _ => ?_)
  refine lv_aload_n hx hb dX12_four_7 rfl (lv_at hl 1 rfl) ?_
  refine gf hx hb hts hown hK hP 0 inT12 rfl rfl 5 (by decide) tw5_230 rfl dX12_four_8 ?_
  refine lv_aload_n hx hb dX12_four_11 rfl (lv_at hl 1 rfl) ?_
  refine gf hx hb hts hown hK hP 0 inT12 rfl rfl 6 (by decide) tw5_231 rfl dX12_four_12 ?_
  refine lv_iload_n hx hb dX12_four_15 rfl (lv_at hl 2 rfl) ?_
  refine lv_iload_n hx hb dX12_four_16 rfl (lv_at hl 0 rfl) ?_
  refine lv_ishr hx hb dX12_four_17 ?_
  refine lv_i2b (v := (v0 >>> (24 &&& 31)).toInt8.toInt32) hx hb dX12_four_18 (rfl) ?_
  obtain ⟨f_2, ef_2⟩ : ∃ z : Nat → Int32, z = upd f0 (16 : Int32).toNatClampNeg (vp_nar .byte (v0 >>> (24 &&& 31)).toInt8.toInt32) := ⟨_, rfl⟩
  refine stB hx hb hK hP hD hS 1 rfl (by unfold vp_in; decide) dX12_four_19 (f' := f_2) (ef_2.symm) (ws' := [(z, .inr (12, [.int 0, .ref zw, .ref zm, .ref zc, .ref zv, .ref zt, .int 16, .int 0, .int 0, .int 0, .int 0, .long 0, .int 0, .int 0, .int 0, .int (-1), .ref zn, .ref zh, .ref zp, .ref ze, .ref zs, .ref zg, .ref zk, .ref za, .ref zd, .ref zf, .ref zo, .ref zE, .ref zq, .int 0, .int 0, .int 0, .int 0, .int 0, .int 0, .ref zC])), (zt, .inl (t 0, 1400, .inl f_2))]) rfl (fun H locs hP hD hS => ?_)
  refine lv_aload_n hx hb dX12_four_20 rfl (lv_at hl 1 rfl) ?_
  refine lv_dup hx hb dX12_four_21 rfl ?_
  refine gf hx hb hts hown hK hP 0 inT12 rfl rfl 6 (by decide) tw5_231 rfl dX12_four_22 ?_
  refine lv_iconst (v := 1) hx hb dX12_four_25 (by decide) ?_
  refine lv_iadd hx hb dX12_four_26 (tpi (v := 17) (by decide) ?_)
  refine pf hx hb hts hown hK hP hD hS 0 inT12 tyX12_ok nmX12 rfl rfl 6 (by decide) tw5_231 rfl rfl rfl (Nat.le_of_ble_eq_true rfl) dX12_four_27 (ws' := [(z, .inr (12, [.int 0, .ref zw, .ref zm, .ref zc, .ref zv, .ref zt, .int 17, .int 0, .int 0, .int 0, .int 0, .long 0, .int 0, .int 0, .int 0, .int (-1), .ref zn, .ref zh, .ref zp, .ref ze, .ref zs, .ref zg, .ref zk, .ref za, .ref zd, .ref zf, .ref zo, .ref zE, .ref zq, .int 0, .int 0, .int 0, .int 0, .int 0, .int 0, .ref zC])), (zt, .inl (t 0, 1400, .inl f_2))]) rfl (fun H locs hP hD hS => ?_)
  refine lv_iinc (v := 16) (lv' := [(2, .int 16), (0, .ref z), (1, .int v0)]) hx hb dX12_four_30 hl (k := 0) rfl (by decide) (by decide) rfl (fun ls hl => ?_)
  refine lv_goto (tgt := 3) hx hb dX12_four_33 (by decide) ?_
  refine lv_iload_n hx hb dX12_four_3 rfl (lv_at hl 0 rfl) ?_
  refine lv_if_lt (tgt := 36) hx hb dX12_four_4 (by decide) (fun c_3 => absurd c_3 (by decide)) (fun _ => ?_)
  refine lv_aload_n hx hb dX12_four_7 rfl (lv_at hl 1 rfl) ?_
  refine gf hx hb hts hown hK hP 0 inT12 rfl rfl 5 (by decide) tw5_230 rfl dX12_four_8 ?_
  refine lv_aload_n hx hb dX12_four_11 rfl (lv_at hl 1 rfl) ?_
  refine gf hx hb hts hown hK hP 0 inT12 rfl rfl 6 (by decide) tw5_231 rfl dX12_four_12 ?_
  refine lv_iload_n hx hb dX12_four_15 rfl (lv_at hl 2 rfl) ?_
  refine lv_iload_n hx hb dX12_four_16 rfl (lv_at hl 0 rfl) ?_
  refine lv_ishr hx hb dX12_four_17 ?_
  refine lv_i2b (v := (v0 >>> (16 &&& 31)).toInt8.toInt32) hx hb dX12_four_18 (rfl) ?_
  obtain ⟨f_4, ef_4⟩ : ∃ z : Nat → Int32, z = upd f_2 (17 : Int32).toNatClampNeg (vp_nar .byte (v0 >>> (16 &&& 31)).toInt8.toInt32) := ⟨_, rfl⟩
  refine stB hx hb hK hP hD hS 1 rfl (by unfold vp_in; decide) dX12_four_19 (f' := f_4) (ef_4.symm) (ws' := [(z, .inr (12, [.int 0, .ref zw, .ref zm, .ref zc, .ref zv, .ref zt, .int 17, .int 0, .int 0, .int 0, .int 0, .long 0, .int 0, .int 0, .int 0, .int (-1), .ref zn, .ref zh, .ref zp, .ref ze, .ref zs, .ref zg, .ref zk, .ref za, .ref zd, .ref zf, .ref zo, .ref zE, .ref zq, .int 0, .int 0, .int 0, .int 0, .int 0, .int 0, .ref zC])), (zt, .inl (t 0, 1400, .inl f_4))]) rfl (fun H locs hP hD hS => ?_)
  refine lv_aload_n hx hb dX12_four_20 rfl (lv_at hl 1 rfl) ?_
  refine lv_dup hx hb dX12_four_21 rfl ?_
  refine gf hx hb hts hown hK hP 0 inT12 rfl rfl 6 (by decide) tw5_231 rfl dX12_four_22 ?_
  refine lv_iconst (v := 1) hx hb dX12_four_25 (by decide) ?_
  refine lv_iadd hx hb dX12_four_26 (tpi (v := 18) (by decide) ?_)
  refine pf hx hb hts hown hK hP hD hS 0 inT12 tyX12_ok nmX12 rfl rfl 6 (by decide) tw5_231 rfl rfl rfl (Nat.le_of_ble_eq_true rfl) dX12_four_27 (ws' := [(z, .inr (12, [.int 0, .ref zw, .ref zm, .ref zc, .ref zv, .ref zt, .int 18, .int 0, .int 0, .int 0, .int 0, .long 0, .int 0, .int 0, .int 0, .int (-1), .ref zn, .ref zh, .ref zp, .ref ze, .ref zs, .ref zg, .ref zk, .ref za, .ref zd, .ref zf, .ref zo, .ref zE, .ref zq, .int 0, .int 0, .int 0, .int 0, .int 0, .int 0, .ref zC])), (zt, .inl (t 0, 1400, .inl f_4))]) rfl (fun H locs hP hD hS => ?_)
  refine lv_iinc (v := 8) (lv' := [(2, .int 8), (0, .ref z), (1, .int v0)]) hx hb dX12_four_30 hl (k := 0) rfl (by decide) (by decide) rfl (fun ls hl => ?_)
  refine lv_goto (tgt := 3) hx hb dX12_four_33 (by decide) ?_
  refine lv_iload_n hx hb dX12_four_3 rfl (lv_at hl 0 rfl) ?_
  refine lv_if_lt (tgt := 36) hx hb dX12_four_4 (by decide) (fun c_5 => absurd c_5 (by decide)) (fun _ => ?_)
  refine lv_aload_n hx hb dX12_four_7 rfl (lv_at hl 1 rfl) ?_
  refine gf hx hb hts hown hK hP 0 inT12 rfl rfl 5 (by decide) tw5_230 rfl dX12_four_8 ?_
  refine lv_aload_n hx hb dX12_four_11 rfl (lv_at hl 1 rfl) ?_
  refine gf hx hb hts hown hK hP 0 inT12 rfl rfl 6 (by decide) tw5_231 rfl dX12_four_12 ?_
  refine lv_iload_n hx hb dX12_four_15 rfl (lv_at hl 2 rfl) ?_
  refine lv_iload_n hx hb dX12_four_16 rfl (lv_at hl 0 rfl) ?_
  refine lv_ishr hx hb dX12_four_17 ?_
  refine lv_i2b (v := (v0 >>> (8 &&& 31)).toInt8.toInt32) hx hb dX12_four_18 (rfl) ?_
  obtain ⟨f_6, ef_6⟩ : ∃ z : Nat → Int32, z = upd f_4 (18 : Int32).toNatClampNeg (vp_nar .byte (v0 >>> (8 &&& 31)).toInt8.toInt32) := ⟨_, rfl⟩
  refine stB hx hb hK hP hD hS 1 rfl (by unfold vp_in; decide) dX12_four_19 (f' := f_6) (ef_6.symm) (ws' := [(z, .inr (12, [.int 0, .ref zw, .ref zm, .ref zc, .ref zv, .ref zt, .int 18, .int 0, .int 0, .int 0, .int 0, .long 0, .int 0, .int 0, .int 0, .int (-1), .ref zn, .ref zh, .ref zp, .ref ze, .ref zs, .ref zg, .ref zk, .ref za, .ref zd, .ref zf, .ref zo, .ref zE, .ref zq, .int 0, .int 0, .int 0, .int 0, .int 0, .int 0, .ref zC])), (zt, .inl (t 0, 1400, .inl f_6))]) rfl (fun H locs hP hD hS => ?_)
  refine lv_aload_n hx hb dX12_four_20 rfl (lv_at hl 1 rfl) ?_
  refine lv_dup hx hb dX12_four_21 rfl ?_
  refine gf hx hb hts hown hK hP 0 inT12 rfl rfl 6 (by decide) tw5_231 rfl dX12_four_22 ?_
  refine lv_iconst (v := 1) hx hb dX12_four_25 (by decide) ?_
  refine lv_iadd hx hb dX12_four_26 (tpi (v := 19) (by decide) ?_)
  refine pf hx hb hts hown hK hP hD hS 0 inT12 tyX12_ok nmX12 rfl rfl 6 (by decide) tw5_231 rfl rfl rfl (Nat.le_of_ble_eq_true rfl) dX12_four_27 (ws' := [(z, .inr (12, [.int 0, .ref zw, .ref zm, .ref zc, .ref zv, .ref zt, .int 19, .int 0, .int 0, .int 0, .int 0, .long 0, .int 0, .int 0, .int 0, .int (-1), .ref zn, .ref zh, .ref zp, .ref ze, .ref zs, .ref zg, .ref zk, .ref za, .ref zd, .ref zf, .ref zo, .ref zE, .ref zq, .int 0, .int 0, .int 0, .int 0, .int 0, .int 0, .ref zC])), (zt, .inl (t 0, 1400, .inl f_6))]) rfl (fun H locs hP hD hS => ?_)
  refine lv_iinc (v := 0) (lv' := [(2, .int 0), (0, .ref z), (1, .int v0)]) hx hb dX12_four_30 hl (k := 0) rfl (by decide) (by decide) rfl (fun ls hl => ?_)
  refine lv_goto (tgt := 3) hx hb dX12_four_33 (by decide) ?_
  refine lv_iload_n hx hb dX12_four_3 rfl (lv_at hl 0 rfl) ?_
  refine lv_if_lt (tgt := 36) hx hb dX12_four_4 (by decide) (fun c_7 => absurd c_7 (by decide)) (fun _ => ?_)
  refine lv_aload_n hx hb dX12_four_7 rfl (lv_at hl 1 rfl) ?_
  refine gf hx hb hts hown hK hP 0 inT12 rfl rfl 5 (by decide) tw5_230 rfl dX12_four_8 ?_
  refine lv_aload_n hx hb dX12_four_11 rfl (lv_at hl 1 rfl) ?_
  refine gf hx hb hts hown hK hP 0 inT12 rfl rfl 6 (by decide) tw5_231 rfl dX12_four_12 ?_
  refine lv_iload_n hx hb dX12_four_15 rfl (lv_at hl 2 rfl) ?_
  refine lv_iload_n hx hb dX12_four_16 rfl (lv_at hl 0 rfl) ?_
  refine lv_ishr hx hb dX12_four_17 ?_
  refine lv_i2b (v := (v0 >>> (0 &&& 31)).toInt8.toInt32) hx hb dX12_four_18 (rfl) ?_
  obtain ⟨f_8, ef_8⟩ : ∃ z : Nat → Int32, z = upd f_6 (19 : Int32).toNatClampNeg (vp_nar .byte (v0 >>> (0 &&& 31)).toInt8.toInt32) := ⟨_, rfl⟩
  refine stB hx hb hK hP hD hS 1 rfl (by unfold vp_in; decide) dX12_four_19 (f' := f_8) (ef_8.symm) (ws' := [(z, .inr (12, [.int 0, .ref zw, .ref zm, .ref zc, .ref zv, .ref zt, .int 19, .int 0, .int 0, .int 0, .int 0, .long 0, .int 0, .int 0, .int 0, .int (-1), .ref zn, .ref zh, .ref zp, .ref ze, .ref zs, .ref zg, .ref zk, .ref za, .ref zd, .ref zf, .ref zo, .ref zE, .ref zq, .int 0, .int 0, .int 0, .int 0, .int 0, .int 0, .ref zC])), (zt, .inl (t 0, 1400, .inl f_8))]) rfl (fun H locs hP hD hS => ?_)
  refine lv_aload_n hx hb dX12_four_20 rfl (lv_at hl 1 rfl) ?_
  refine lv_dup hx hb dX12_four_21 rfl ?_
  refine gf hx hb hts hown hK hP 0 inT12 rfl rfl 6 (by decide) tw5_231 rfl dX12_four_22 ?_
  refine lv_iconst (v := 1) hx hb dX12_four_25 (by decide) ?_
  refine lv_iadd hx hb dX12_four_26 (tpi (v := 20) (by decide) ?_)
  refine pf hx hb hts hown hK hP hD hS 0 inT12 tyX12_ok nmX12 rfl rfl 6 (by decide) tw5_231 rfl rfl rfl (Nat.le_of_ble_eq_true rfl) dX12_four_27 (ws' := [(z, .inr (12, [.int 0, .ref zw, .ref zm, .ref zc, .ref zv, .ref zt, .int 20, .int 0, .int 0, .int 0, .int 0, .long 0, .int 0, .int 0, .int 0, .int (-1), .ref zn, .ref zh, .ref zp, .ref ze, .ref zs, .ref zg, .ref zk, .ref za, .ref zd, .ref zf, .ref zo, .ref zE, .ref zq, .int 0, .int 0, .int 0, .int 0, .int 0, .int 0, .ref zC])), (zt, .inl (t 0, 1400, .inl f_8))]) rfl (fun H locs hP hD hS => ?_)
  refine lv_iinc (v := (-8)) (lv' := [(2, .int (-8)), (0, .ref z), (1, .int v0)]) hx hb dX12_four_30 hl (k := 0) rfl (by decide) (by decide) rfl (fun ls hl => ?_)
  refine lv_goto (tgt := 3) hx hb dX12_four_33 (by decide) ?_
  refine lv_iload_n hx hb dX12_four_3 rfl (lv_at hl 0 rfl) ?_
  refine lv_if_lt (tgt := 36) hx hb dX12_four_4 (by decide) (fun _ => ?_) (fun c_9 => absurd (by decide) c_9)
  refine W.widen (k := 0) (n := 0) (by decide) (by decide) ?_
  exact rtV hx hb hr hlocks hS f_8 (trivial) (hP.sub [0, 1] rfl) (hD.sub [0, 1] (by decide) rfl) dX12_four_36

set_option maxHeartbeats 4000000 in
set_option maxRecDepth 100000 in
theorem m_feed (l : Launch) (G : va_G) (t : Nat → ClassId) (z : Nat) (zw : Nat) (zm : Nat) (zc : Nat) (zv : Nat) (zt : Nat) (zn : Nat) (zh : Nat) (zp : Nat) (ze : Nat) (zs : Nat) (zg : Nat) (zk : Nat) (za : Nat) (zd : Nat) (zf : Nat) (zo : Nat) (zE : Nat) (zq : Nat) (zC : Nat) (a0 : Int32) (b0 : Int32) (c0 : Int32) (d0 : Int32) (e0 : Int32) : Ct l G t yX12_feed cX12_feed 6 (some .int) ({ frames := 1, cells := 0, slots := 0, locals := 22 }) [.ref z, .int a0, .int b0, .int c0, .int d0, .int e0] [(z, .inr (12, [.int 0, .ref zw, .ref zm, .ref zc, .ref zv, .ref zt, .int 0, .int 0, .int 0, .int 0, .int 0, .long 0, .int 0, .int 0, .int 0, .int (-1), .ref zn, .ref zh, .ref zp, .ref ze, .ref zs, .ref zg, .ref zk, .ref za, .ref zd, .ref zf, .ref zo, .ref zE, .ref zq, .int 0, .int 0, .int 0, .int 0, .int 0, .int 0, .ref zC])), (zt, .inl (t 0, 1400, .inl (fun _ => 0)))] (QI G (fun r (u : Unit) => r = 20) (fun (u : Unit) => [])) := by
  refine ent (by decide) (Nat.le_of_ble_eq_true rfl) ?_
  intro p e s m args below meth c hx hb hr hml hts hown hlocks hin A hA hK hO hP hD hS ls hl
  have hown : s.vm.findClass RX12 = some m.cls := hown
  have hl : lv_has ls 6 [(0, .ref z), (1, .int a0), (2, .int b0), (3, .int c0), (4, .int d0), (5, .int e0)] := hl
  have C0 : Cx p s m args c cX12_feed 6 RX12 G t := ⟨hx, hb, hml, hown, hts, hK, hO⟩
  refine lv_aload_n hx hb dX12_feed_0 rfl (lv_at hl 0 rfl) ?_
  refine lv_iconst (v := 0) hx hb dX12_feed_1 (by decide) ?_
  refine pf hx hb hts hown hK hP hD hS 0 inT12 tyX12_ok nmX12 rfl rfl 0 (by decide) tw5_225 rfl rfl rfl (Nat.le_of_ble_eq_true rfl) dX12_feed_2 (ws' := [(z, .inr (12, [.int 0, .ref zw, .ref zm, .ref zc, .ref zv, .ref zt, .int 0, .int 0, .int 0, .int 0, .int 0, .long 0, .int 0, .int 0, .int 0, .int (-1), .ref zn, .ref zh, .ref zp, .ref ze, .ref zs, .ref zg, .ref zk, .ref za, .ref zd, .ref zf, .ref zo, .ref zE, .ref zq, .int 0, .int 0, .int 0, .int 0, .int 0, .int 0, .ref zC])), (zt, .inl (t 0, 1400, .inl (fun _ => 0)))]) rfl (fun H locs hP hD hS => ?_)
  refine lv_aload_n hx hb dX12_feed_5 rfl (lv_at hl 0 rfl) ?_
  refine gf hx hb hts hown hK hP 0 inT12 rfl rfl 6 (by decide) tw5_231 rfl dX12_feed_6 ?_
  refine lv_bipush (v := 20) hx hb dX12_feed_9 (by decide) ?_
  refine lv_iadd hx hb dX12_feed_11 (tpi (v := 20) (by decide) ?_)
  refine lv_sipush (v := 1400) hx hb dX12_feed_12 (by decide) ?_
  refine lv_icmp_le (tgt := 20) hx hb dX12_feed_15 (by decide) (fun _ => ?_) (fun c_1 => absurd (by decide) c_1)
  refine lv_aload_n hx hb dX12_feed_20 rfl (lv_at hl 0 rfl) ?_
  refine lv_iload_n hx hb dX12_feed_21 rfl (lv_at hl 1 rfl) ?_
  refine goV (rnV C0 (c_four0 l G t z zw zm zc zv zt zn zh zp ze zs zg zk za zd zf zo zE zq zC (fun _ => 0) a0) lkX12_94 ⟨by decide, by decide⟩ (hP.sub (ws' := [(z, .inr (12, [.int 0, .ref zw, .ref zm, .ref zc, .ref zv, .ref zt, .int 0, .int 0, .int 0, .int 0, .int 0, .long 0, .int 0, .int 0, .int 0, .int (-1), .ref zn, .ref zh, .ref zp, .ref ze, .ref zs, .ref zg, .ref zk, .ref za, .ref zd, .ref zf, .ref zo, .ref zE, .ref zq, .int 0, .int 0, .int 0, .int 0, .int 0, .int 0, .ref zC])), (zt, .inl (t 0, 1400, .inl (fun _ => 0)))]) [0, 1] rfl) (hD.sub (ws' := [(z, .inr (12, [.int 0, .ref zw, .ref zm, .ref zc, .ref zv, .ref zt, .int 0, .int 0, .int 0, .int 0, .int 0, .long 0, .int 0, .int 0, .int 0, .int (-1), .ref zn, .ref zh, .ref zp, .ref ze, .ref zs, .ref zg, .ref zk, .ref za, .ref zd, .ref zf, .ref zo, .ref zE, .ref zq, .int 0, .int 0, .int 0, .int 0, .int 0, .int 0, .ref zC])), (zt, .inl (t 0, 1400, .inl (fun _ => 0)))]) [0, 1] (by decide) rfl) 0 12 rfl rfl rfl rfl hl.1 (rest := []) rfl (Nat.le_of_ble_eq_true rfl) dX12_feed_22 ⟨by decide, by decide⟩) hP hD hS hA [0, 1] [] (wr := []) rfl rfl (by decide) (by decide) (fun u H locs h_3 hP hD hS => ?_)
  obtain ⟨u_4, eu_4⟩ : ∃ z, z = u := ⟨_, rfl⟩
  subst eu_4
  have hP : va_P G vwCl [(z, .inr (12, [.int 0, .ref zw, .ref zm, .ref zc, .ref zv, .ref zt, .int 4, .int 0, .int 0, .int 0, .int 0, .long 0, .int 0, .int 0, .int 0, .int (-1), .ref zn, .ref zh, .ref zp, .ref ze, .ref zs, .ref zg, .ref zk, .ref za, .ref zd, .ref zf, .ref zo, .ref zE, .ref zq, .int 0, .int 0, .int 0, .int 0, .int 0, .int 0, .ref zC])), (zt, .inl (t 0, 1400, .inl u_4))] H := hP
  have hD : va_D A [(z, .inr (12, [.int 0, .ref zw, .ref zm, .ref zc, .ref zv, .ref zt, .int 4, .int 0, .int 0, .int 0, .int 0, .long 0, .int 0, .int 0, .int 0, .int (-1), .ref zn, .ref zh, .ref zp, .ref ze, .ref zs, .ref zg, .ref zk, .ref za, .ref zd, .ref zf, .ref zo, .ref zE, .ref zq, .int 0, .int 0, .int 0, .int 0, .int 0, .int 0, .ref zC])), (zt, .inl (t 0, 1400, .inl u_4))] := hD
  refine W.widen (k := 0) (n := 0) (Nat.le_of_ble_eq_true rfl) (Nat.le_of_ble_eq_true rfl) ?_
  refine lv_aload_n hx hb dX12_feed_25 rfl (lv_at hl 0 rfl) ?_
  refine lv_iload_n hx hb dX12_feed_26 rfl (lv_at hl 2 rfl) ?_
  refine goV (rnV C0 (c_four4 l G t z zw zm zc zv zt zn zh zp ze zs zg zk za zd zf zo zE zq zC u_4 b0) lkX12_94 ⟨by decide, by decide⟩ (hP.sub (ws' := [(z, .inr (12, [.int 0, .ref zw, .ref zm, .ref zc, .ref zv, .ref zt, .int 4, .int 0, .int 0, .int 0, .int 0, .long 0, .int 0, .int 0, .int 0, .int (-1), .ref zn, .ref zh, .ref zp, .ref ze, .ref zs, .ref zg, .ref zk, .ref za, .ref zd, .ref zf, .ref zo, .ref zE, .ref zq, .int 0, .int 0, .int 0, .int 0, .int 0, .int 0, .ref zC])), (zt, .inl (t 0, 1400, .inl u_4))]) [0, 1] rfl) (hD.sub (ws' := [(z, .inr (12, [.int 0, .ref zw, .ref zm, .ref zc, .ref zv, .ref zt, .int 4, .int 0, .int 0, .int 0, .int 0, .long 0, .int 0, .int 0, .int 0, .int (-1), .ref zn, .ref zh, .ref zp, .ref ze, .ref zs, .ref zg, .ref zk, .ref za, .ref zd, .ref zf, .ref zo, .ref zE, .ref zq, .int 0, .int 0, .int 0, .int 0, .int 0, .int 0, .ref zC])), (zt, .inl (t 0, 1400, .inl u_4))]) [0, 1] (by decide) rfl) 0 12 rfl rfl rfl rfl hl.1 (rest := []) rfl (Nat.le_of_ble_eq_true rfl) dX12_feed_27 ⟨by decide, by decide⟩) hP hD hS hA [0, 1] [] (wr := []) rfl rfl (by decide) (by decide) (fun u H locs h_6 hP hD hS => ?_)
  obtain ⟨u_7, eu_7⟩ : ∃ z, z = u := ⟨_, rfl⟩
  subst eu_7
  have hP : va_P G vwCl [(z, .inr (12, [.int 0, .ref zw, .ref zm, .ref zc, .ref zv, .ref zt, .int 8, .int 0, .int 0, .int 0, .int 0, .long 0, .int 0, .int 0, .int 0, .int (-1), .ref zn, .ref zh, .ref zp, .ref ze, .ref zs, .ref zg, .ref zk, .ref za, .ref zd, .ref zf, .ref zo, .ref zE, .ref zq, .int 0, .int 0, .int 0, .int 0, .int 0, .int 0, .ref zC])), (zt, .inl (t 0, 1400, .inl u_7))] H := hP
  have hD : va_D A [(z, .inr (12, [.int 0, .ref zw, .ref zm, .ref zc, .ref zv, .ref zt, .int 8, .int 0, .int 0, .int 0, .int 0, .long 0, .int 0, .int 0, .int 0, .int (-1), .ref zn, .ref zh, .ref zp, .ref ze, .ref zs, .ref zg, .ref zk, .ref za, .ref zd, .ref zf, .ref zo, .ref zE, .ref zq, .int 0, .int 0, .int 0, .int 0, .int 0, .int 0, .ref zC])), (zt, .inl (t 0, 1400, .inl u_7))] := hD
  refine W.widen (k := 0) (n := 0) (Nat.le_of_ble_eq_true rfl) (Nat.le_of_ble_eq_true rfl) ?_
  refine lv_aload_n hx hb dX12_feed_30 rfl (lv_at hl 0 rfl) ?_
  refine lv_iload_n hx hb dX12_feed_31 rfl (lv_at hl 3 rfl) ?_
  refine goV (rnV C0 (c_four8 l G t z zw zm zc zv zt zn zh zp ze zs zg zk za zd zf zo zE zq zC u_7 c0) lkX12_94 ⟨by decide, by decide⟩ (hP.sub (ws' := [(z, .inr (12, [.int 0, .ref zw, .ref zm, .ref zc, .ref zv, .ref zt, .int 8, .int 0, .int 0, .int 0, .int 0, .long 0, .int 0, .int 0, .int 0, .int (-1), .ref zn, .ref zh, .ref zp, .ref ze, .ref zs, .ref zg, .ref zk, .ref za, .ref zd, .ref zf, .ref zo, .ref zE, .ref zq, .int 0, .int 0, .int 0, .int 0, .int 0, .int 0, .ref zC])), (zt, .inl (t 0, 1400, .inl u_7))]) [0, 1] rfl) (hD.sub (ws' := [(z, .inr (12, [.int 0, .ref zw, .ref zm, .ref zc, .ref zv, .ref zt, .int 8, .int 0, .int 0, .int 0, .int 0, .long 0, .int 0, .int 0, .int 0, .int (-1), .ref zn, .ref zh, .ref zp, .ref ze, .ref zs, .ref zg, .ref zk, .ref za, .ref zd, .ref zf, .ref zo, .ref zE, .ref zq, .int 0, .int 0, .int 0, .int 0, .int 0, .int 0, .ref zC])), (zt, .inl (t 0, 1400, .inl u_7))]) [0, 1] (by decide) rfl) 0 12 rfl rfl rfl rfl hl.1 (rest := []) rfl (Nat.le_of_ble_eq_true rfl) dX12_feed_32 ⟨by decide, by decide⟩) hP hD hS hA [0, 1] [] (wr := []) rfl rfl (by decide) (by decide) (fun u H locs h_9 hP hD hS => ?_)
  obtain ⟨u_10, eu_10⟩ : ∃ z, z = u := ⟨_, rfl⟩
  subst eu_10
  have hP : va_P G vwCl [(z, .inr (12, [.int 0, .ref zw, .ref zm, .ref zc, .ref zv, .ref zt, .int 12, .int 0, .int 0, .int 0, .int 0, .long 0, .int 0, .int 0, .int 0, .int (-1), .ref zn, .ref zh, .ref zp, .ref ze, .ref zs, .ref zg, .ref zk, .ref za, .ref zd, .ref zf, .ref zo, .ref zE, .ref zq, .int 0, .int 0, .int 0, .int 0, .int 0, .int 0, .ref zC])), (zt, .inl (t 0, 1400, .inl u_10))] H := hP
  have hD : va_D A [(z, .inr (12, [.int 0, .ref zw, .ref zm, .ref zc, .ref zv, .ref zt, .int 12, .int 0, .int 0, .int 0, .int 0, .long 0, .int 0, .int 0, .int 0, .int (-1), .ref zn, .ref zh, .ref zp, .ref ze, .ref zs, .ref zg, .ref zk, .ref za, .ref zd, .ref zf, .ref zo, .ref zE, .ref zq, .int 0, .int 0, .int 0, .int 0, .int 0, .int 0, .ref zC])), (zt, .inl (t 0, 1400, .inl u_10))] := hD
  refine W.widen (k := 0) (n := 0) (Nat.le_of_ble_eq_true rfl) (Nat.le_of_ble_eq_true rfl) ?_
  refine lv_aload_n hx hb dX12_feed_35 rfl (lv_at hl 0 rfl) ?_
  refine lv_iload hx hb dX12_feed_36 (lv_at hl 4 rfl) ?_
  refine goV (rnV C0 (c_four12 l G t z zw zm zc zv zt zn zh zp ze zs zg zk za zd zf zo zE zq zC u_10 d0) lkX12_94 ⟨by decide, by decide⟩ (hP.sub (ws' := [(z, .inr (12, [.int 0, .ref zw, .ref zm, .ref zc, .ref zv, .ref zt, .int 12, .int 0, .int 0, .int 0, .int 0, .long 0, .int 0, .int 0, .int 0, .int (-1), .ref zn, .ref zh, .ref zp, .ref ze, .ref zs, .ref zg, .ref zk, .ref za, .ref zd, .ref zf, .ref zo, .ref zE, .ref zq, .int 0, .int 0, .int 0, .int 0, .int 0, .int 0, .ref zC])), (zt, .inl (t 0, 1400, .inl u_10))]) [0, 1] rfl) (hD.sub (ws' := [(z, .inr (12, [.int 0, .ref zw, .ref zm, .ref zc, .ref zv, .ref zt, .int 12, .int 0, .int 0, .int 0, .int 0, .long 0, .int 0, .int 0, .int 0, .int (-1), .ref zn, .ref zh, .ref zp, .ref ze, .ref zs, .ref zg, .ref zk, .ref za, .ref zd, .ref zf, .ref zo, .ref zE, .ref zq, .int 0, .int 0, .int 0, .int 0, .int 0, .int 0, .ref zC])), (zt, .inl (t 0, 1400, .inl u_10))]) [0, 1] (by decide) rfl) 0 12 rfl rfl rfl rfl hl.1 (rest := []) rfl (Nat.le_of_ble_eq_true rfl) dX12_feed_38 ⟨by decide, by decide⟩) hP hD hS hA [0, 1] [] (wr := []) rfl rfl (by decide) (by decide) (fun u H locs h_12 hP hD hS => ?_)
  obtain ⟨u_13, eu_13⟩ : ∃ z, z = u := ⟨_, rfl⟩
  subst eu_13
  have hP : va_P G vwCl [(z, .inr (12, [.int 0, .ref zw, .ref zm, .ref zc, .ref zv, .ref zt, .int 16, .int 0, .int 0, .int 0, .int 0, .long 0, .int 0, .int 0, .int 0, .int (-1), .ref zn, .ref zh, .ref zp, .ref ze, .ref zs, .ref zg, .ref zk, .ref za, .ref zd, .ref zf, .ref zo, .ref zE, .ref zq, .int 0, .int 0, .int 0, .int 0, .int 0, .int 0, .ref zC])), (zt, .inl (t 0, 1400, .inl u_13))] H := hP
  have hD : va_D A [(z, .inr (12, [.int 0, .ref zw, .ref zm, .ref zc, .ref zv, .ref zt, .int 16, .int 0, .int 0, .int 0, .int 0, .long 0, .int 0, .int 0, .int 0, .int (-1), .ref zn, .ref zh, .ref zp, .ref ze, .ref zs, .ref zg, .ref zk, .ref za, .ref zd, .ref zf, .ref zo, .ref zE, .ref zq, .int 0, .int 0, .int 0, .int 0, .int 0, .int 0, .ref zC])), (zt, .inl (t 0, 1400, .inl u_13))] := hD
  refine W.widen (k := 0) (n := 0) (Nat.le_of_ble_eq_true rfl) (Nat.le_of_ble_eq_true rfl) ?_
  refine lv_aload_n hx hb dX12_feed_41 rfl (lv_at hl 0 rfl) ?_
  refine lv_iload hx hb dX12_feed_42 (lv_at hl 5 rfl) ?_
  refine goV (rnV C0 (c_four16 l G t z zw zm zc zv zt zn zh zp ze zs zg zk za zd zf zo zE zq zC u_13 e0) lkX12_94 ⟨by decide, by decide⟩ (hP.sub (ws' := [(z, .inr (12, [.int 0, .ref zw, .ref zm, .ref zc, .ref zv, .ref zt, .int 16, .int 0, .int 0, .int 0, .int 0, .long 0, .int 0, .int 0, .int 0, .int (-1), .ref zn, .ref zh, .ref zp, .ref ze, .ref zs, .ref zg, .ref zk, .ref za, .ref zd, .ref zf, .ref zo, .ref zE, .ref zq, .int 0, .int 0, .int 0, .int 0, .int 0, .int 0, .ref zC])), (zt, .inl (t 0, 1400, .inl u_13))]) [0, 1] rfl) (hD.sub (ws' := [(z, .inr (12, [.int 0, .ref zw, .ref zm, .ref zc, .ref zv, .ref zt, .int 16, .int 0, .int 0, .int 0, .int 0, .long 0, .int 0, .int 0, .int 0, .int (-1), .ref zn, .ref zh, .ref zp, .ref ze, .ref zs, .ref zg, .ref zk, .ref za, .ref zd, .ref zf, .ref zo, .ref zE, .ref zq, .int 0, .int 0, .int 0, .int 0, .int 0, .int 0, .ref zC])), (zt, .inl (t 0, 1400, .inl u_13))]) [0, 1] (by decide) rfl) 0 12 rfl rfl rfl rfl hl.1 (rest := []) rfl (Nat.le_of_ble_eq_true rfl) dX12_feed_44 ⟨by decide, by decide⟩) hP hD hS hA [0, 1] [] (wr := []) rfl rfl (by decide) (by decide) (fun u H locs h_15 hP hD hS => ?_)
  obtain ⟨u_16, eu_16⟩ : ∃ z, z = u := ⟨_, rfl⟩
  subst eu_16
  have hP : va_P G vwCl [(z, .inr (12, [.int 0, .ref zw, .ref zm, .ref zc, .ref zv, .ref zt, .int 20, .int 0, .int 0, .int 0, .int 0, .long 0, .int 0, .int 0, .int 0, .int (-1), .ref zn, .ref zh, .ref zp, .ref ze, .ref zs, .ref zg, .ref zk, .ref za, .ref zd, .ref zf, .ref zo, .ref zE, .ref zq, .int 0, .int 0, .int 0, .int 0, .int 0, .int 0, .ref zC])), (zt, .inl (t 0, 1400, .inl u_16))] H := hP
  have hD : va_D A [(z, .inr (12, [.int 0, .ref zw, .ref zm, .ref zc, .ref zv, .ref zt, .int 20, .int 0, .int 0, .int 0, .int 0, .long 0, .int 0, .int 0, .int 0, .int (-1), .ref zn, .ref zh, .ref zp, .ref ze, .ref zs, .ref zg, .ref zk, .ref za, .ref zd, .ref zf, .ref zo, .ref zE, .ref zq, .int 0, .int 0, .int 0, .int 0, .int 0, .int 0, .ref zC])), (zt, .inl (t 0, 1400, .inl u_16))] := hD
  refine W.widen (k := 0) (n := 0) (Nat.le_of_ble_eq_true rfl) (Nat.le_of_ble_eq_true rfl) ?_
  refine lv_aload_n hx hb dX12_feed_47 rfl (lv_at hl 0 rfl) ?_
  refine gf hx hb hts hown hK hP 0 inT12 rfl rfl 6 (by decide) tw5_231 rfl dX12_feed_48 ?_
  refine W.widen (k := 0) (n := 0) (by decide) (by decide) ?_
  exact rtI hx hb hr hlocks hS () (rfl) (hP.sub [] rfl) (hD.sub [] (by decide) rfl) dX12_feed_51

set_option maxHeartbeats 4000000 in
set_option maxRecDepth 100000 in
theorem m_end (l : Launch) (G : va_G) (t : Nat → ClassId) (z : Nat) (zw : Nat) (zm : Nat) (zc : Nat) (zv : Nat) (zt : Nat) (zn : Nat) (zh : Nat) (zp : Nat) (ze : Nat) (zs : Nat) (zg : Nat) (zk : Nat) (za : Nat) (zd : Nat) (zf : Nat) (zo : Nat) (zE : Nat) (zq : Nat) (zC : Nat) (a0 : Int32) : Ct l G t yX12_end cX12_end 2 (some .int) ({ frames := 1, cells := 0, slots := 0, locals := 25 }) [.ref z, .int a0] [(z, .inr (12, [.int 0, .ref zw, .ref zm, .ref zc, .ref zv, .ref zt, .int 0, .int 0, .int 0, .int 0, .int 0, .long 0, .int 0, .int 0, .int 0, .int (-1), .ref zn, .ref zh, .ref zp, .ref ze, .ref zs, .ref zg, .ref zk, .ref za, .ref zd, .ref zf, .ref zo, .ref zE, .ref zq, .int 0, .int 0, .int 0, .int 0, .int 0, .int 0, .ref zC]))] (QI G (fun r (u : Unit) => (r = 0 ∧ a0.toInt = 0) ∨ (r = (-1) ∧ ¬ a0.toInt = 0)) (fun (u : Unit) => [])) := by
  refine ent (by decide) (Nat.le_of_ble_eq_true rfl) ?_
  intro p e s m args below meth c hx hb hr hml hts hown hlocks hin A hA hK hO hP hD hS ls hl
  have hown : s.vm.findClass RX12 = some m.cls := hown
  have hl : lv_has ls 2 [(0, .ref z), (1, .int a0)] := hl
  have C0 : Cx p s m args c cX12_end 2 RX12 G t := ⟨hx, hb, hml, hown, hts, hK, hO⟩
  refine lv_aload_n hx hb dX12_end_0 rfl (lv_at hl 0 rfl) ?_
  refine lv_iconst (v := 0) hx hb dX12_end_1 (by decide) ?_
  refine pf hx hb hts hown hK hP hD hS 0 inT12 tyX12_ok nmX12 rfl rfl 0 (by decide) tw5_225 rfl rfl rfl (Nat.le_of_ble_eq_true rfl) dX12_end_2 (ws' := [(z, .inr (12, [.int 0, .ref zw, .ref zm, .ref zc, .ref zv, .ref zt, .int 0, .int 0, .int 0, .int 0, .int 0, .long 0, .int 0, .int 0, .int 0, .int (-1), .ref zn, .ref zh, .ref zp, .ref ze, .ref zs, .ref zg, .ref zk, .ref za, .ref zd, .ref zf, .ref zo, .ref zE, .ref zq, .int 0, .int 0, .int 0, .int 0, .int 0, .int 0, .ref zC]))]) rfl (fun H locs hP hD hS => ?_)
  refine lv_iload_n hx hb dX12_end_5 rfl (lv_at hl 1 rfl) ?_
  refine lv_i2l (v := a0.toInt64) hx hb dX12_end_6 (rfl) ?_
  refine lv_lconst (v := 0) hx hb dX12_end_7 (by decide) ?_
  refine lv_aload_n hx hb dX12_end_8 rfl (lv_at hl 0 rfl) ?_
  refine gf hx hb hts hown hK hP 0 inT12 rfl rfl 6 (by decide) tw5_231 rfl dX12_end_9 ?_
  refine lv_i2l (v := 0) hx hb dX12_end_12 (by decide) ?_
  refine goI (rnS C0 (c_in l G t a0.toInt64 0 0) lkX12_79 ⟨by decide, by decide⟩ (hP.sub (ws' := []) [] rfl) (hD.sub (ws' := []) [] (by decide) rfl) rfl hl.1 (rest := []) rfl (Nat.le_of_ble_eq_true rfl) dX12_end_13 ⟨by decide, by decide⟩) hP hD hS hA [] [0] (wr := [(z, .inr (12, [.int 0, .ref zw, .ref zm, .ref zc, .ref zv, .ref zt, .int 0, .int 0, .int 0, .int 0, .int 0, .long 0, .int 0, .int 0, .int 0, .int (-1), .ref zn, .ref zh, .ref zp, .ref ze, .ref zs, .ref zg, .ref zk, .ref za, .ref zd, .ref zf, .ref zo, .ref zE, .ref zq, .int 0, .int 0, .int 0, .int 0, .int 0, .int 0, .ref zC]))]) rfl rfl (by decide) (by decide) (fun r_1 u H locs h_2 hP hD hS => ?_)
  have hP : va_P G vwCl [(z, .inr (12, [.int 0, .ref zw, .ref zm, .ref zc, .ref zv, .ref zt, .int 0, .int 0, .int 0, .int 0, .int 0, .long 0, .int 0, .int 0, .int 0, .int (-1), .ref zn, .ref zh, .ref zp, .ref ze, .ref zs, .ref zg, .ref zk, .ref za, .ref zd, .ref zf, .ref zo, .ref zE, .ref zq, .int 0, .int 0, .int 0, .int 0, .int 0, .int 0, .ref zC]))] H := hP
  have hD : va_D A [(z, .inr (12, [.int 0, .ref zw, .ref zm, .ref zc, .ref zv, .ref zt, .int 0, .int 0, .int 0, .int 0, .int 0, .long 0, .int 0, .int 0, .int 0, .int (-1), .ref zn, .ref zh, .ref zp, .ref ze, .ref zs, .ref zg, .ref zk, .ref za, .ref zd, .ref zf, .ref zo, .ref zE, .ref zq, .int 0, .int 0, .int 0, .int 0, .int 0, .int 0, .ref zC]))] := hD
  refine W.widen (k := 0) (n := 0) (Nat.le_of_ble_eq_true rfl) (Nat.le_of_ble_eq_true rfl) ?_
  have h_2 : (r_1 = 1 ∧ 0 ≤ a0.toInt64 ∧ a0.toInt64 ≤ 0) ∨ (r_1 = 0 ∧ ¬ (0 ≤ a0.toInt64 ∧ a0.toInt64 ≤ 0)) := h_2
  rcases h_2 with ⟨rfl, f_3⟩ | ⟨rfl, f_3⟩
  · refine lv_if_ne (tgt := 21) hx hb dX12_end_16 (by decide) (fun _ => ?_) (fun c_4 => absurd c_4 (by decide))
    refine lv_aload_n hx hb dX12_end_21 rfl (lv_at hl 0 rfl) ?_
    refine lv_iload_n hx hb dX12_end_22 rfl (lv_at hl 1 rfl) ?_
    refine pf hx hb hts hown hK hP hD hS 0 inT12 tyX12_ok nmX12 rfl rfl 6 (by decide) tw5_231 rfl rfl rfl (Nat.le_of_ble_eq_true rfl) dX12_end_23 (ws' := [(z, .inr (12, [.int 0, .ref zw, .ref zm, .ref zc, .ref zv, .ref zt, .int a0, .int 0, .int 0, .int 0, .int 0, .long 0, .int 0, .int 0, .int 0, .int (-1), .ref zn, .ref zh, .ref zp, .ref ze, .ref zs, .ref zg, .ref zk, .ref za, .ref zd, .ref zf, .ref zo, .ref zE, .ref zq, .int 0, .int 0, .int 0, .int 0, .int 0, .int 0, .ref zC]))]) rfl (fun H locs hP hD hS => ?_)
    refine lv_iload_n hx hb dX12_end_26 rfl (lv_at hl 1 rfl) ?_
    refine W.widen (k := 0) (n := 0) (by decide) (by decide) ?_
    exact rtI hx hb hr hlocks hS () (Or.inl ⟨by (try simp only [zlt, zle, zeq, zle64, z64, z0, z1, z2, z3, z4, z5, z6, z7, z8, z9, z60, zm1, y0, y2, y3, y4, ym1] at f_3); (try simp only [zlt, zle, zeq, zle64, z64, z0, z1, z2, z3, z4, z5, z6, z7, z8, z9, z60, zm1, y0, y2, y3, y4, ym1]) <;> omega, by (try simp only [zlt, zle, zeq, zle64, z64, z0, z1, z2, z3, z4, z5, z6, z7, z8, z9, z60, zm1, y0, y2, y3, y4, ym1] at f_3); (try simp only [zlt, zle, zeq, zle64, z64, z0, z1, z2, z3, z4, z5, z6, z7, z8, z9, z60, zm1, y0, y2, y3, y4, ym1]) <;> omega⟩) (hP.sub [] rfl) (hD.sub [] (by decide) rfl) dX12_end_27
  · refine lv_if_ne (tgt := 21) hx hb dX12_end_16 (by decide) (fun c_5 => absurd (by decide) c_5) (fun _ => ?_)
    refine lv_iconst (v := (-1)) hx hb dX12_end_19 (by decide) ?_
    refine W.widen (k := 0) (n := 0) (by decide) (by decide) ?_
    exact rtI hx hb hr hlocks hS () (by first | exact Or.inr (⟨rfl, by (try simp only [zlt, zle, zeq, zle64, z64, z0, z1, z2, z3, z4, z5, z6, z7, z8, z9, z60, zm1, y0, y2, y3, y4, ym1] at f_3); (try simp only [zlt, zle, zeq, zle64, z64, z0, z1, z2, z3, z4, z5, z6, z7, z8, z9, z60, zm1, y0, y2, y3, y4, ym1]) <;> omega⟩)) (hP.sub [] rfl) (hD.sub [] (by decide) rfl) dX12_end_20

set_option maxHeartbeats 4000000 in
set_option maxRecDepth 100000 in
theorem m_fault (l : Launch) (G : va_G) (t : Nat → ClassId) (z : Nat) (zw : Nat) (zm : Nat) (zc : Nat) (zv : Nat) (zt : Nat) (zn : Nat) (zh : Nat) (zp : Nat) (ze : Nat) (zs : Nat) (zg : Nat) (zk : Nat) (za : Nat) (zd : Nat) (zf : Nat) (zo : Nat) (zE : Nat) (zq : Nat) (zC : Nat) (a0 : Int32) : Ct l G t yX12_fault cX12_fault 2 (some .int) ({ frames := 0, cells := 0, slots := 0, locals := 0 }) [.ref z, .int a0] [(z, .inr (12, [.int 0, .ref zw, .ref zm, .ref zc, .ref zv, .ref zt, .int 0, .int 0, .int 0, .int 0, .int 0, .long 0, .int 0, .int 0, .int 0, .int (-1), .ref zn, .ref zh, .ref zp, .ref ze, .ref zs, .ref zg, .ref zk, .ref za, .ref zd, .ref zf, .ref zo, .ref zE, .ref zq, .int 0, .int 0, .int 0, .int 0, .int 0, .int 0, .ref zC]))] (QI G (fun r (u : Unit) => (r = 0 ∧ a0.toInt = 0) ∨ (r = (-1) ∧ ¬ a0.toInt = 0)) (fun (u : Unit) => [])) := by
  refine ent (by decide) (Nat.le_of_ble_eq_true rfl) ?_
  intro p e s m args below meth c hx hb hr hml hts hown hlocks hin A hA hK hO hP hD hS ls hl
  have hown : s.vm.findClass RX12 = some m.cls := hown
  have hl : lv_has ls 2 [(0, .ref z), (1, .int a0)] := hl
  have C0 : Cx p s m args c cX12_fault 2 RX12 G t := ⟨hx, hb, hml, hown, hts, hK, hO⟩
  refine lv_aload_n hx hb dX12_fault_0 rfl (lv_at hl 0 rfl) ?_
  refine lv_iconst (v := 0) hx hb dX12_fault_1 (by decide) ?_
  refine pf hx hb hts hown hK hP hD hS 0 inT12 tyX12_ok nmX12 rfl rfl 0 (by decide) tw5_225 rfl rfl rfl (Nat.le_of_ble_eq_true rfl) dX12_fault_2 (ws' := [(z, .inr (12, [.int 0, .ref zw, .ref zm, .ref zc, .ref zv, .ref zt, .int 0, .int 0, .int 0, .int 0, .int 0, .long 0, .int 0, .int 0, .int 0, .int (-1), .ref zn, .ref zh, .ref zp, .ref ze, .ref zs, .ref zg, .ref zk, .ref za, .ref zd, .ref zf, .ref zo, .ref zE, .ref zq, .int 0, .int 0, .int 0, .int 0, .int 0, .int 0, .ref zC]))]) rfl (fun H locs hP hD hS => ?_)
  refine lv_iload_n hx hb dX12_fault_5 rfl (lv_at hl 1 rfl) ?_
  refine lv_if_ne (tgt := 16) hx hb dX12_fault_6 (by decide) (fun c_1 => ?_) (fun c_1 => ?_)
  · refine lv_iload_n hx hb dX12_fault_16 rfl (lv_at hl 1 rfl) ?_
    refine lv_iconst (v := 1) hx hb dX12_fault_17 (by decide) ?_
    refine lv_icmp_ne (tgt := 28) hx hb dX12_fault_18 (by decide) (fun c_2 => ?_) (fun c_2 => ?_)
    · refine lv_iconst (v := (-1)) hx hb dX12_fault_28 (by decide) ?_
      refine W.widen (k := 0) (n := 0) (by decide) (by decide) ?_
      exact rtI hx hb hr hlocks hS () (by first | exact Or.inr (⟨rfl, by (try simp only [zlt, zle, zeq, zle64, z64, z0, z1, z2, z3, z4, z5, z6, z7, z8, z9, z60, zm1, y0, y2, y3, y4, ym1] at c_1); (try simp only [zlt, zle, zeq, zle64, z64, z0, z1, z2, z3, z4, z5, z6, z7, z8, z9, z60, zm1, y0, y2, y3, y4, ym1] at c_2); (try simp only [zlt, zle, zeq, zle64, z64, z0, z1, z2, z3, z4, z5, z6, z7, z8, z9, z60, zm1, y0, y2, y3, y4, ym1]) <;> omega⟩)) (hP.sub [] rfl) (hD.sub [] (by decide) rfl) dX12_fault_29
    · refine lv_aload_n hx hb dX12_fault_21 rfl (lv_at hl 0 rfl) ?_
      refine gf hx hb hts hown hK hP 0 inT12 rfl rfl 15 (by decide) tw6_0 rfl dX12_fault_22 ?_
      refine lv_goto (tgt := 29) hx hb dX12_fault_25 (by decide) ?_
      refine W.widen (k := 0) (n := 0) (by decide) (by decide) ?_
      exact rtI hx hb hr hlocks hS () (by first | exact Or.inr (⟨rfl, by (try simp only [zlt, zle, zeq, zle64, z64, z0, z1, z2, z3, z4, z5, z6, z7, z8, z9, z60, zm1, y0, y2, y3, y4, ym1] at c_1); (try simp only [zlt, zle, zeq, zle64, z64, z0, z1, z2, z3, z4, z5, z6, z7, z8, z9, z60, zm1, y0, y2, y3, y4, ym1] at c_2); (try simp only [zlt, zle, zeq, zle64, z64, z0, z1, z2, z3, z4, z5, z6, z7, z8, z9, z60, zm1, y0, y2, y3, y4, ym1]) <;> omega⟩)) (hP.sub [] rfl) (hD.sub [] (by decide) rfl) dX12_fault_29
  · refine lv_aload_n hx hb dX12_fault_9 rfl (lv_at hl 0 rfl) ?_
    refine gf hx hb hts hown hK hP 0 inT12 rfl rfl 14 (by decide) tw5_239 rfl dX12_fault_10 ?_
    refine lv_goto (tgt := 29) hx hb dX12_fault_13 (by decide) ?_
    refine W.widen (k := 0) (n := 0) (by decide) (by decide) ?_
    exact rtI hx hb hr hlocks hS () (by first | exact Or.inl ⟨rfl, by (try simp only [zlt, zle, zeq, zle64, z64, z0, z1, z2, z3, z4, z5, z6, z7, z8, z9, z60, zm1, y0, y2, y3, y4, ym1] at c_1); (try simp only [zlt, zle, zeq, zle64, z64, z0, z1, z2, z3, z4, z5, z6, z7, z8, z9, z60, zm1, y0, y2, y3, y4, ym1]) <;> omega⟩) (hP.sub [] rfl) (hD.sub [] (by decide) rfl) dX12_fault_29

set_option maxHeartbeats 4000000 in
set_option maxRecDepth 100000 in
theorem c_clears (l : Launch) (G : va_G) (t : Nat → ClassId) (z : Nat) (zw : Nat) (zm : Nat) (zc : Nat) (zv : Nat) (zt : Nat) (zn : Nat) (zh : Nat) (zp : Nat) (ze : Nat) (zs : Nat) (zg : Nat) (zk : Nat) (za : Nat) (zd : Nat) (zf : Nat) (zo : Nat) (zE : Nat) (zq : Nat) (zC : Nat) : Ct l G t yX12_clears cX12_clears 2 none ({ frames := 0, cells := 0, slots := 0, locals := 0 }) [.ref z] [(z, .inr (12, [.int 0, .ref zw, .ref zm, .ref zc, .ref zv, .ref zt, .int 0, .int 0, .int 0, .int 0, .int 0, .long 0, .int 0, .int 0, .int 0, .int (-1), .ref zn, .ref zh, .ref zp, .ref ze, .ref zs, .ref zg, .ref zk, .ref za, .ref zd, .ref zf, .ref zo, .ref zE, .ref zq, .int 0, .int 0, .int 0, .int 0, .int 0, .int 0, .ref zC])), (zn, .inl (t 1, 5, .inl (fun _ => 0))), (zh, .inl (t 1, 30, .inl (fun _ => 0))), (zs, .inl (t 3, 180, .inl (fun _ => 0)))] (QV G (fun (u : Unit) => True) (fun (u : Unit) => [(z, .inr (12, [.int 0, .ref zw, .ref zm, .ref zc, .ref zv, .ref zt, .int 0, .int 0, .int 0, .int 0, .int 0, .long 0, .int 0, .int 0, .int 0, .int (-1), .ref zn, .ref zh, .ref zp, .ref ze, .ref zs, .ref zg, .ref zk, .ref za, .ref zd, .ref zf, .ref zo, .ref zE, .ref zq, .int 0, .int 0, .int 0, .int 0, .int 0, .int 0, .ref zC])), (zn, .inl (t 1, 5, .inl (fun _ => 0))), (zh, .inl (t 1, 30, .inl (fun _ => 0))), (zs, .inl (t 3, 180, .inl (fun _ => 0)))])) := by
  refine ent (by decide) (Nat.le_of_ble_eq_true rfl) ?_
  intro p e s m args below meth c hx hb hr hml hts hown hlocks hin A hA hK hO hP hD hS ls hl
  have hown : s.vm.findClass RX12 = some m.cls := hown
  have hl : lv_has ls 2 [(0, .ref z)] := hl
  have C0 : Cx p s m args c cX12_clears 2 RX12 G t := ⟨hx, hb, hml, hown, hts, hK, hO⟩
  refine lv_aload_n hx hb dX12_clears_0 rfl (lv_at hl 0 rfl) ?_
  refine gf hx hb hts hown hK hP 0 inT12 rfl rfl 16 (by decide) tw6_1 rfl dX12_clears_1 ?_
  refine lv_iconst (v := 4) hx hb dX12_clears_4 (by decide) ?_
  refine lv_iconst (v := 0) hx hb dX12_clears_5 (by decide) ?_
  refine stI hx hb hK hP hD hS 1 rfl (by unfold vp_in; decide) dX12_clears_6 (f' := (fun _ => 0)) (upd_z _) (ws' := [(z, .inr (12, [.int 0, .ref zw, .ref zm, .ref zc, .ref zv, .ref zt, .int 0, .int 0, .int 0, .int 0, .int 0, .long 0, .int 0, .int 0, .int 0, .int (-1), .ref zn, .ref zh, .ref zp, .ref ze, .ref zs, .ref zg, .ref zk, .ref za, .ref zd, .ref zf, .ref zo, .ref zE, .ref zq, .int 0, .int 0, .int 0, .int 0, .int 0, .int 0, .ref zC])), (zn, .inl (t 1, 5, .inl (fun _ => 0))), (zh, .inl (t 1, 30, .inl (fun _ => 0))), (zs, .inl (t 3, 180, .inl (fun _ => 0)))]) rfl (fun H locs hP hD hS => ?_)
  refine lv_iconst (v := 0) hx hb dX12_clears_7 (by decide) ?_
  refine lv_istore_n (lv' := [(1, .int 0), (0, .ref z)]) hx hb dX12_clears_8 rfl hl (by decide) rfl (fun ls hl => ?_)
  have LP_1 : ∀ (n k : Nat), k + n = 6 → ∀ (H : Heap) (locs : List Loc) (ls : Array Slot), lv_has ls 2 [(1, .int (nI k)), (0, .ref z)] → va_P G vwCl [(z, .inr (12, [.int 0, .ref zw, .ref zm, .ref zc, .ref zv, .ref zt, .int 0, .int 0, .int 0, .int 0, .int 0, .long 0, .int 0, .int 0, .int 0, .int (-1), .ref zn, .ref zh, .ref zp, .ref ze, .ref zs, .ref zg, .ref zk, .ref za, .ref zd, .ref zf, .ref zo, .ref zE, .ref zq, .int 0, .int 0, .int 0, .int 0, .int 0, .int 0, .ref zC])), (zn, .inl (t 1, 5, .inl (fun _ => 0))), (zh, .inl (t 1, 30, .inl (fun _ => 0))), (zs, .inl (t 3, 180, .inl (fun _ => 0)))] H → va_D A [(z, .inr (12, [.int 0, .ref zw, .ref zm, .ref zc, .ref zv, .ref zt, .int 0, .int 0, .int 0, .int 0, .int 0, .long 0, .int 0, .int 0, .int 0, .int (-1), .ref zn, .ref zh, .ref zp, .ref ze, .ref zs, .ref zg, .ref zk, .ref za, .ref zd, .ref zf, .ref zo, .ref zE, .ref zq, .int 0, .int 0, .int 0, .int 0, .int 0, .int 0, .ref zC])), (zn, .inl (t 1, 5, .inl (fun _ => 0))), (zh, .inl (t 1, 30, .inl (fun _ => 0))), (zs, .inl (t 3, 180, .inl (fun _ => 0)))] → va_S A s.heap H locs → W p l e ({ frames := 0, cells := 0, slots := 0, locals := 0 }) s m args below meth c H locs 0 0 (MQ below ((QV G (fun (u : Unit) => True) (fun (u : Unit) => [(z, .inr (12, [.int 0, .ref zw, .ref zm, .ref zc, .ref zv, .ref zt, .int 0, .int 0, .int 0, .int 0, .int 0, .long 0, .int 0, .int 0, .int 0, .int (-1), .ref zn, .ref zh, .ref zp, .ref ze, .ref zs, .ref zg, .ref zk, .ref za, .ref zd, .ref zf, .ref zo, .ref zE, .ref zq, .int 0, .int 0, .int 0, .int 0, .int 0, .int 0, .ref zC])), (zn, .inl (t 1, 5, .inl (fun _ => 0))), (zh, .inl (t 1, 30, .inl (fun _ => 0))), (zs, .inl (t 3, 180, .inl (fun _ => 0)))])) A) args s 0 0 A) (F0 m 9 ls []) := by
    intro n
    induction n with
    | zero =>
      intro k hk H locs ls hl hP hD hS
      obtain rfl : k = 6 := by omega
      refine lv_iload_n hx hb dX12_clears_9 rfl (lv_at hl 0 rfl) ?_
      refine lv_bipush (v := 6) hx hb dX12_clears_10 (by decide) ?_
      refine lv_icmp_ge (tgt := 31) hx hb dX12_clears_12 (by decide) (fun _ => ?_) (fun c_2 => absurd (by decide) c_2)
      refine lv_iconst (v := 0) hx hb dX12_clears_31 (by decide) ?_
      refine lv_istore_n (lv' := [(1, .int 0), (0, .ref z)]) hx hb dX12_clears_32 rfl hl (by decide) rfl (fun ls hl => ?_)
      have LP_3 : ∀ (n k : Nat), k + n = 36 → ∀ (H : Heap) (locs : List Loc) (ls : Array Slot), lv_has ls 2 [(1, .int (nI k)), (0, .ref z)] → va_P G vwCl [(z, .inr (12, [.int 0, .ref zw, .ref zm, .ref zc, .ref zv, .ref zt, .int 0, .int 0, .int 0, .int 0, .int 0, .long 0, .int 0, .int 0, .int 0, .int (-1), .ref zn, .ref zh, .ref zp, .ref ze, .ref zs, .ref zg, .ref zk, .ref za, .ref zd, .ref zf, .ref zo, .ref zE, .ref zq, .int 0, .int 0, .int 0, .int 0, .int 0, .int 0, .ref zC])), (zn, .inl (t 1, 5, .inl (fun _ => 0))), (zh, .inl (t 1, 30, .inl (fun _ => 0))), (zs, .inl (t 3, 180, .inl (fun _ => 0)))] H → va_D A [(z, .inr (12, [.int 0, .ref zw, .ref zm, .ref zc, .ref zv, .ref zt, .int 0, .int 0, .int 0, .int 0, .int 0, .long 0, .int 0, .int 0, .int 0, .int (-1), .ref zn, .ref zh, .ref zp, .ref ze, .ref zs, .ref zg, .ref zk, .ref za, .ref zd, .ref zf, .ref zo, .ref zE, .ref zq, .int 0, .int 0, .int 0, .int 0, .int 0, .int 0, .ref zC])), (zn, .inl (t 1, 5, .inl (fun _ => 0))), (zh, .inl (t 1, 30, .inl (fun _ => 0))), (zs, .inl (t 3, 180, .inl (fun _ => 0)))] → va_S A s.heap H locs → W p l e ({ frames := 0, cells := 0, slots := 0, locals := 0 }) s m args below meth c H locs 0 0 (MQ below ((QV G (fun (u : Unit) => True) (fun (u : Unit) => [(z, .inr (12, [.int 0, .ref zw, .ref zm, .ref zc, .ref zv, .ref zt, .int 0, .int 0, .int 0, .int 0, .int 0, .long 0, .int 0, .int 0, .int 0, .int (-1), .ref zn, .ref zh, .ref zp, .ref ze, .ref zs, .ref zg, .ref zk, .ref za, .ref zd, .ref zf, .ref zo, .ref zE, .ref zq, .int 0, .int 0, .int 0, .int 0, .int 0, .int 0, .ref zC])), (zn, .inl (t 1, 5, .inl (fun _ => 0))), (zh, .inl (t 1, 30, .inl (fun _ => 0))), (zs, .inl (t 3, 180, .inl (fun _ => 0)))])) A) args s 0 0 A) (F0 m 33 ls []) := by
        intro n
        induction n with
        | zero =>
          intro k hk H locs ls hl hP hD hS
          obtain rfl : k = 36 := by omega
          refine lv_iload_n hx hb dX12_clears_33 rfl (lv_at hl 0 rfl) ?_
          refine lv_bipush (v := 36) hx hb dX12_clears_34 (by decide) ?_
          refine lv_icmp_ge (tgt := 56) hx hb dX12_clears_36 (by decide) (fun _ => ?_) (fun c_4 => absurd (by decide) c_4)
          refine W.widen (k := 0) (n := 0) (by decide) (by decide) ?_
          exact rtV hx hb hr hlocks hS () (trivial) (hP.sub [0, 1, 2, 3] rfl) (hD.sub [0, 1, 2, 3] (by decide) rfl) dX12_clears_56
        | succ n ih =>
          intro k hk H locs ls hl hP hD hS
          refine lv_iload_n hx hb dX12_clears_33 rfl (lv_at hl 0 rfl) ?_
          refine lv_bipush (v := 36) hx hb dX12_clears_34 (by decide) ?_
          refine lv_icmp_ge (tgt := 56) hx hb dX12_clears_36 (by decide) (fun c_5 => absurd c_5 (show ¬ nI 36 ≤ nI k from nI_ge (by omega) (by decide))) (fun _ => ?_)
          refine lv_aload_n hx hb dX12_clears_39 rfl (lv_at hl 1 rfl) ?_
          refine gf hx hb hts hown hK hP 0 inT12 rfl rfl 20 (by decide) tw6_5 rfl dX12_clears_40 ?_
          refine lv_sipush (v := 144) hx hb dX12_clears_43 (by decide) ?_
          refine lv_iload_n hx hb dX12_clears_46 rfl (lv_at hl 0 rfl) ?_
          refine lv_iadd hx hb dX12_clears_47 (tpi (v := (nI (144 + k))) (show nI 144 + nI k = nI (144 + k) from nI_add 144 k) ?_)
          refine lv_iconst (v := 0) hx hb dX12_clears_48 (by decide) ?_
          refine stZ hx hb hK hP hD hS 3 rfl (vp_in_nI (by omega) (by decide)) dX12_clears_49 (f' := (fun _ => 0)) (upd_z _) (ws' := [(z, .inr (12, [.int 0, .ref zw, .ref zm, .ref zc, .ref zv, .ref zt, .int 0, .int 0, .int 0, .int 0, .int 0, .long 0, .int 0, .int 0, .int 0, .int (-1), .ref zn, .ref zh, .ref zp, .ref ze, .ref zs, .ref zg, .ref zk, .ref za, .ref zd, .ref zf, .ref zo, .ref zE, .ref zq, .int 0, .int 0, .int 0, .int 0, .int 0, .int 0, .ref zC])), (zn, .inl (t 1, 5, .inl (fun _ => 0))), (zh, .inl (t 1, 30, .inl (fun _ => 0))), (zs, .inl (t 3, 180, .inl (fun _ => 0)))]) rfl (fun H locs hP hD hS => ?_)
          refine lv_iinc (v := (nI (k + 1))) (lv' := [(1, .int (nI (k + 1))), (0, .ref z)]) hx hb dX12_clears_50 hl (k := 0) rfl (nI_1 k) (by decide) rfl (fun ls hl => ?_)
          refine lv_goto (tgt := 33) hx hb dX12_clears_53 (by decide) ?_
          exact ih (k + 1) (by omega) H locs ls (lv_sub hl [0, 1] rfl) (hP.sub [0, 1, 2, 3] rfl) (hD.sub [0, 1, 2, 3] (by decide) rfl) hS
      exact LP_3 36 0 (by omega) _ _ _ hl hP hD hS
    | succ n ih =>
      intro k hk H locs ls hl hP hD hS
      refine lv_iload_n hx hb dX12_clears_9 rfl (lv_at hl 0 rfl) ?_
      refine lv_bipush (v := 6) hx hb dX12_clears_10 (by decide) ?_
      refine lv_icmp_ge (tgt := 31) hx hb dX12_clears_12 (by decide) (fun c_6 => absurd c_6 (show ¬ nI 6 ≤ nI k from nI_ge (by omega) (by decide))) (fun _ => ?_)
      refine lv_aload_n hx hb dX12_clears_15 rfl (lv_at hl 1 rfl) ?_
      refine gf hx hb hts hown hK hP 0 inT12 rfl rfl 17 (by decide) tw6_2 rfl dX12_clears_16 ?_
      refine lv_bipush (v := 24) hx hb dX12_clears_19 (by decide) ?_
      refine lv_iload_n hx hb dX12_clears_21 rfl (lv_at hl 0 rfl) ?_
      refine lv_iadd hx hb dX12_clears_22 (tpi (v := (nI (24 + k))) (show nI 24 + nI k = nI (24 + k) from nI_add 24 k) ?_)
      refine lv_iconst (v := 0) hx hb dX12_clears_23 (by decide) ?_
      refine stI hx hb hK hP hD hS 2 rfl (vp_in_nI (by omega) (by decide)) dX12_clears_24 (f' := (fun _ => 0)) (upd_z _) (ws' := [(z, .inr (12, [.int 0, .ref zw, .ref zm, .ref zc, .ref zv, .ref zt, .int 0, .int 0, .int 0, .int 0, .int 0, .long 0, .int 0, .int 0, .int 0, .int (-1), .ref zn, .ref zh, .ref zp, .ref ze, .ref zs, .ref zg, .ref zk, .ref za, .ref zd, .ref zf, .ref zo, .ref zE, .ref zq, .int 0, .int 0, .int 0, .int 0, .int 0, .int 0, .ref zC])), (zn, .inl (t 1, 5, .inl (fun _ => 0))), (zh, .inl (t 1, 30, .inl (fun _ => 0))), (zs, .inl (t 3, 180, .inl (fun _ => 0)))]) rfl (fun H locs hP hD hS => ?_)
      refine lv_iinc (v := (nI (k + 1))) (lv' := [(1, .int (nI (k + 1))), (0, .ref z)]) hx hb dX12_clears_25 hl (k := 0) rfl (nI_1 k) (by decide) rfl (fun ls hl => ?_)
      refine lv_goto (tgt := 9) hx hb dX12_clears_28 (by decide) ?_
      exact ih (k + 1) (by omega) H locs ls (lv_sub hl [0, 1] rfl) (hP.sub [0, 1, 2, 3] rfl) (hD.sub [0, 1, 2, 3] (by decide) rfl) hS
  exact LP_1 6 0 (by omega) _ _ _ hl hP hD hS

set_option maxHeartbeats 4000000 in
set_option maxRecDepth 100000 in
theorem c_isByte0 (l : Launch) (G : va_G) (t : Nat → ClassId) (z : Nat) (zw : Nat) (zm : Nat) (zc : Nat) (zv : Nat) (zt : Nat) (zn : Nat) (zh : Nat) (zp : Nat) (ze : Nat) (zs : Nat) (zg : Nat) (zk : Nat) (za : Nat) (zd : Nat) (zf : Nat) (zo : Nat) (zE : Nat) (zq : Nat) (zC : Nat) (a0 : Int32) (b0 : Int32) : Ct l G t yX12_isByte cX12_isByte 4 (some .boolean) ({ frames := 0, cells := 0, slots := 0, locals := 0 }) [.ref z, .int 0, .int a0, .int b0] [(z, .inr (12, [.int 0, .ref zw, .ref zm, .ref zc, .ref zv, .ref zt, .int 0, .int 0, .int 0, .int 0, .int 0, .long 0, .int 0, .int (-1), .int 0, .int (-1), .ref zn, .ref zh, .ref zp, .ref ze, .ref zs, .ref zg, .ref zk, .ref za, .ref zd, .ref zf, .ref zo, .ref zE, .ref zq, .int 0, .int 0, .int 0, .int 0, .int 0, .int 0, .ref zC]))] (QI G (fun r (u : Unit) => r = 0) (fun (u : Unit) => [(z, .inr (12, [.int 0, .ref zw, .ref zm, .ref zc, .ref zv, .ref zt, .int 0, .int 0, .int 0, .int 0, .int 0, .long 0, .int 0, .int (-1), .int 0, .int (-1), .ref zn, .ref zh, .ref zp, .ref ze, .ref zs, .ref zg, .ref zk, .ref za, .ref zd, .ref zf, .ref zo, .ref zE, .ref zq, .int 0, .int 0, .int 0, .int 0, .int 0, .int 0, .ref zC]))])) := by
  refine ent (by decide) (Nat.le_of_ble_eq_true rfl) ?_
  intro p e s m args below meth c hx hb hr hml hts hown hlocks hin A hA hK hO hP hD hS ls hl
  have hown : s.vm.findClass RX12 = some m.cls := hown
  have hl : lv_has ls 4 [(0, .ref z), (1, .int 0), (2, .int a0), (3, .int b0)] := hl
  have C0 : Cx p s m args c cX12_isByte 4 RX12 G t := ⟨hx, hb, hml, hown, hts, hK, hO⟩
  refine lv_iload_n hx hb dX12_isByte_0 rfl (lv_at hl 1 rfl) ?_
  refine lv_aload_n hx hb dX12_isByte_1 rfl (lv_at hl 0 rfl) ?_
  refine gf hx hb hts hown hK hP 0 inT12 rfl rfl 6 (by decide) tw5_231 rfl dX12_isByte_2 ?_
  refine lv_icmp_ge (tgt := 32) hx hb dX12_isByte_5 (by decide) (fun _ => ?_) (fun c_1 => absurd (by decide) c_1)
  refine lv_iconst (v := 0) hx hb dX12_isByte_32 (by decide) ?_
  refine W.widen (k := 0) (n := 0) (by decide) (by decide) ?_
  exact rtZ hx hb hr hlocks hS rfl () (rfl) (hP.sub [0] rfl) (hD.sub [0] (by decide) rfl) dX12_isByte_33

set_option maxHeartbeats 4000000 in
set_option maxRecDepth 100000 in
theorem c_mnext0 (l : Launch) (G : va_G) (t : Nat → ClassId) (z : Nat) (zw : Nat) (zm : Nat) (zc : Nat) (zv : Nat) (zt : Nat) (zn : Nat) (zh : Nat) (zp : Nat) (ze : Nat) (zs : Nat) (zg : Nat) (zk : Nat) (za : Nat) (zd : Nat) (zf : Nat) (zo : Nat) (zE : Nat) (zq : Nat) (zC : Nat) : Ct l G t yX12_next cX12_next 2 none ({ frames := 1, cells := 0, slots := 0, locals := 23 }) [.ref z] [(z, .inr (12, [.int 0, .ref zw, .ref zm, .ref zc, .ref zv, .ref zt, .int 0, .int 0, .int 0, .int 0, .int 0, .long 0, .int 0, .int (-1), .int 0, .int (-1), .ref zn, .ref zh, .ref zp, .ref ze, .ref zs, .ref zg, .ref zk, .ref za, .ref zd, .ref zf, .ref zo, .ref zE, .ref zq, .int 0, .int 0, .int 0, .int 0, .int 0, .int 0, .ref zC]))] (QV G (fun (u : Unit) => True) (fun (u : Unit) => [(z, .inr (12, [.int 0, .ref zw, .ref zm, .ref zc, .ref zv, .ref zt, .int 0, .int 0, .int 0, .int 0, .int 0, .long 0, .int 0, .int (-1), .int 0, .int (-1), .ref zn, .ref zh, .ref zp, .ref ze, .ref zs, .ref zg, .ref zk, .ref za, .ref zd, .ref zf, .ref zo, .ref zE, .ref zq, .int 0, .int 0, .int 0, .int 0, .int 0, .int 0, .ref zC]))])) := by
  refine ent (by decide) (Nat.le_of_ble_eq_true rfl) ?_
  intro p e s m args below meth c hx hb hr hml hts hown hlocks hin A hA hK hO hP hD hS ls hl
  have hown : s.vm.findClass RX12 = some m.cls := hown
  have hl : lv_has ls 2 [(0, .ref z)] := hl
  have C0 : Cx p s m args c cX12_next 2 RX12 G t := ⟨hx, hb, hml, hown, hts, hK, hO⟩
  refine lv_aload_n hx hb dX12_next_0 rfl (lv_at hl 0 rfl) ?_
  refine lv_aload_n hx hb dX12_next_1 rfl (lv_at hl 0 rfl) ?_
  refine gf hx hb hts hown hK hP 0 inT12 rfl rfl 7 (by decide) tw5_232 rfl dX12_next_2 ?_
  refine lv_bipush (v := 32) hx hb dX12_next_5 (by decide) ?_
  refine lv_bipush (v := 32) hx hb dX12_next_7 (by decide) ?_
  refine goI (rnV C0 (c_isByte0 l G t z zw zm zc zv zt zn zh zp ze zs zg zk za zd zf zo zE zq zC 32 32) lkX12_101 ⟨by decide, by decide⟩ (hP.sub (ws' := [(z, .inr (12, [.int 0, .ref zw, .ref zm, .ref zc, .ref zv, .ref zt, .int 0, .int 0, .int 0, .int 0, .int 0, .long 0, .int 0, .int (-1), .int 0, .int (-1), .ref zn, .ref zh, .ref zp, .ref ze, .ref zs, .ref zg, .ref zk, .ref za, .ref zd, .ref zf, .ref zo, .ref zE, .ref zq, .int 0, .int 0, .int 0, .int 0, .int 0, .int 0, .ref zC]))]) [0] rfl) (hD.sub (ws' := [(z, .inr (12, [.int 0, .ref zw, .ref zm, .ref zc, .ref zv, .ref zt, .int 0, .int 0, .int 0, .int 0, .int 0, .long 0, .int 0, .int (-1), .int 0, .int (-1), .ref zn, .ref zh, .ref zp, .ref ze, .ref zs, .ref zg, .ref zk, .ref za, .ref zd, .ref zf, .ref zo, .ref zE, .ref zq, .int 0, .int 0, .int 0, .int 0, .int 0, .int 0, .ref zC]))]) [0] (by decide) rfl) 0 12 rfl rfl rfl rfl hl.1 (rest := []) rfl (Nat.le_of_ble_eq_true rfl) dX12_next_9 ⟨by decide, by decide⟩) hP hD hS hA [0] [] (wr := []) rfl rfl (by decide) (by decide) (fun r_1 u H locs h_2 hP hD hS => ?_)
  have hP : va_P G vwCl [(z, .inr (12, [.int 0, .ref zw, .ref zm, .ref zc, .ref zv, .ref zt, .int 0, .int 0, .int 0, .int 0, .int 0, .long 0, .int 0, .int (-1), .int 0, .int (-1), .ref zn, .ref zh, .ref zp, .ref ze, .ref zs, .ref zg, .ref zk, .ref za, .ref zd, .ref zf, .ref zo, .ref zE, .ref zq, .int 0, .int 0, .int 0, .int 0, .int 0, .int 0, .ref zC]))] H := hP
  have hD : va_D A [(z, .inr (12, [.int 0, .ref zw, .ref zm, .ref zc, .ref zv, .ref zt, .int 0, .int 0, .int 0, .int 0, .int 0, .long 0, .int 0, .int (-1), .int 0, .int (-1), .ref zn, .ref zh, .ref zp, .ref ze, .ref zs, .ref zg, .ref zk, .ref za, .ref zd, .ref zf, .ref zo, .ref zE, .ref zq, .int 0, .int 0, .int 0, .int 0, .int 0, .int 0, .ref zC]))] := hD
  refine W.widen (k := 0) (n := 0) (Nat.le_of_ble_eq_true rfl) (Nat.le_of_ble_eq_true rfl) ?_
  obtain rfl : r_1 = 0 := h_2
  refine lv_if_ne (tgt := 30) hx hb dX12_next_12 (by decide) (fun c_3 => absurd (by decide) c_3) (fun _ => ?_)
  refine lv_aload_n hx hb dX12_next_15 rfl (lv_at hl 0 rfl) ?_
  refine lv_aload_n hx hb dX12_next_16 rfl (lv_at hl 0 rfl) ?_
  refine gf hx hb hts hown hK hP 0 inT12 rfl rfl 7 (by decide) tw5_232 rfl dX12_next_17 ?_
  refine lv_bipush (v := 10) hx hb dX12_next_20 (by decide) ?_
  refine lv_bipush (v := 10) hx hb dX12_next_22 (by decide) ?_
  refine goI (rnV C0 (c_isByte0 l G t z zw zm zc zv zt zn zh zp ze zs zg zk za zd zf zo zE zq zC 10 10) lkX12_101 ⟨by decide, by decide⟩ (hP.sub (ws' := [(z, .inr (12, [.int 0, .ref zw, .ref zm, .ref zc, .ref zv, .ref zt, .int 0, .int 0, .int 0, .int 0, .int 0, .long 0, .int 0, .int (-1), .int 0, .int (-1), .ref zn, .ref zh, .ref zp, .ref ze, .ref zs, .ref zg, .ref zk, .ref za, .ref zd, .ref zf, .ref zo, .ref zE, .ref zq, .int 0, .int 0, .int 0, .int 0, .int 0, .int 0, .ref zC]))]) [0] rfl) (hD.sub (ws' := [(z, .inr (12, [.int 0, .ref zw, .ref zm, .ref zc, .ref zv, .ref zt, .int 0, .int 0, .int 0, .int 0, .int 0, .long 0, .int 0, .int (-1), .int 0, .int (-1), .ref zn, .ref zh, .ref zp, .ref ze, .ref zs, .ref zg, .ref zk, .ref za, .ref zd, .ref zf, .ref zo, .ref zE, .ref zq, .int 0, .int 0, .int 0, .int 0, .int 0, .int 0, .ref zC]))]) [0] (by decide) rfl) 0 12 rfl rfl rfl rfl hl.1 (rest := []) rfl (Nat.le_of_ble_eq_true rfl) dX12_next_24 ⟨by decide, by decide⟩) hP hD hS hA [0] [] (wr := []) rfl rfl (by decide) (by decide) (fun r_4 u H locs h_5 hP hD hS => ?_)
  have hP : va_P G vwCl [(z, .inr (12, [.int 0, .ref zw, .ref zm, .ref zc, .ref zv, .ref zt, .int 0, .int 0, .int 0, .int 0, .int 0, .long 0, .int 0, .int (-1), .int 0, .int (-1), .ref zn, .ref zh, .ref zp, .ref ze, .ref zs, .ref zg, .ref zk, .ref za, .ref zd, .ref zf, .ref zo, .ref zE, .ref zq, .int 0, .int 0, .int 0, .int 0, .int 0, .int 0, .ref zC]))] H := hP
  have hD : va_D A [(z, .inr (12, [.int 0, .ref zw, .ref zm, .ref zc, .ref zv, .ref zt, .int 0, .int 0, .int 0, .int 0, .int 0, .long 0, .int 0, .int (-1), .int 0, .int (-1), .ref zn, .ref zh, .ref zp, .ref ze, .ref zs, .ref zg, .ref zk, .ref za, .ref zd, .ref zf, .ref zo, .ref zE, .ref zq, .int 0, .int 0, .int 0, .int 0, .int 0, .int 0, .ref zC]))] := hD
  refine W.widen (k := 0) (n := 0) (Nat.le_of_ble_eq_true rfl) (Nat.le_of_ble_eq_true rfl) ?_
  obtain rfl : r_4 = 0 := h_5
  refine lv_if_eq (tgt := 43) hx hb dX12_next_27 (by decide) (fun _ => ?_) (fun c_6 => absurd (by decide) c_6)
  refine lv_aload_n hx hb dX12_next_43 rfl (lv_at hl 0 rfl) ?_
  refine lv_aload_n hx hb dX12_next_44 rfl (lv_at hl 0 rfl) ?_
  refine gf hx hb hts hown hK hP 0 inT12 rfl rfl 7 (by decide) tw5_232 rfl dX12_next_45 ?_
  refine pf hx hb hts hown hK hP hD hS 0 inT12 tyX12_ok nmX12 rfl rfl 9 (by decide) tw5_234 rfl rfl rfl (Nat.le_of_ble_eq_true rfl) dX12_next_48 (ws' := [(z, .inr (12, [.int 0, .ref zw, .ref zm, .ref zc, .ref zv, .ref zt, .int 0, .int 0, .int 0, .int 0, .int 0, .long 0, .int 0, .int (-1), .int 0, .int (-1), .ref zn, .ref zh, .ref zp, .ref ze, .ref zs, .ref zg, .ref zk, .ref za, .ref zd, .ref zf, .ref zo, .ref zE, .ref zq, .int 0, .int 0, .int 0, .int 0, .int 0, .int 0, .ref zC]))]) rfl (fun H locs hP hD hS => ?_)
  refine lv_aload_n hx hb dX12_next_51 rfl (lv_at hl 0 rfl) ?_
  refine lv_iconst (v := 0) hx hb dX12_next_52 (by decide) ?_
  refine pf hx hb hts hown hK hP hD hS 0 inT12 tyX12_ok nmX12 rfl rfl 10 (by decide) tw5_235 rfl rfl rfl (Nat.le_of_ble_eq_true rfl) dX12_next_53 (ws' := [(z, .inr (12, [.int 0, .ref zw, .ref zm, .ref zc, .ref zv, .ref zt, .int 0, .int 0, .int 0, .int 0, .int 0, .long 0, .int 0, .int (-1), .int 0, .int (-1), .ref zn, .ref zh, .ref zp, .ref ze, .ref zs, .ref zg, .ref zk, .ref za, .ref zd, .ref zf, .ref zo, .ref zE, .ref zq, .int 0, .int 0, .int 0, .int 0, .int 0, .int 0, .ref zC]))]) rfl (fun H locs hP hD hS => ?_)
  refine lv_aload_n hx hb dX12_next_56 rfl (lv_at hl 0 rfl) ?_
  refine lv_lconst (v := 0) hx hb dX12_next_57 (by decide) ?_
  refine pf hx hb hts hown hK hP hD hS 0 inT12 tyX12_ok nmX12 rfl rfl 11 (by decide) tw5_236 rfl rfl rfl (Nat.le_of_ble_eq_true rfl) dX12_next_58 (ws' := [(z, .inr (12, [.int 0, .ref zw, .ref zm, .ref zc, .ref zv, .ref zt, .int 0, .int 0, .int 0, .int 0, .int 0, .long 0, .int 0, .int (-1), .int 0, .int (-1), .ref zn, .ref zh, .ref zp, .ref ze, .ref zs, .ref zg, .ref zk, .ref za, .ref zd, .ref zf, .ref zo, .ref zE, .ref zq, .int 0, .int 0, .int 0, .int 0, .int 0, .int 0, .ref zC]))]) rfl (fun H locs hP hD hS => ?_)
  refine lv_aload_n hx hb dX12_next_61 rfl (lv_at hl 0 rfl) ?_
  refine gf hx hb hts hown hK hP 0 inT12 rfl rfl 7 (by decide) tw5_232 rfl dX12_next_62 ?_
  refine lv_aload_n hx hb dX12_next_65 rfl (lv_at hl 0 rfl) ?_
  refine gf hx hb hts hown hK hP 0 inT12 rfl rfl 6 (by decide) tw5_231 rfl dX12_next_66 ?_
  refine lv_icmp_ne (tgt := 80) hx hb dX12_next_69 (by decide) (fun c_7 => absurd (by decide) c_7) (fun _ => ?_)
  refine lv_aload_n hx hb dX12_next_72 rfl (lv_at hl 0 rfl) ?_
  refine lv_iconst (v := 0) hx hb dX12_next_73 (by decide) ?_
  refine pf hx hb hts hown hK hP hD hS 0 inT12 tyX12_ok nmX12 rfl rfl 8 (by decide) tw5_233 rfl rfl rfl (Nat.le_of_ble_eq_true rfl) dX12_next_74 (ws' := [(z, .inr (12, [.int 0, .ref zw, .ref zm, .ref zc, .ref zv, .ref zt, .int 0, .int 0, .int 0, .int 0, .int 0, .long 0, .int 0, .int (-1), .int 0, .int (-1), .ref zn, .ref zh, .ref zp, .ref ze, .ref zs, .ref zg, .ref zk, .ref za, .ref zd, .ref zf, .ref zo, .ref zE, .ref zq, .int 0, .int 0, .int 0, .int 0, .int 0, .int 0, .ref zC]))]) rfl (fun H locs hP hD hS => ?_)
  refine lv_goto (tgt := 307) hx hb dX12_next_77 (by decide) ?_
  refine W.widen (k := 0) (n := 0) (by decide) (by decide) ?_
  exact rtV hx hb hr hlocks hS () (trivial) (hP.sub [0] rfl) (hD.sub [0] (by decide) rfl) dX12_next_307

set_option maxHeartbeats 4000000 in
set_option maxRecDepth 100000 in
theorem c_begins (l : Launch) (G : va_G) (t : Nat → ClassId) (z : Nat) (zw : Nat) (zm : Nat) (zc : Nat) (zv : Nat) (zt : Nat) (zn : Nat) (zh : Nat) (zp : Nat) (ze : Nat) (zs : Nat) (zg : Nat) (zk : Nat) (za : Nat) (zd : Nat) (zf : Nat) (zo : Nat) (zE : Nat) (zq : Nat) (zC : Nat) : Ct l G t yX12_begins cX12_begins 1 none ({ frames := 2, cells := 0, slots := 0, locals := 44 }) [.ref z] [(z, .inr (12, [.int 0, .ref zw, .ref zm, .ref zc, .ref zv, .ref zt, .int 0, .int 0, .int 0, .int 0, .int 0, .long 0, .int 0, .int 0, .int 0, .int (-1), .ref zn, .ref zh, .ref zp, .ref ze, .ref zs, .ref zg, .ref zk, .ref za, .ref zd, .ref zf, .ref zo, .ref zE, .ref zq, .int 0, .int 0, .int 0, .int 0, .int 0, .int 0, .ref zC]))] (QV G (fun (u : Unit) => True) (fun (u : Unit) => [(z, .inr (12, [.int 0, .ref zw, .ref zm, .ref zc, .ref zv, .ref zt, .int 0, .int 0, .int 0, .int 0, .int 0, .long 0, .int 0, .int (-1), .int 0, .int (-1), .ref zn, .ref zh, .ref zp, .ref ze, .ref zs, .ref zg, .ref zk, .ref za, .ref zd, .ref zf, .ref zo, .ref zE, .ref zq, .int 0, .int 0, .int 0, .int 0, .int 0, .int 0, .ref zC]))])) := by
  refine ent (by decide) (Nat.le_of_ble_eq_true rfl) ?_
  intro p e s m args below meth c hx hb hr hml hts hown hlocks hin A hA hK hO hP hD hS ls hl
  have hown : s.vm.findClass RX12 = some m.cls := hown
  have hl : lv_has ls 1 [(0, .ref z)] := hl
  have C0 : Cx p s m args c cX12_begins 1 RX12 G t := ⟨hx, hb, hml, hown, hts, hK, hO⟩
  refine lv_aload_n hx hb dX12_begins_0 rfl (lv_at hl 0 rfl) ?_
  refine lv_iconst (v := 0) hx hb dX12_begins_1 (by decide) ?_
  refine pf hx hb hts hown hK hP hD hS 0 inT12 tyX12_ok nmX12 rfl rfl 12 (by decide) tw5_237 rfl rfl rfl (Nat.le_of_ble_eq_true rfl) dX12_begins_2 (ws' := [(z, .inr (12, [.int 0, .ref zw, .ref zm, .ref zc, .ref zv, .ref zt, .int 0, .int 0, .int 0, .int 0, .int 0, .long 0, .int 0, .int 0, .int 0, .int (-1), .ref zn, .ref zh, .ref zp, .ref ze, .ref zs, .ref zg, .ref zk, .ref za, .ref zd, .ref zf, .ref zo, .ref zE, .ref zq, .int 0, .int 0, .int 0, .int 0, .int 0, .int 0, .ref zC]))]) rfl (fun H locs hP hD hS => ?_)
  refine lv_aload_n hx hb dX12_begins_5 rfl (lv_at hl 0 rfl) ?_
  refine lv_iconst (v := (-1)) hx hb dX12_begins_6 (by decide) ?_
  refine pf hx hb hts hown hK hP hD hS 0 inT12 tyX12_ok nmX12 rfl rfl 13 (by decide) tw5_238 rfl rfl rfl (Nat.le_of_ble_eq_true rfl) dX12_begins_7 (ws' := [(z, .inr (12, [.int 0, .ref zw, .ref zm, .ref zc, .ref zv, .ref zt, .int 0, .int 0, .int 0, .int 0, .int 0, .long 0, .int 0, .int (-1), .int 0, .int (-1), .ref zn, .ref zh, .ref zp, .ref ze, .ref zs, .ref zg, .ref zk, .ref za, .ref zd, .ref zf, .ref zo, .ref zE, .ref zq, .int 0, .int 0, .int 0, .int 0, .int 0, .int 0, .ref zC]))]) rfl (fun H locs hP hD hS => ?_)
  refine lv_aload_n hx hb dX12_begins_10 rfl (lv_at hl 0 rfl) ?_
  refine lv_iconst (v := 0) hx hb dX12_begins_11 (by decide) ?_
  refine pf hx hb hts hown hK hP hD hS 0 inT12 tyX12_ok nmX12 rfl rfl 7 (by decide) tw5_232 rfl rfl rfl (Nat.le_of_ble_eq_true rfl) dX12_begins_12 (ws' := [(z, .inr (12, [.int 0, .ref zw, .ref zm, .ref zc, .ref zv, .ref zt, .int 0, .int 0, .int 0, .int 0, .int 0, .long 0, .int 0, .int (-1), .int 0, .int (-1), .ref zn, .ref zh, .ref zp, .ref ze, .ref zs, .ref zg, .ref zk, .ref za, .ref zd, .ref zf, .ref zo, .ref zE, .ref zq, .int 0, .int 0, .int 0, .int 0, .int 0, .int 0, .ref zC]))]) rfl (fun H locs hP hD hS => ?_)
  refine lv_aload_n hx hb dX12_begins_15 rfl (lv_at hl 0 rfl) ?_
  refine goV (rnV C0 (c_mnext0 l G t z zw zm zc zv zt zn zh zp ze zs zg zk za zd zf zo zE zq zC) lkX12_136 ⟨by decide, by decide⟩ (hP.sub (ws' := [(z, .inr (12, [.int 0, .ref zw, .ref zm, .ref zc, .ref zv, .ref zt, .int 0, .int 0, .int 0, .int 0, .int 0, .long 0, .int 0, .int (-1), .int 0, .int (-1), .ref zn, .ref zh, .ref zp, .ref ze, .ref zs, .ref zg, .ref zk, .ref za, .ref zd, .ref zf, .ref zo, .ref zE, .ref zq, .int 0, .int 0, .int 0, .int 0, .int 0, .int 0, .ref zC]))]) [0] rfl) (hD.sub (ws' := [(z, .inr (12, [.int 0, .ref zw, .ref zm, .ref zc, .ref zv, .ref zt, .int 0, .int 0, .int 0, .int 0, .int 0, .long 0, .int 0, .int (-1), .int 0, .int (-1), .ref zn, .ref zh, .ref zp, .ref ze, .ref zs, .ref zg, .ref zk, .ref za, .ref zd, .ref zf, .ref zo, .ref zE, .ref zq, .int 0, .int 0, .int 0, .int 0, .int 0, .int 0, .ref zC]))]) [0] (by decide) rfl) 0 12 rfl rfl rfl rfl hl.1 (rest := []) rfl (Nat.le_of_ble_eq_true rfl) dX12_begins_16 ⟨by decide, by decide⟩) hP hD hS hA [0] [] (wr := []) rfl rfl (by decide) (by decide) (fun u H locs h_2 hP hD hS => ?_)
  have hP : va_P G vwCl [(z, .inr (12, [.int 0, .ref zw, .ref zm, .ref zc, .ref zv, .ref zt, .int 0, .int 0, .int 0, .int 0, .int 0, .long 0, .int 0, .int (-1), .int 0, .int (-1), .ref zn, .ref zh, .ref zp, .ref ze, .ref zs, .ref zg, .ref zk, .ref za, .ref zd, .ref zf, .ref zo, .ref zE, .ref zq, .int 0, .int 0, .int 0, .int 0, .int 0, .int 0, .ref zC]))] H := hP
  have hD : va_D A [(z, .inr (12, [.int 0, .ref zw, .ref zm, .ref zc, .ref zv, .ref zt, .int 0, .int 0, .int 0, .int 0, .int 0, .long 0, .int 0, .int (-1), .int 0, .int (-1), .ref zn, .ref zh, .ref zp, .ref ze, .ref zs, .ref zg, .ref zk, .ref za, .ref zd, .ref zf, .ref zo, .ref zE, .ref zq, .int 0, .int 0, .int 0, .int 0, .int 0, .int 0, .ref zC]))] := hD
  refine W.widen (k := 0) (n := 0) (Nat.le_of_ble_eq_true rfl) (Nat.le_of_ble_eq_true rfl) ?_
  refine W.widen (k := 0) (n := 0) (by decide) (by decide) ?_
  exact rtV hx hb hr hlocks hS () (trivial) (hP.sub [0] rfl) (hD.sub [0] (by decide) rfl) dX12_begins_19

set_option maxHeartbeats 4000000 in
set_option maxRecDepth 100000 in
theorem c_misGood (l : Launch) (G : va_G) (t : Nat → ClassId) (z : Nat) (zw : Nat) (zm : Nat) (zc : Nat) (zv : Nat) (zt : Nat) (zn : Nat) (zh : Nat) (zp : Nat) (ze : Nat) (zs : Nat) (zg : Nat) (zk : Nat) (za : Nat) (zd : Nat) (zf : Nat) (zo : Nat) (zE : Nat) (zq : Nat) (zC : Nat) : Ct l G t yX12_isGood cX12_isGood 1 (some .boolean) ({ frames := 0, cells := 0, slots := 0, locals := 0 }) [.ref z] [(z, .inr (12, [.int 0, .ref zw, .ref zm, .ref zc, .ref zv, .ref zt, .int 0, .int 0, .int 0, .int 0, .int 0, .long 0, .int 0, .int (-1), .int 0, .int (-1), .ref zn, .ref zh, .ref zp, .ref ze, .ref zs, .ref zg, .ref zk, .ref za, .ref zd, .ref zf, .ref zo, .ref zE, .ref zq, .int 0, .int 0, .int 0, .int 0, .int 0, .int 0, .ref zC]))] (QI G (fun r (u : Unit) => r = 1) (fun (u : Unit) => [(z, .inr (12, [.int 0, .ref zw, .ref zm, .ref zc, .ref zv, .ref zt, .int 0, .int 0, .int 0, .int 0, .int 0, .long 0, .int 0, .int (-1), .int 0, .int (-1), .ref zn, .ref zh, .ref zp, .ref ze, .ref zs, .ref zg, .ref zk, .ref za, .ref zd, .ref zf, .ref zo, .ref zE, .ref zq, .int 0, .int 0, .int 0, .int 0, .int 0, .int 0, .ref zC]))])) := by
  refine ent (by decide) (Nat.le_of_ble_eq_true rfl) ?_
  intro p e s m args below meth c hx hb hr hml hts hown hlocks hin A hA hK hO hP hD hS ls hl
  have hown : s.vm.findClass RX12 = some m.cls := hown
  have hl : lv_has ls 1 [(0, .ref z)] := hl
  have C0 : Cx p s m args c cX12_isGood 1 RX12 G t := ⟨hx, hb, hml, hown, hts, hK, hO⟩
  refine lv_aload_n hx hb dX12_isGood_0 rfl (lv_at hl 0 rfl) ?_
  refine gf hx hb hts hown hK hP 0 inT12 rfl rfl 12 (by decide) tw5_237 rfl dX12_isGood_1 ?_
  refine lv_if_ne (tgt := 11) hx hb dX12_isGood_4 (by decide) (fun c_1 => absurd (by decide) c_1) (fun _ => ?_)
  refine lv_iconst (v := 1) hx hb dX12_isGood_7 (by decide) ?_
  refine lv_goto (tgt := 12) hx hb dX12_isGood_8 (by decide) ?_
  refine W.widen (k := 0) (n := 0) (by decide) (by decide) ?_
  exact rtZ hx hb hr hlocks hS rfl () (rfl) (hP.sub [0] rfl) (hD.sub [0] (by decide) rfl) dX12_isGood_12

set_option maxHeartbeats 4000000 in
set_option maxRecDepth 100000 in
theorem c_isOver (l : Launch) (G : va_G) (t : Nat → ClassId) (z : Nat) (zw : Nat) (zm : Nat) (zc : Nat) (zv : Nat) (zt : Nat) (zn : Nat) (zh : Nat) (zp : Nat) (ze : Nat) (zs : Nat) (zg : Nat) (zk : Nat) (za : Nat) (zd : Nat) (zf : Nat) (zo : Nat) (zE : Nat) (zq : Nat) (zC : Nat) : Ct l G t yX12_isOver cX12_isOver 1 none ({ frames := 0, cells := 0, slots := 0, locals := 0 }) [.ref z] [(z, .inr (12, [.int 0, .ref zw, .ref zm, .ref zc, .ref zv, .ref zt, .int 0, .int 0, .int 0, .int 0, .int 0, .long 0, .int 0, .int (-1), .int 0, .int (-1), .ref zn, .ref zh, .ref zp, .ref ze, .ref zs, .ref zg, .ref zk, .ref za, .ref zd, .ref zf, .ref zo, .ref zE, .ref zq, .int 0, .int 0, .int 0, .int 0, .int 0, .int 0, .ref zC]))] (QV G (fun (u : Unit) => True) (fun (u : Unit) => [(z, .inr (12, [.int 0, .ref zw, .ref zm, .ref zc, .ref zv, .ref zt, .int 0, .int 0, .int 0, .int 0, .int 0, .long 0, .int 0, .int (-1), .int 0, .int (-1), .ref zn, .ref zh, .ref zp, .ref ze, .ref zs, .ref zg, .ref zk, .ref za, .ref zd, .ref zf, .ref zo, .ref zE, .ref zq, .int 0, .int 0, .int 0, .int 0, .int 0, .int 0, .ref zC]))])) := by
  refine ent (by decide) (Nat.le_of_ble_eq_true rfl) ?_
  intro p e s m args below meth c hx hb hr hml hts hown hlocks hin A hA hK hO hP hD hS ls hl
  have hown : s.vm.findClass RX12 = some m.cls := hown
  have hl : lv_has ls 1 [(0, .ref z)] := hl
  have C0 : Cx p s m args c cX12_isOver 1 RX12 G t := ⟨hx, hb, hml, hown, hts, hK, hO⟩
  refine lv_aload_n hx hb dX12_isOver_0 rfl (lv_at hl 0 rfl) ?_
  refine lv_iconst (v := 0) hx hb dX12_isOver_1 (by decide) ?_
  refine pf hx hb hts hown hK hP hD hS 0 inT12 tyX12_ok nmX12 rfl rfl 6 (by decide) tw5_231 rfl rfl rfl (Nat.le_of_ble_eq_true rfl) dX12_isOver_2 (ws' := [(z, .inr (12, [.int 0, .ref zw, .ref zm, .ref zc, .ref zv, .ref zt, .int 0, .int 0, .int 0, .int 0, .int 0, .long 0, .int 0, .int (-1), .int 0, .int (-1), .ref zn, .ref zh, .ref zp, .ref ze, .ref zs, .ref zg, .ref zk, .ref za, .ref zd, .ref zf, .ref zo, .ref zE, .ref zq, .int 0, .int 0, .int 0, .int 0, .int 0, .int 0, .ref zC]))]) rfl (fun H locs hP hD hS => ?_)
  refine lv_aload_n hx hb dX12_isOver_5 rfl (lv_at hl 0 rfl) ?_
  refine lv_aload_n hx hb dX12_isOver_6 rfl (lv_at hl 0 rfl) ?_
  refine gf hx hb hts hown hK hP 0 inT12 rfl rfl 12 (by decide) tw5_237 rfl dX12_isOver_7 ?_
  refine pf hx hb hts hown hK hP hD hS 0 inT12 tyX12_ok nmX12 rfl rfl 14 (by decide) tw5_239 rfl rfl rfl (Nat.le_of_ble_eq_true rfl) dX12_isOver_10 (ws' := [(z, .inr (12, [.int 0, .ref zw, .ref zm, .ref zc, .ref zv, .ref zt, .int 0, .int 0, .int 0, .int 0, .int 0, .long 0, .int 0, .int (-1), .int 0, .int (-1), .ref zn, .ref zh, .ref zp, .ref ze, .ref zs, .ref zg, .ref zk, .ref za, .ref zd, .ref zf, .ref zo, .ref zE, .ref zq, .int 0, .int 0, .int 0, .int 0, .int 0, .int 0, .ref zC]))]) rfl (fun H locs hP hD hS => ?_)
  refine lv_aload_n hx hb dX12_isOver_13 rfl (lv_at hl 0 rfl) ?_
  refine lv_aload_n hx hb dX12_isOver_14 rfl (lv_at hl 0 rfl) ?_
  refine gf hx hb hts hown hK hP 0 inT12 rfl rfl 12 (by decide) tw5_237 rfl dX12_isOver_15 ?_
  refine lv_if_ne (tgt := 25) hx hb dX12_isOver_18 (by decide) (fun c_1 => absurd (by decide) c_1) (fun _ => ?_)
  refine lv_iconst (v := (-1)) hx hb dX12_isOver_21 (by decide) ?_
  refine lv_goto (tgt := 29) hx hb dX12_isOver_22 (by decide) ?_
  refine pf hx hb hts hown hK hP hD hS 0 inT12 tyX12_ok nmX12 rfl rfl 15 (by decide) tw6_0 rfl rfl rfl (Nat.le_of_ble_eq_true rfl) dX12_isOver_29 (ws' := [(z, .inr (12, [.int 0, .ref zw, .ref zm, .ref zc, .ref zv, .ref zt, .int 0, .int 0, .int 0, .int 0, .int 0, .long 0, .int 0, .int (-1), .int 0, .int (-1), .ref zn, .ref zh, .ref zp, .ref ze, .ref zs, .ref zg, .ref zk, .ref za, .ref zd, .ref zf, .ref zo, .ref zE, .ref zq, .int 0, .int 0, .int 0, .int 0, .int 0, .int 0, .ref zC]))]) rfl (fun H locs hP hD hS => ?_)
  refine W.widen (k := 0) (n := 0) (by decide) (by decide) ?_
  exact rtV hx hb hr hlocks hS () (trivial) (hP.sub [0] rfl) (hD.sub [0] (by decide) rfl) dX12_isOver_32

set_option maxHeartbeats 4000000 in
set_option maxRecDepth 100000 in
theorem c_copyRow_1_4_0 (l : Launch) (G : va_G) (t : Nat → ClassId) (q0 : Nat) : Ct l G t yX12_copyRow cX12_copyRow 5 none ({ frames := 0, cells := 0, slots := 0, locals := 0 }) [.ref q0, .int 1, .int 4, .int 0] [(q0, .inl (t 1, 5, .inl (fun _ => 0)))] (QV G (fun (u : Unit) => True) (fun (u : Unit) => [(q0, .inl (t 1, 5, .inl (fun _ => 0)))])) := by
  refine ent (by decide) (Nat.le_of_ble_eq_true rfl) ?_
  intro p e s m args below meth c hx hb hr hml hts hown hlocks hin A hA hK hO hP hD hS ls hl
  have hown : s.vm.findClass RX12 = some m.cls := hown
  have hl : lv_has ls 5 [(0, .ref q0), (1, .int 1), (2, .int 4), (3, .int 0)] := hl
  have C0 : Cx p s m args c cX12_copyRow 5 RX12 G t := ⟨hx, hb, hml, hown, hts, hK, hO⟩
  refine lv_iconst (v := 0) hx hb dX12_copyRow_0 (by decide) ?_
  refine lv_istore (lv' := [(4, .int 0), (0, .ref q0), (1, .int 1), (2, .int 4), (3, .int 0)]) hx hb dX12_copyRow_1 hl (by decide) rfl (fun ls hl => ?_)
  have LP_1 : ∀ (n k : Nat), k + n = 1 → ∀ (H : Heap) (locs : List Loc) (ls : Array Slot), lv_has ls 5 [(4, .int (nI k)), (0, .ref q0), (1, .int 1), (2, .int 4), (3, .int 0)] → va_P G vwCl [(q0, .inl (t 1, 5, .inl (fun _ => 0)))] H → va_D A [(q0, .inl (t 1, 5, .inl (fun _ => 0)))] → va_S A s.heap H locs → W p l e ({ frames := 0, cells := 0, slots := 0, locals := 0 }) s m args below meth c H locs 0 0 (MQ below ((QV G (fun (u : Unit) => True) (fun (u : Unit) => [(q0, .inl (t 1, 5, .inl (fun _ => 0)))])) A) args s 0 0 A) (F0 m 3 ls []) := by
    intro n
    induction n with
    | zero =>
      intro k hk H locs ls hl hP hD hS
      obtain rfl : k = 1 := by omega
      refine lv_iload hx hb dX12_copyRow_3 (lv_at hl 0 rfl) ?_
      refine lv_iload_n hx hb dX12_copyRow_5 rfl (lv_at hl 2 rfl) ?_
      refine lv_icmp_ge (tgt := 31) hx hb dX12_copyRow_6 (by decide) (fun _ => ?_) (fun c_2 => absurd (by decide) c_2)
      refine W.widen (k := 0) (n := 0) (by decide) (by decide) ?_
      exact rtV hx hb hr hlocks hS () (trivial) (hP.sub [0] rfl) (hD.sub [0] (by decide) rfl) dX12_copyRow_31
    | succ n ih =>
      intro k hk H locs ls hl hP hD hS
      refine lv_iload hx hb dX12_copyRow_3 (lv_at hl 0 rfl) ?_
      refine lv_iload_n hx hb dX12_copyRow_5 rfl (lv_at hl 2 rfl) ?_
      refine lv_icmp_ge (tgt := 31) hx hb dX12_copyRow_6 (by decide) (fun c_3 => absurd c_3 (show ¬ nI 1 ≤ nI k from nI_ge (by omega) (by decide))) (fun _ => ?_)
      refine lv_aload_n hx hb dX12_copyRow_9 rfl (lv_at hl 1 rfl) ?_
      refine lv_iload_n hx hb dX12_copyRow_10 rfl (lv_at hl 2 rfl) ?_
      refine lv_iload_n hx hb dX12_copyRow_11 rfl (lv_at hl 4 rfl) ?_
      refine lv_imul hx hb dX12_copyRow_12 (tpi (v := 0) (by decide) ?_)
      refine lv_iload hx hb dX12_copyRow_13 (lv_at hl 0 rfl) ?_
      refine lv_iadd hx hb dX12_copyRow_15 (tpi (v := (nI (0 + k))) (show nI 0 + nI k = nI (0 + k) from nI_add 0 k) ?_)
      refine lv_aload_n hx hb dX12_copyRow_16 rfl (lv_at hl 1 rfl) ?_
      refine lv_iload_n hx hb dX12_copyRow_17 rfl (lv_at hl 2 rfl) ?_
      refine lv_iload_n hx hb dX12_copyRow_18 rfl (lv_at hl 3 rfl) ?_
      refine lv_imul hx hb dX12_copyRow_19 (tpi (v := 4) (by decide) ?_)
      refine lv_iload hx hb dX12_copyRow_20 (lv_at hl 0 rfl) ?_
      refine lv_iadd hx hb dX12_copyRow_22 (tpi (v := (nI (4 + k))) (show nI 4 + nI k = nI (4 + k) from nI_add 4 k) ?_)
      refine ldI hx hb hK hP 0 rfl (vp_in_nI (by omega) (by decide)) dX12_copyRow_23 (v := 0) (rfl) ?_
      refine stI hx hb hK hP hD hS 0 rfl (vp_in_nI (by omega) (by decide)) dX12_copyRow_24 (f' := (fun _ => 0)) (upd_z _) (ws' := [(q0, .inl (t 1, 5, .inl (fun _ => 0)))]) rfl (fun H locs hP hD hS => ?_)
      refine lv_iinc (v := (nI (k + 1))) (lv' := [(4, .int (nI (k + 1))), (0, .ref q0), (1, .int 1), (2, .int 4), (3, .int 0)]) hx hb dX12_copyRow_25 hl (k := 0) rfl (nI_1 k) (by decide) rfl (fun ls hl => ?_)
      refine lv_goto (tgt := 3) hx hb dX12_copyRow_28 (by decide) ?_
      exact ih (k + 1) (by omega) H locs ls (lv_sub hl [0, 1, 2, 3, 4] rfl) (hP.sub [0] rfl) (hD.sub [0] (by decide) rfl) hS
  exact LP_1 1 0 (by omega) _ _ _ hl hP hD hS

set_option maxHeartbeats 4000000 in
set_option maxRecDepth 100000 in
theorem c_copyRow_6_4_0 (l : Launch) (G : va_G) (t : Nat → ClassId) (q0 : Nat) : Ct l G t yX12_copyRow cX12_copyRow 5 none ({ frames := 0, cells := 0, slots := 0, locals := 0 }) [.ref q0, .int 6, .int 4, .int 0] [(q0, .inl (t 1, 30, .inl (fun _ => 0)))] (QV G (fun (u : Unit) => True) (fun (u : Unit) => [(q0, .inl (t 1, 30, .inl (fun _ => 0)))])) := by
  refine ent (by decide) (Nat.le_of_ble_eq_true rfl) ?_
  intro p e s m args below meth c hx hb hr hml hts hown hlocks hin A hA hK hO hP hD hS ls hl
  have hown : s.vm.findClass RX12 = some m.cls := hown
  have hl : lv_has ls 5 [(0, .ref q0), (1, .int 6), (2, .int 4), (3, .int 0)] := hl
  have C0 : Cx p s m args c cX12_copyRow 5 RX12 G t := ⟨hx, hb, hml, hown, hts, hK, hO⟩
  refine lv_iconst (v := 0) hx hb dX12_copyRow_0 (by decide) ?_
  refine lv_istore (lv' := [(4, .int 0), (0, .ref q0), (1, .int 6), (2, .int 4), (3, .int 0)]) hx hb dX12_copyRow_1 hl (by decide) rfl (fun ls hl => ?_)
  have LP_1 : ∀ (n k : Nat), k + n = 6 → ∀ (H : Heap) (locs : List Loc) (ls : Array Slot), lv_has ls 5 [(4, .int (nI k)), (0, .ref q0), (1, .int 6), (2, .int 4), (3, .int 0)] → va_P G vwCl [(q0, .inl (t 1, 30, .inl (fun _ => 0)))] H → va_D A [(q0, .inl (t 1, 30, .inl (fun _ => 0)))] → va_S A s.heap H locs → W p l e ({ frames := 0, cells := 0, slots := 0, locals := 0 }) s m args below meth c H locs 0 0 (MQ below ((QV G (fun (u : Unit) => True) (fun (u : Unit) => [(q0, .inl (t 1, 30, .inl (fun _ => 0)))])) A) args s 0 0 A) (F0 m 3 ls []) := by
    intro n
    induction n with
    | zero =>
      intro k hk H locs ls hl hP hD hS
      obtain rfl : k = 6 := by omega
      refine lv_iload hx hb dX12_copyRow_3 (lv_at hl 0 rfl) ?_
      refine lv_iload_n hx hb dX12_copyRow_5 rfl (lv_at hl 2 rfl) ?_
      refine lv_icmp_ge (tgt := 31) hx hb dX12_copyRow_6 (by decide) (fun _ => ?_) (fun c_2 => absurd (by decide) c_2)
      refine W.widen (k := 0) (n := 0) (by decide) (by decide) ?_
      exact rtV hx hb hr hlocks hS () (trivial) (hP.sub [0] rfl) (hD.sub [0] (by decide) rfl) dX12_copyRow_31
    | succ n ih =>
      intro k hk H locs ls hl hP hD hS
      refine lv_iload hx hb dX12_copyRow_3 (lv_at hl 0 rfl) ?_
      refine lv_iload_n hx hb dX12_copyRow_5 rfl (lv_at hl 2 rfl) ?_
      refine lv_icmp_ge (tgt := 31) hx hb dX12_copyRow_6 (by decide) (fun c_3 => absurd c_3 (show ¬ nI 6 ≤ nI k from nI_ge (by omega) (by decide))) (fun _ => ?_)
      refine lv_aload_n hx hb dX12_copyRow_9 rfl (lv_at hl 1 rfl) ?_
      refine lv_iload_n hx hb dX12_copyRow_10 rfl (lv_at hl 2 rfl) ?_
      refine lv_iload_n hx hb dX12_copyRow_11 rfl (lv_at hl 4 rfl) ?_
      refine lv_imul hx hb dX12_copyRow_12 (tpi (v := 0) (by decide) ?_)
      refine lv_iload hx hb dX12_copyRow_13 (lv_at hl 0 rfl) ?_
      refine lv_iadd hx hb dX12_copyRow_15 (tpi (v := (nI (0 + k))) (show nI 0 + nI k = nI (0 + k) from nI_add 0 k) ?_)
      refine lv_aload_n hx hb dX12_copyRow_16 rfl (lv_at hl 1 rfl) ?_
      refine lv_iload_n hx hb dX12_copyRow_17 rfl (lv_at hl 2 rfl) ?_
      refine lv_iload_n hx hb dX12_copyRow_18 rfl (lv_at hl 3 rfl) ?_
      refine lv_imul hx hb dX12_copyRow_19 (tpi (v := 24) (by decide) ?_)
      refine lv_iload hx hb dX12_copyRow_20 (lv_at hl 0 rfl) ?_
      refine lv_iadd hx hb dX12_copyRow_22 (tpi (v := (nI (24 + k))) (show nI 24 + nI k = nI (24 + k) from nI_add 24 k) ?_)
      refine ldI hx hb hK hP 0 rfl (vp_in_nI (by omega) (by decide)) dX12_copyRow_23 (v := 0) (rfl) ?_
      refine stI hx hb hK hP hD hS 0 rfl (vp_in_nI (by omega) (by decide)) dX12_copyRow_24 (f' := (fun _ => 0)) (upd_z _) (ws' := [(q0, .inl (t 1, 30, .inl (fun _ => 0)))]) rfl (fun H locs hP hD hS => ?_)
      refine lv_iinc (v := (nI (k + 1))) (lv' := [(4, .int (nI (k + 1))), (0, .ref q0), (1, .int 6), (2, .int 4), (3, .int 0)]) hx hb dX12_copyRow_25 hl (k := 0) rfl (nI_1 k) (by decide) rfl (fun ls hl => ?_)
      refine lv_goto (tgt := 3) hx hb dX12_copyRow_28 (by decide) ?_
      exact ih (k + 1) (by omega) H locs ls (lv_sub hl [0, 1, 2, 3, 4] rfl) (hP.sub [0] rfl) (hD.sub [0] (by decide) rfl) hS
  exact LP_1 6 0 (by omega) _ _ _ hl hP hD hS

set_option maxHeartbeats 4000000 in
set_option maxRecDepth 100000 in
theorem c_copyRow_36_4_0 (l : Launch) (G : va_G) (t : Nat → ClassId) (q0 : Nat) : Ct l G t yX12_copyRow cX12_copyRow 5 none ({ frames := 0, cells := 0, slots := 0, locals := 0 }) [.ref q0, .int 36, .int 4, .int 0] [(q0, .inl (t 1, 180, .inl (fun _ => 0)))] (QV G (fun (u : Unit) => True) (fun (u : Unit) => [(q0, .inl (t 1, 180, .inl (fun _ => 0)))])) := by
  refine ent (by decide) (Nat.le_of_ble_eq_true rfl) ?_
  intro p e s m args below meth c hx hb hr hml hts hown hlocks hin A hA hK hO hP hD hS ls hl
  have hown : s.vm.findClass RX12 = some m.cls := hown
  have hl : lv_has ls 5 [(0, .ref q0), (1, .int 36), (2, .int 4), (3, .int 0)] := hl
  have C0 : Cx p s m args c cX12_copyRow 5 RX12 G t := ⟨hx, hb, hml, hown, hts, hK, hO⟩
  refine lv_iconst (v := 0) hx hb dX12_copyRow_0 (by decide) ?_
  refine lv_istore (lv' := [(4, .int 0), (0, .ref q0), (1, .int 36), (2, .int 4), (3, .int 0)]) hx hb dX12_copyRow_1 hl (by decide) rfl (fun ls hl => ?_)
  have LP_1 : ∀ (n k : Nat), k + n = 36 → ∀ (H : Heap) (locs : List Loc) (ls : Array Slot), lv_has ls 5 [(4, .int (nI k)), (0, .ref q0), (1, .int 36), (2, .int 4), (3, .int 0)] → va_P G vwCl [(q0, .inl (t 1, 180, .inl (fun _ => 0)))] H → va_D A [(q0, .inl (t 1, 180, .inl (fun _ => 0)))] → va_S A s.heap H locs → W p l e ({ frames := 0, cells := 0, slots := 0, locals := 0 }) s m args below meth c H locs 0 0 (MQ below ((QV G (fun (u : Unit) => True) (fun (u : Unit) => [(q0, .inl (t 1, 180, .inl (fun _ => 0)))])) A) args s 0 0 A) (F0 m 3 ls []) := by
    intro n
    induction n with
    | zero =>
      intro k hk H locs ls hl hP hD hS
      obtain rfl : k = 36 := by omega
      refine lv_iload hx hb dX12_copyRow_3 (lv_at hl 0 rfl) ?_
      refine lv_iload_n hx hb dX12_copyRow_5 rfl (lv_at hl 2 rfl) ?_
      refine lv_icmp_ge (tgt := 31) hx hb dX12_copyRow_6 (by decide) (fun _ => ?_) (fun c_2 => absurd (by decide) c_2)
      refine W.widen (k := 0) (n := 0) (by decide) (by decide) ?_
      exact rtV hx hb hr hlocks hS () (trivial) (hP.sub [0] rfl) (hD.sub [0] (by decide) rfl) dX12_copyRow_31
    | succ n ih =>
      intro k hk H locs ls hl hP hD hS
      refine lv_iload hx hb dX12_copyRow_3 (lv_at hl 0 rfl) ?_
      refine lv_iload_n hx hb dX12_copyRow_5 rfl (lv_at hl 2 rfl) ?_
      refine lv_icmp_ge (tgt := 31) hx hb dX12_copyRow_6 (by decide) (fun c_3 => absurd c_3 (show ¬ nI 36 ≤ nI k from nI_ge (by omega) (by decide))) (fun _ => ?_)
      refine lv_aload_n hx hb dX12_copyRow_9 rfl (lv_at hl 1 rfl) ?_
      refine lv_iload_n hx hb dX12_copyRow_10 rfl (lv_at hl 2 rfl) ?_
      refine lv_iload_n hx hb dX12_copyRow_11 rfl (lv_at hl 4 rfl) ?_
      refine lv_imul hx hb dX12_copyRow_12 (tpi (v := 0) (by decide) ?_)
      refine lv_iload hx hb dX12_copyRow_13 (lv_at hl 0 rfl) ?_
      refine lv_iadd hx hb dX12_copyRow_15 (tpi (v := (nI (0 + k))) (show nI 0 + nI k = nI (0 + k) from nI_add 0 k) ?_)
      refine lv_aload_n hx hb dX12_copyRow_16 rfl (lv_at hl 1 rfl) ?_
      refine lv_iload_n hx hb dX12_copyRow_17 rfl (lv_at hl 2 rfl) ?_
      refine lv_iload_n hx hb dX12_copyRow_18 rfl (lv_at hl 3 rfl) ?_
      refine lv_imul hx hb dX12_copyRow_19 (tpi (v := 144) (by decide) ?_)
      refine lv_iload hx hb dX12_copyRow_20 (lv_at hl 0 rfl) ?_
      refine lv_iadd hx hb dX12_copyRow_22 (tpi (v := (nI (144 + k))) (show nI 144 + nI k = nI (144 + k) from nI_add 144 k) ?_)
      refine ldI hx hb hK hP 0 rfl (vp_in_nI (by omega) (by decide)) dX12_copyRow_23 (v := 0) (rfl) ?_
      refine stI hx hb hK hP hD hS 0 rfl (vp_in_nI (by omega) (by decide)) dX12_copyRow_24 (f' := (fun _ => 0)) (upd_z _) (ws' := [(q0, .inl (t 1, 180, .inl (fun _ => 0)))]) rfl (fun H locs hP hD hS => ?_)
      refine lv_iinc (v := (nI (k + 1))) (lv' := [(4, .int (nI (k + 1))), (0, .ref q0), (1, .int 36), (2, .int 4), (3, .int 0)]) hx hb dX12_copyRow_25 hl (k := 0) rfl (nI_1 k) (by decide) rfl (fun ls hl => ?_)
      refine lv_goto (tgt := 3) hx hb dX12_copyRow_28 (by decide) ?_
      exact ih (k + 1) (by omega) H locs ls (lv_sub hl [0, 1, 2, 3, 4] rfl) (hP.sub [0] rfl) (hD.sub [0] (by decide) rfl) hS
  exact LP_1 36 0 (by omega) _ _ _ hl hP hD hS

set_option maxHeartbeats 4000000 in
set_option maxRecDepth 100000 in
theorem c_copyRow_28_4_0 (l : Launch) (G : va_G) (t : Nat → ClassId) (q0 : Nat) : Ct l G t yX12_copyRow cX12_copyRow 5 none ({ frames := 0, cells := 0, slots := 0, locals := 0 }) [.ref q0, .int 28, .int 4, .int 0] [(q0, .inl (t 1, 140, .inl (fun _ => 0)))] (QV G (fun (u : Unit) => True) (fun (u : Unit) => [(q0, .inl (t 1, 140, .inl (fun _ => 0)))])) := by
  refine ent (by decide) (Nat.le_of_ble_eq_true rfl) ?_
  intro p e s m args below meth c hx hb hr hml hts hown hlocks hin A hA hK hO hP hD hS ls hl
  have hown : s.vm.findClass RX12 = some m.cls := hown
  have hl : lv_has ls 5 [(0, .ref q0), (1, .int 28), (2, .int 4), (3, .int 0)] := hl
  have C0 : Cx p s m args c cX12_copyRow 5 RX12 G t := ⟨hx, hb, hml, hown, hts, hK, hO⟩
  refine lv_iconst (v := 0) hx hb dX12_copyRow_0 (by decide) ?_
  refine lv_istore (lv' := [(4, .int 0), (0, .ref q0), (1, .int 28), (2, .int 4), (3, .int 0)]) hx hb dX12_copyRow_1 hl (by decide) rfl (fun ls hl => ?_)
  have LP_1 : ∀ (n k : Nat), k + n = 28 → ∀ (H : Heap) (locs : List Loc) (ls : Array Slot), lv_has ls 5 [(4, .int (nI k)), (0, .ref q0), (1, .int 28), (2, .int 4), (3, .int 0)] → va_P G vwCl [(q0, .inl (t 1, 140, .inl (fun _ => 0)))] H → va_D A [(q0, .inl (t 1, 140, .inl (fun _ => 0)))] → va_S A s.heap H locs → W p l e ({ frames := 0, cells := 0, slots := 0, locals := 0 }) s m args below meth c H locs 0 0 (MQ below ((QV G (fun (u : Unit) => True) (fun (u : Unit) => [(q0, .inl (t 1, 140, .inl (fun _ => 0)))])) A) args s 0 0 A) (F0 m 3 ls []) := by
    intro n
    induction n with
    | zero =>
      intro k hk H locs ls hl hP hD hS
      obtain rfl : k = 28 := by omega
      refine lv_iload hx hb dX12_copyRow_3 (lv_at hl 0 rfl) ?_
      refine lv_iload_n hx hb dX12_copyRow_5 rfl (lv_at hl 2 rfl) ?_
      refine lv_icmp_ge (tgt := 31) hx hb dX12_copyRow_6 (by decide) (fun _ => ?_) (fun c_2 => absurd (by decide) c_2)
      refine W.widen (k := 0) (n := 0) (by decide) (by decide) ?_
      exact rtV hx hb hr hlocks hS () (trivial) (hP.sub [0] rfl) (hD.sub [0] (by decide) rfl) dX12_copyRow_31
    | succ n ih =>
      intro k hk H locs ls hl hP hD hS
      refine lv_iload hx hb dX12_copyRow_3 (lv_at hl 0 rfl) ?_
      refine lv_iload_n hx hb dX12_copyRow_5 rfl (lv_at hl 2 rfl) ?_
      refine lv_icmp_ge (tgt := 31) hx hb dX12_copyRow_6 (by decide) (fun c_3 => absurd c_3 (show ¬ nI 28 ≤ nI k from nI_ge (by omega) (by decide))) (fun _ => ?_)
      refine lv_aload_n hx hb dX12_copyRow_9 rfl (lv_at hl 1 rfl) ?_
      refine lv_iload_n hx hb dX12_copyRow_10 rfl (lv_at hl 2 rfl) ?_
      refine lv_iload_n hx hb dX12_copyRow_11 rfl (lv_at hl 4 rfl) ?_
      refine lv_imul hx hb dX12_copyRow_12 (tpi (v := 0) (by decide) ?_)
      refine lv_iload hx hb dX12_copyRow_13 (lv_at hl 0 rfl) ?_
      refine lv_iadd hx hb dX12_copyRow_15 (tpi (v := (nI (0 + k))) (show nI 0 + nI k = nI (0 + k) from nI_add 0 k) ?_)
      refine lv_aload_n hx hb dX12_copyRow_16 rfl (lv_at hl 1 rfl) ?_
      refine lv_iload_n hx hb dX12_copyRow_17 rfl (lv_at hl 2 rfl) ?_
      refine lv_iload_n hx hb dX12_copyRow_18 rfl (lv_at hl 3 rfl) ?_
      refine lv_imul hx hb dX12_copyRow_19 (tpi (v := 112) (by decide) ?_)
      refine lv_iload hx hb dX12_copyRow_20 (lv_at hl 0 rfl) ?_
      refine lv_iadd hx hb dX12_copyRow_22 (tpi (v := (nI (112 + k))) (show nI 112 + nI k = nI (112 + k) from nI_add 112 k) ?_)
      refine ldI hx hb hK hP 0 rfl (vp_in_nI (by omega) (by decide)) dX12_copyRow_23 (v := 0) (rfl) ?_
      refine stI hx hb hK hP hD hS 0 rfl (vp_in_nI (by omega) (by decide)) dX12_copyRow_24 (f' := (fun _ => 0)) (upd_z _) (ws' := [(q0, .inl (t 1, 140, .inl (fun _ => 0)))]) rfl (fun H locs hP hD hS => ?_)
      refine lv_iinc (v := (nI (k + 1))) (lv' := [(4, .int (nI (k + 1))), (0, .ref q0), (1, .int 28), (2, .int 4), (3, .int 0)]) hx hb dX12_copyRow_25 hl (k := 0) rfl (nI_1 k) (by decide) rfl (fun ls hl => ?_)
      refine lv_goto (tgt := 3) hx hb dX12_copyRow_28 (by decide) ?_
      exact ih (k + 1) (by omega) H locs ls (lv_sub hl [0, 1, 2, 3, 4] rfl) (hP.sub [0] rfl) (hD.sub [0] (by decide) rfl) hS
  exact LP_1 28 0 (by omega) _ _ _ hl hP hD hS

set_option maxHeartbeats 4000000 in
set_option maxRecDepth 100000 in
theorem c_copyRow_160_4_0 (l : Launch) (G : va_G) (t : Nat → ClassId) (q0 : Nat) : Ct l G t yX12_copyRow cX12_copyRow 5 none ({ frames := 0, cells := 0, slots := 0, locals := 0 }) [.ref q0, .int 160, .int 4, .int 0] [(q0, .inl (t 1, 800, .inl (fun _ => 0)))] (QV G (fun (u : Unit) => True) (fun (u : Unit) => [(q0, .inl (t 1, 800, .inl (fun _ => 0)))])) := by
  refine ent (by decide) (Nat.le_of_ble_eq_true rfl) ?_
  intro p e s m args below meth c hx hb hr hml hts hown hlocks hin A hA hK hO hP hD hS ls hl
  have hown : s.vm.findClass RX12 = some m.cls := hown
  have hl : lv_has ls 5 [(0, .ref q0), (1, .int 160), (2, .int 4), (3, .int 0)] := hl
  have C0 : Cx p s m args c cX12_copyRow 5 RX12 G t := ⟨hx, hb, hml, hown, hts, hK, hO⟩
  refine lv_iconst (v := 0) hx hb dX12_copyRow_0 (by decide) ?_
  refine lv_istore (lv' := [(4, .int 0), (0, .ref q0), (1, .int 160), (2, .int 4), (3, .int 0)]) hx hb dX12_copyRow_1 hl (by decide) rfl (fun ls hl => ?_)
  have LP_1 : ∀ (n k : Nat), k + n = 160 → ∀ (H : Heap) (locs : List Loc) (ls : Array Slot), lv_has ls 5 [(4, .int (nI k)), (0, .ref q0), (1, .int 160), (2, .int 4), (3, .int 0)] → va_P G vwCl [(q0, .inl (t 1, 800, .inl (fun _ => 0)))] H → va_D A [(q0, .inl (t 1, 800, .inl (fun _ => 0)))] → va_S A s.heap H locs → W p l e ({ frames := 0, cells := 0, slots := 0, locals := 0 }) s m args below meth c H locs 0 0 (MQ below ((QV G (fun (u : Unit) => True) (fun (u : Unit) => [(q0, .inl (t 1, 800, .inl (fun _ => 0)))])) A) args s 0 0 A) (F0 m 3 ls []) := by
    intro n
    induction n with
    | zero =>
      intro k hk H locs ls hl hP hD hS
      obtain rfl : k = 160 := by omega
      refine lv_iload hx hb dX12_copyRow_3 (lv_at hl 0 rfl) ?_
      refine lv_iload_n hx hb dX12_copyRow_5 rfl (lv_at hl 2 rfl) ?_
      refine lv_icmp_ge (tgt := 31) hx hb dX12_copyRow_6 (by decide) (fun _ => ?_) (fun c_2 => absurd (by decide) c_2)
      refine W.widen (k := 0) (n := 0) (by decide) (by decide) ?_
      exact rtV hx hb hr hlocks hS () (trivial) (hP.sub [0] rfl) (hD.sub [0] (by decide) rfl) dX12_copyRow_31
    | succ n ih =>
      intro k hk H locs ls hl hP hD hS
      refine lv_iload hx hb dX12_copyRow_3 (lv_at hl 0 rfl) ?_
      refine lv_iload_n hx hb dX12_copyRow_5 rfl (lv_at hl 2 rfl) ?_
      refine lv_icmp_ge (tgt := 31) hx hb dX12_copyRow_6 (by decide) (fun c_3 => absurd c_3 (show ¬ nI 160 ≤ nI k from nI_ge (by omega) (by decide))) (fun _ => ?_)
      refine lv_aload_n hx hb dX12_copyRow_9 rfl (lv_at hl 1 rfl) ?_
      refine lv_iload_n hx hb dX12_copyRow_10 rfl (lv_at hl 2 rfl) ?_
      refine lv_iload_n hx hb dX12_copyRow_11 rfl (lv_at hl 4 rfl) ?_
      refine lv_imul hx hb dX12_copyRow_12 (tpi (v := 0) (by decide) ?_)
      refine lv_iload hx hb dX12_copyRow_13 (lv_at hl 0 rfl) ?_
      refine lv_iadd hx hb dX12_copyRow_15 (tpi (v := (nI (0 + k))) (show nI 0 + nI k = nI (0 + k) from nI_add 0 k) ?_)
      refine lv_aload_n hx hb dX12_copyRow_16 rfl (lv_at hl 1 rfl) ?_
      refine lv_iload_n hx hb dX12_copyRow_17 rfl (lv_at hl 2 rfl) ?_
      refine lv_iload_n hx hb dX12_copyRow_18 rfl (lv_at hl 3 rfl) ?_
      refine lv_imul hx hb dX12_copyRow_19 (tpi (v := 640) (by decide) ?_)
      refine lv_iload hx hb dX12_copyRow_20 (lv_at hl 0 rfl) ?_
      refine lv_iadd hx hb dX12_copyRow_22 (tpi (v := (nI (640 + k))) (show nI 640 + nI k = nI (640 + k) from nI_add 640 k) ?_)
      refine ldI hx hb hK hP 0 rfl (vp_in_nI (by omega) (by decide)) dX12_copyRow_23 (v := 0) (rfl) ?_
      refine stI hx hb hK hP hD hS 0 rfl (vp_in_nI (by omega) (by decide)) dX12_copyRow_24 (f' := (fun _ => 0)) (upd_z _) (ws' := [(q0, .inl (t 1, 800, .inl (fun _ => 0)))]) rfl (fun H locs hP hD hS => ?_)
      refine lv_iinc (v := (nI (k + 1))) (lv' := [(4, .int (nI (k + 1))), (0, .ref q0), (1, .int 160), (2, .int 4), (3, .int 0)]) hx hb dX12_copyRow_25 hl (k := 0) rfl (nI_1 k) (by decide) rfl (fun ls hl => ?_)
      refine lv_goto (tgt := 3) hx hb dX12_copyRow_28 (by decide) ?_
      exact ih (k + 1) (by omega) H locs ls (lv_sub hl [0, 1, 2, 3, 4] rfl) (hP.sub [0] rfl) (hD.sub [0] (by decide) rfl) hS
  exact LP_1 160 0 (by omega) _ _ _ hl hP hD hS

set_option maxHeartbeats 4000000 in
set_option maxRecDepth 100000 in
theorem c_copyHall_4_0 (l : Launch) (G : va_G) (t : Nat → ClassId) (z : Nat) (zw : Nat) (zm : Nat) (zc : Nat) (zv : Nat) (zt : Nat) (zn : Nat) (zh : Nat) (zp : Nat) (ze : Nat) (zs : Nat) (zg : Nat) (zk : Nat) (za : Nat) (zd : Nat) (zf : Nat) (zo : Nat) (zE : Nat) (zq : Nat) (zC : Nat) : Ct l G t yX12_copyHall cX12_copyHall 4 none ({ frames := 1, cells := 0, slots := 0, locals := 24 }) [.ref z, .int 4, .int 0] [(z, .inr (12, [.int 0, .ref zw, .ref zm, .ref zc, .ref zv, .ref zt, .int 0, .int 0, .int 0, .int 0, .int 0, .long 0, .int 0, .int (-1), .int 0, .int (-1), .ref zn, .ref zh, .ref zp, .ref ze, .ref zs, .ref zg, .ref zk, .ref za, .ref zd, .ref zf, .ref zo, .ref zE, .ref zq, .int 0, .int 0, .int 0, .int 0, .int 0, .int 0, .ref zC])), (zn, .inl (t 1, 5, .inl (fun _ => 0))), (zh, .inl (t 1, 30, .inl (fun _ => 0))), (zp, .inl (t 1, 180, .inl (fun _ => 0))), (ze, .inl (t 1, 140, .inl (fun _ => 0))), (zg, .inl (t 1, 800, .inl (fun _ => 0))), (zs, .inl (t 3, 180, .inl (fun _ => 0)))] (QV G (fun (u : Unit) => True) (fun (u : Unit) => [(z, .inr (12, [.int 0, .ref zw, .ref zm, .ref zc, .ref zv, .ref zt, .int 0, .int 0, .int 0, .int 0, .int 0, .long 0, .int 0, .int (-1), .int 0, .int (-1), .ref zn, .ref zh, .ref zp, .ref ze, .ref zs, .ref zg, .ref zk, .ref za, .ref zd, .ref zf, .ref zo, .ref zE, .ref zq, .int 0, .int 0, .int 0, .int 0, .int 0, .int 0, .ref zC])), (zn, .inl (t 1, 5, .inl (fun _ => 0))), (zh, .inl (t 1, 30, .inl (fun _ => 0))), (zp, .inl (t 1, 180, .inl (fun _ => 0))), (ze, .inl (t 1, 140, .inl (fun _ => 0))), (zg, .inl (t 1, 800, .inl (fun _ => 0))), (zs, .inl (t 3, 180, .inl (fun _ => 0)))])) := by
  refine ent (by decide) (Nat.le_of_ble_eq_true rfl) ?_
  intro p e s m args below meth c hx hb hr hml hts hown hlocks hin A hA hK hO hP hD hS ls hl
  have hown : s.vm.findClass RX12 = some m.cls := hown
  have hl : lv_has ls 4 [(0, .ref z), (1, .int 4), (2, .int 0)] := hl
  have C0 : Cx p s m args c cX12_copyHall 4 RX12 G t := ⟨hx, hb, hml, hown, hts, hK, hO⟩
  refine lv_aload_n hx hb dX12_copyHall_0 rfl (lv_at hl 0 rfl) ?_
  refine gf hx hb hts hown hK hP 0 inT12 rfl rfl 16 (by decide) tw6_1 rfl dX12_copyHall_1 ?_
  refine lv_iconst (v := 1) hx hb dX12_copyHall_4 (by decide) ?_
  refine lv_iload_n hx hb dX12_copyHall_5 rfl (lv_at hl 1 rfl) ?_
  refine lv_iload_n hx hb dX12_copyHall_6 rfl (lv_at hl 2 rfl) ?_
  refine goV (rnS C0 (c_copyRow_1_4_0 l G t zn) lkX12_230 ⟨by decide, by decide⟩ (hP.sub (ws' := [(zn, .inl (t 1, 5, .inl (fun _ => 0)))]) [1] rfl) (hD.sub (ws' := [(zn, .inl (t 1, 5, .inl (fun _ => 0)))]) [1] (by decide) rfl) rfl hl.1 (rest := []) rfl (Nat.le_of_ble_eq_true rfl) dX12_copyHall_7 ⟨by decide, by decide⟩) hP hD hS hA [1] [0, 2, 3, 4, 5, 6] (wr := [(z, .inr (12, [.int 0, .ref zw, .ref zm, .ref zc, .ref zv, .ref zt, .int 0, .int 0, .int 0, .int 0, .int 0, .long 0, .int 0, .int (-1), .int 0, .int (-1), .ref zn, .ref zh, .ref zp, .ref ze, .ref zs, .ref zg, .ref zk, .ref za, .ref zd, .ref zf, .ref zo, .ref zE, .ref zq, .int 0, .int 0, .int 0, .int 0, .int 0, .int 0, .ref zC])), (zh, .inl (t 1, 30, .inl (fun _ => 0))), (zp, .inl (t 1, 180, .inl (fun _ => 0))), (ze, .inl (t 1, 140, .inl (fun _ => 0))), (zg, .inl (t 1, 800, .inl (fun _ => 0))), (zs, .inl (t 3, 180, .inl (fun _ => 0)))]) rfl rfl (by decide) (by decide) (fun u H locs h_2 hP hD hS => ?_)
  have hP : va_P G vwCl [(z, .inr (12, [.int 0, .ref zw, .ref zm, .ref zc, .ref zv, .ref zt, .int 0, .int 0, .int 0, .int 0, .int 0, .long 0, .int 0, .int (-1), .int 0, .int (-1), .ref zn, .ref zh, .ref zp, .ref ze, .ref zs, .ref zg, .ref zk, .ref za, .ref zd, .ref zf, .ref zo, .ref zE, .ref zq, .int 0, .int 0, .int 0, .int 0, .int 0, .int 0, .ref zC])), (zh, .inl (t 1, 30, .inl (fun _ => 0))), (zp, .inl (t 1, 180, .inl (fun _ => 0))), (ze, .inl (t 1, 140, .inl (fun _ => 0))), (zg, .inl (t 1, 800, .inl (fun _ => 0))), (zs, .inl (t 3, 180, .inl (fun _ => 0))), (zn, .inl (t 1, 5, .inl (fun _ => 0)))] H := hP
  have hD : va_D A [(z, .inr (12, [.int 0, .ref zw, .ref zm, .ref zc, .ref zv, .ref zt, .int 0, .int 0, .int 0, .int 0, .int 0, .long 0, .int 0, .int (-1), .int 0, .int (-1), .ref zn, .ref zh, .ref zp, .ref ze, .ref zs, .ref zg, .ref zk, .ref za, .ref zd, .ref zf, .ref zo, .ref zE, .ref zq, .int 0, .int 0, .int 0, .int 0, .int 0, .int 0, .ref zC])), (zh, .inl (t 1, 30, .inl (fun _ => 0))), (zp, .inl (t 1, 180, .inl (fun _ => 0))), (ze, .inl (t 1, 140, .inl (fun _ => 0))), (zg, .inl (t 1, 800, .inl (fun _ => 0))), (zs, .inl (t 3, 180, .inl (fun _ => 0))), (zn, .inl (t 1, 5, .inl (fun _ => 0)))] := hD
  refine W.widen (k := 0) (n := 0) (Nat.le_of_ble_eq_true rfl) (Nat.le_of_ble_eq_true rfl) ?_
  refine lv_aload_n hx hb dX12_copyHall_10 rfl (lv_at hl 0 rfl) ?_
  refine gf hx hb hts hown hK hP 0 inT12 rfl rfl 17 (by decide) tw6_2 rfl dX12_copyHall_11 ?_
  refine lv_bipush (v := 6) hx hb dX12_copyHall_14 (by decide) ?_
  refine lv_iload_n hx hb dX12_copyHall_16 rfl (lv_at hl 1 rfl) ?_
  refine lv_iload_n hx hb dX12_copyHall_17 rfl (lv_at hl 2 rfl) ?_
  refine goV (rnS C0 (c_copyRow_6_4_0 l G t zh) lkX12_230 ⟨by decide, by decide⟩ (hP.sub (ws' := [(zh, .inl (t 1, 30, .inl (fun _ => 0)))]) [1] rfl) (hD.sub (ws' := [(zh, .inl (t 1, 30, .inl (fun _ => 0)))]) [1] (by decide) rfl) rfl hl.1 (rest := []) rfl (Nat.le_of_ble_eq_true rfl) dX12_copyHall_18 ⟨by decide, by decide⟩) hP hD hS hA [1] [0, 2, 3, 4, 5, 6] (wr := [(z, .inr (12, [.int 0, .ref zw, .ref zm, .ref zc, .ref zv, .ref zt, .int 0, .int 0, .int 0, .int 0, .int 0, .long 0, .int 0, .int (-1), .int 0, .int (-1), .ref zn, .ref zh, .ref zp, .ref ze, .ref zs, .ref zg, .ref zk, .ref za, .ref zd, .ref zf, .ref zo, .ref zE, .ref zq, .int 0, .int 0, .int 0, .int 0, .int 0, .int 0, .ref zC])), (zp, .inl (t 1, 180, .inl (fun _ => 0))), (ze, .inl (t 1, 140, .inl (fun _ => 0))), (zg, .inl (t 1, 800, .inl (fun _ => 0))), (zs, .inl (t 3, 180, .inl (fun _ => 0))), (zn, .inl (t 1, 5, .inl (fun _ => 0)))]) rfl rfl (by decide) (by decide) (fun u H locs h_4 hP hD hS => ?_)
  have hP : va_P G vwCl [(z, .inr (12, [.int 0, .ref zw, .ref zm, .ref zc, .ref zv, .ref zt, .int 0, .int 0, .int 0, .int 0, .int 0, .long 0, .int 0, .int (-1), .int 0, .int (-1), .ref zn, .ref zh, .ref zp, .ref ze, .ref zs, .ref zg, .ref zk, .ref za, .ref zd, .ref zf, .ref zo, .ref zE, .ref zq, .int 0, .int 0, .int 0, .int 0, .int 0, .int 0, .ref zC])), (zp, .inl (t 1, 180, .inl (fun _ => 0))), (ze, .inl (t 1, 140, .inl (fun _ => 0))), (zg, .inl (t 1, 800, .inl (fun _ => 0))), (zs, .inl (t 3, 180, .inl (fun _ => 0))), (zn, .inl (t 1, 5, .inl (fun _ => 0))), (zh, .inl (t 1, 30, .inl (fun _ => 0)))] H := hP
  have hD : va_D A [(z, .inr (12, [.int 0, .ref zw, .ref zm, .ref zc, .ref zv, .ref zt, .int 0, .int 0, .int 0, .int 0, .int 0, .long 0, .int 0, .int (-1), .int 0, .int (-1), .ref zn, .ref zh, .ref zp, .ref ze, .ref zs, .ref zg, .ref zk, .ref za, .ref zd, .ref zf, .ref zo, .ref zE, .ref zq, .int 0, .int 0, .int 0, .int 0, .int 0, .int 0, .ref zC])), (zp, .inl (t 1, 180, .inl (fun _ => 0))), (ze, .inl (t 1, 140, .inl (fun _ => 0))), (zg, .inl (t 1, 800, .inl (fun _ => 0))), (zs, .inl (t 3, 180, .inl (fun _ => 0))), (zn, .inl (t 1, 5, .inl (fun _ => 0))), (zh, .inl (t 1, 30, .inl (fun _ => 0)))] := hD
  refine W.widen (k := 0) (n := 0) (Nat.le_of_ble_eq_true rfl) (Nat.le_of_ble_eq_true rfl) ?_
  refine lv_aload_n hx hb dX12_copyHall_21 rfl (lv_at hl 0 rfl) ?_
  refine gf hx hb hts hown hK hP 0 inT12 rfl rfl 18 (by decide) tw6_3 rfl dX12_copyHall_22 ?_
  refine lv_bipush (v := 36) hx hb dX12_copyHall_25 (by decide) ?_
  refine lv_iload_n hx hb dX12_copyHall_27 rfl (lv_at hl 1 rfl) ?_
  refine lv_iload_n hx hb dX12_copyHall_28 rfl (lv_at hl 2 rfl) ?_
  refine goV (rnS C0 (c_copyRow_36_4_0 l G t zp) lkX12_230 ⟨by decide, by decide⟩ (hP.sub (ws' := [(zp, .inl (t 1, 180, .inl (fun _ => 0)))]) [1] rfl) (hD.sub (ws' := [(zp, .inl (t 1, 180, .inl (fun _ => 0)))]) [1] (by decide) rfl) rfl hl.1 (rest := []) rfl (Nat.le_of_ble_eq_true rfl) dX12_copyHall_29 ⟨by decide, by decide⟩) hP hD hS hA [1] [0, 2, 3, 4, 5, 6] (wr := [(z, .inr (12, [.int 0, .ref zw, .ref zm, .ref zc, .ref zv, .ref zt, .int 0, .int 0, .int 0, .int 0, .int 0, .long 0, .int 0, .int (-1), .int 0, .int (-1), .ref zn, .ref zh, .ref zp, .ref ze, .ref zs, .ref zg, .ref zk, .ref za, .ref zd, .ref zf, .ref zo, .ref zE, .ref zq, .int 0, .int 0, .int 0, .int 0, .int 0, .int 0, .ref zC])), (ze, .inl (t 1, 140, .inl (fun _ => 0))), (zg, .inl (t 1, 800, .inl (fun _ => 0))), (zs, .inl (t 3, 180, .inl (fun _ => 0))), (zn, .inl (t 1, 5, .inl (fun _ => 0))), (zh, .inl (t 1, 30, .inl (fun _ => 0)))]) rfl rfl (by decide) (by decide) (fun u H locs h_6 hP hD hS => ?_)
  have hP : va_P G vwCl [(z, .inr (12, [.int 0, .ref zw, .ref zm, .ref zc, .ref zv, .ref zt, .int 0, .int 0, .int 0, .int 0, .int 0, .long 0, .int 0, .int (-1), .int 0, .int (-1), .ref zn, .ref zh, .ref zp, .ref ze, .ref zs, .ref zg, .ref zk, .ref za, .ref zd, .ref zf, .ref zo, .ref zE, .ref zq, .int 0, .int 0, .int 0, .int 0, .int 0, .int 0, .ref zC])), (ze, .inl (t 1, 140, .inl (fun _ => 0))), (zg, .inl (t 1, 800, .inl (fun _ => 0))), (zs, .inl (t 3, 180, .inl (fun _ => 0))), (zn, .inl (t 1, 5, .inl (fun _ => 0))), (zh, .inl (t 1, 30, .inl (fun _ => 0))), (zp, .inl (t 1, 180, .inl (fun _ => 0)))] H := hP
  have hD : va_D A [(z, .inr (12, [.int 0, .ref zw, .ref zm, .ref zc, .ref zv, .ref zt, .int 0, .int 0, .int 0, .int 0, .int 0, .long 0, .int 0, .int (-1), .int 0, .int (-1), .ref zn, .ref zh, .ref zp, .ref ze, .ref zs, .ref zg, .ref zk, .ref za, .ref zd, .ref zf, .ref zo, .ref zE, .ref zq, .int 0, .int 0, .int 0, .int 0, .int 0, .int 0, .ref zC])), (ze, .inl (t 1, 140, .inl (fun _ => 0))), (zg, .inl (t 1, 800, .inl (fun _ => 0))), (zs, .inl (t 3, 180, .inl (fun _ => 0))), (zn, .inl (t 1, 5, .inl (fun _ => 0))), (zh, .inl (t 1, 30, .inl (fun _ => 0))), (zp, .inl (t 1, 180, .inl (fun _ => 0)))] := hD
  refine W.widen (k := 0) (n := 0) (Nat.le_of_ble_eq_true rfl) (Nat.le_of_ble_eq_true rfl) ?_
  refine lv_aload_n hx hb dX12_copyHall_32 rfl (lv_at hl 0 rfl) ?_
  refine gf hx hb hts hown hK hP 0 inT12 rfl rfl 19 (by decide) tw6_4 rfl dX12_copyHall_33 ?_
  refine lv_bipush (v := 28) hx hb dX12_copyHall_36 (by decide) ?_
  refine lv_iload_n hx hb dX12_copyHall_38 rfl (lv_at hl 1 rfl) ?_
  refine lv_iload_n hx hb dX12_copyHall_39 rfl (lv_at hl 2 rfl) ?_
  refine goV (rnS C0 (c_copyRow_28_4_0 l G t ze) lkX12_230 ⟨by decide, by decide⟩ (hP.sub (ws' := [(ze, .inl (t 1, 140, .inl (fun _ => 0)))]) [1] rfl) (hD.sub (ws' := [(ze, .inl (t 1, 140, .inl (fun _ => 0)))]) [1] (by decide) rfl) rfl hl.1 (rest := []) rfl (Nat.le_of_ble_eq_true rfl) dX12_copyHall_40 ⟨by decide, by decide⟩) hP hD hS hA [1] [0, 2, 3, 4, 5, 6] (wr := [(z, .inr (12, [.int 0, .ref zw, .ref zm, .ref zc, .ref zv, .ref zt, .int 0, .int 0, .int 0, .int 0, .int 0, .long 0, .int 0, .int (-1), .int 0, .int (-1), .ref zn, .ref zh, .ref zp, .ref ze, .ref zs, .ref zg, .ref zk, .ref za, .ref zd, .ref zf, .ref zo, .ref zE, .ref zq, .int 0, .int 0, .int 0, .int 0, .int 0, .int 0, .ref zC])), (zg, .inl (t 1, 800, .inl (fun _ => 0))), (zs, .inl (t 3, 180, .inl (fun _ => 0))), (zn, .inl (t 1, 5, .inl (fun _ => 0))), (zh, .inl (t 1, 30, .inl (fun _ => 0))), (zp, .inl (t 1, 180, .inl (fun _ => 0)))]) rfl rfl (by decide) (by decide) (fun u H locs h_8 hP hD hS => ?_)
  have hP : va_P G vwCl [(z, .inr (12, [.int 0, .ref zw, .ref zm, .ref zc, .ref zv, .ref zt, .int 0, .int 0, .int 0, .int 0, .int 0, .long 0, .int 0, .int (-1), .int 0, .int (-1), .ref zn, .ref zh, .ref zp, .ref ze, .ref zs, .ref zg, .ref zk, .ref za, .ref zd, .ref zf, .ref zo, .ref zE, .ref zq, .int 0, .int 0, .int 0, .int 0, .int 0, .int 0, .ref zC])), (zg, .inl (t 1, 800, .inl (fun _ => 0))), (zs, .inl (t 3, 180, .inl (fun _ => 0))), (zn, .inl (t 1, 5, .inl (fun _ => 0))), (zh, .inl (t 1, 30, .inl (fun _ => 0))), (zp, .inl (t 1, 180, .inl (fun _ => 0))), (ze, .inl (t 1, 140, .inl (fun _ => 0)))] H := hP
  have hD : va_D A [(z, .inr (12, [.int 0, .ref zw, .ref zm, .ref zc, .ref zv, .ref zt, .int 0, .int 0, .int 0, .int 0, .int 0, .long 0, .int 0, .int (-1), .int 0, .int (-1), .ref zn, .ref zh, .ref zp, .ref ze, .ref zs, .ref zg, .ref zk, .ref za, .ref zd, .ref zf, .ref zo, .ref zE, .ref zq, .int 0, .int 0, .int 0, .int 0, .int 0, .int 0, .ref zC])), (zg, .inl (t 1, 800, .inl (fun _ => 0))), (zs, .inl (t 3, 180, .inl (fun _ => 0))), (zn, .inl (t 1, 5, .inl (fun _ => 0))), (zh, .inl (t 1, 30, .inl (fun _ => 0))), (zp, .inl (t 1, 180, .inl (fun _ => 0))), (ze, .inl (t 1, 140, .inl (fun _ => 0)))] := hD
  refine W.widen (k := 0) (n := 0) (Nat.le_of_ble_eq_true rfl) (Nat.le_of_ble_eq_true rfl) ?_
  refine lv_aload_n hx hb dX12_copyHall_43 rfl (lv_at hl 0 rfl) ?_
  refine gf hx hb hts hown hK hP 0 inT12 rfl rfl 21 (by decide) tw6_6 rfl dX12_copyHall_44 ?_
  refine lv_sipush (v := 160) hx hb dX12_copyHall_47 (by decide) ?_
  refine lv_iload_n hx hb dX12_copyHall_50 rfl (lv_at hl 1 rfl) ?_
  refine lv_iload_n hx hb dX12_copyHall_51 rfl (lv_at hl 2 rfl) ?_
  refine goV (rnS C0 (c_copyRow_160_4_0 l G t zg) lkX12_230 ⟨by decide, by decide⟩ (hP.sub (ws' := [(zg, .inl (t 1, 800, .inl (fun _ => 0)))]) [1] rfl) (hD.sub (ws' := [(zg, .inl (t 1, 800, .inl (fun _ => 0)))]) [1] (by decide) rfl) rfl hl.1 (rest := []) rfl (Nat.le_of_ble_eq_true rfl) dX12_copyHall_52 ⟨by decide, by decide⟩) hP hD hS hA [1] [0, 2, 3, 4, 5, 6] (wr := [(z, .inr (12, [.int 0, .ref zw, .ref zm, .ref zc, .ref zv, .ref zt, .int 0, .int 0, .int 0, .int 0, .int 0, .long 0, .int 0, .int (-1), .int 0, .int (-1), .ref zn, .ref zh, .ref zp, .ref ze, .ref zs, .ref zg, .ref zk, .ref za, .ref zd, .ref zf, .ref zo, .ref zE, .ref zq, .int 0, .int 0, .int 0, .int 0, .int 0, .int 0, .ref zC])), (zs, .inl (t 3, 180, .inl (fun _ => 0))), (zn, .inl (t 1, 5, .inl (fun _ => 0))), (zh, .inl (t 1, 30, .inl (fun _ => 0))), (zp, .inl (t 1, 180, .inl (fun _ => 0))), (ze, .inl (t 1, 140, .inl (fun _ => 0)))]) rfl rfl (by decide) (by decide) (fun u H locs h_10 hP hD hS => ?_)
  have hP : va_P G vwCl [(z, .inr (12, [.int 0, .ref zw, .ref zm, .ref zc, .ref zv, .ref zt, .int 0, .int 0, .int 0, .int 0, .int 0, .long 0, .int 0, .int (-1), .int 0, .int (-1), .ref zn, .ref zh, .ref zp, .ref ze, .ref zs, .ref zg, .ref zk, .ref za, .ref zd, .ref zf, .ref zo, .ref zE, .ref zq, .int 0, .int 0, .int 0, .int 0, .int 0, .int 0, .ref zC])), (zs, .inl (t 3, 180, .inl (fun _ => 0))), (zn, .inl (t 1, 5, .inl (fun _ => 0))), (zh, .inl (t 1, 30, .inl (fun _ => 0))), (zp, .inl (t 1, 180, .inl (fun _ => 0))), (ze, .inl (t 1, 140, .inl (fun _ => 0))), (zg, .inl (t 1, 800, .inl (fun _ => 0)))] H := hP
  have hD : va_D A [(z, .inr (12, [.int 0, .ref zw, .ref zm, .ref zc, .ref zv, .ref zt, .int 0, .int 0, .int 0, .int 0, .int 0, .long 0, .int 0, .int (-1), .int 0, .int (-1), .ref zn, .ref zh, .ref zp, .ref ze, .ref zs, .ref zg, .ref zk, .ref za, .ref zd, .ref zf, .ref zo, .ref zE, .ref zq, .int 0, .int 0, .int 0, .int 0, .int 0, .int 0, .ref zC])), (zs, .inl (t 3, 180, .inl (fun _ => 0))), (zn, .inl (t 1, 5, .inl (fun _ => 0))), (zh, .inl (t 1, 30, .inl (fun _ => 0))), (zp, .inl (t 1, 180, .inl (fun _ => 0))), (ze, .inl (t 1, 140, .inl (fun _ => 0))), (zg, .inl (t 1, 800, .inl (fun _ => 0)))] := hD
  refine W.widen (k := 0) (n := 0) (Nat.le_of_ble_eq_true rfl) (Nat.le_of_ble_eq_true rfl) ?_
  refine lv_iconst (v := 0) hx hb dX12_copyHall_55 (by decide) ?_
  refine lv_istore_n (lv' := [(3, .int 0), (0, .ref z), (1, .int 4), (2, .int 0)]) hx hb dX12_copyHall_56 rfl hl (by decide) rfl (fun ls hl => ?_)
  have LP_11 : ∀ (n k : Nat), k + n = 36 → ∀ (H : Heap) (locs : List Loc) (ls : Array Slot), lv_has ls 4 [(3, .int (nI k)), (0, .ref z), (1, .int 4), (2, .int 0)] → va_P G vwCl [(z, .inr (12, [.int 0, .ref zw, .ref zm, .ref zc, .ref zv, .ref zt, .int 0, .int 0, .int 0, .int 0, .int 0, .long 0, .int 0, .int (-1), .int 0, .int (-1), .ref zn, .ref zh, .ref zp, .ref ze, .ref zs, .ref zg, .ref zk, .ref za, .ref zd, .ref zf, .ref zo, .ref zE, .ref zq, .int 0, .int 0, .int 0, .int 0, .int 0, .int 0, .ref zC])), (zs, .inl (t 3, 180, .inl (fun _ => 0))), (zn, .inl (t 1, 5, .inl (fun _ => 0))), (zh, .inl (t 1, 30, .inl (fun _ => 0))), (zp, .inl (t 1, 180, .inl (fun _ => 0))), (ze, .inl (t 1, 140, .inl (fun _ => 0))), (zg, .inl (t 1, 800, .inl (fun _ => 0)))] H → va_D A [(z, .inr (12, [.int 0, .ref zw, .ref zm, .ref zc, .ref zv, .ref zt, .int 0, .int 0, .int 0, .int 0, .int 0, .long 0, .int 0, .int (-1), .int 0, .int (-1), .ref zn, .ref zh, .ref zp, .ref ze, .ref zs, .ref zg, .ref zk, .ref za, .ref zd, .ref zf, .ref zo, .ref zE, .ref zq, .int 0, .int 0, .int 0, .int 0, .int 0, .int 0, .ref zC])), (zs, .inl (t 3, 180, .inl (fun _ => 0))), (zn, .inl (t 1, 5, .inl (fun _ => 0))), (zh, .inl (t 1, 30, .inl (fun _ => 0))), (zp, .inl (t 1, 180, .inl (fun _ => 0))), (ze, .inl (t 1, 140, .inl (fun _ => 0))), (zg, .inl (t 1, 800, .inl (fun _ => 0)))] → va_S A s.heap H locs → W p l e ({ frames := 1, cells := 0, slots := 0, locals := 24 }) s m args below meth c H locs 0 0 (MQ below ((QV G (fun (u : Unit) => True) (fun (u : Unit) => [(z, .inr (12, [.int 0, .ref zw, .ref zm, .ref zc, .ref zv, .ref zt, .int 0, .int 0, .int 0, .int 0, .int 0, .long 0, .int 0, .int (-1), .int 0, .int (-1), .ref zn, .ref zh, .ref zp, .ref ze, .ref zs, .ref zg, .ref zk, .ref za, .ref zd, .ref zf, .ref zo, .ref zE, .ref zq, .int 0, .int 0, .int 0, .int 0, .int 0, .int 0, .ref zC])), (zn, .inl (t 1, 5, .inl (fun _ => 0))), (zh, .inl (t 1, 30, .inl (fun _ => 0))), (zp, .inl (t 1, 180, .inl (fun _ => 0))), (ze, .inl (t 1, 140, .inl (fun _ => 0))), (zg, .inl (t 1, 800, .inl (fun _ => 0))), (zs, .inl (t 3, 180, .inl (fun _ => 0)))])) A) args s 0 0 A) (F0 m 57 ls []) := by
    intro n
    induction n with
    | zero =>
      intro k hk H locs ls hl hP hD hS
      obtain rfl : k = 36 := by omega
      refine lv_iload_n hx hb dX12_copyHall_57 rfl (lv_at hl 0 rfl) ?_
      refine lv_bipush (v := 36) hx hb dX12_copyHall_58 (by decide) ?_
      refine lv_icmp_ge (tgt := 91) hx hb dX12_copyHall_60 (by decide) (fun _ => ?_) (fun c_12 => absurd (by decide) c_12)
      refine W.widen (k := 0) (n := 0) (by decide) (by decide) ?_
      exact rtV hx hb hr hlocks hS () (trivial) (hP.sub [0, 2, 3, 4, 5, 6, 1] rfl) (hD.sub [0, 2, 3, 4, 5, 6, 1] (by decide) rfl) dX12_copyHall_91
    | succ n ih =>
      intro k hk H locs ls hl hP hD hS
      refine lv_iload_n hx hb dX12_copyHall_57 rfl (lv_at hl 0 rfl) ?_
      refine lv_bipush (v := 36) hx hb dX12_copyHall_58 (by decide) ?_
      refine lv_icmp_ge (tgt := 91) hx hb dX12_copyHall_60 (by decide) (fun c_13 => absurd c_13 (show ¬ nI 36 ≤ nI k from nI_ge (by omega) (by decide))) (fun _ => ?_)
      refine lv_aload_n hx hb dX12_copyHall_63 rfl (lv_at hl 1 rfl) ?_
      refine gf hx hb hts hown hK hP 0 inT12 rfl rfl 20 (by decide) tw6_5 rfl dX12_copyHall_64 ?_
      refine lv_bipush (v := 36) hx hb dX12_copyHall_67 (by decide) ?_
      refine lv_iload_n hx hb dX12_copyHall_69 rfl (lv_at hl 3 rfl) ?_
      refine lv_imul hx hb dX12_copyHall_70 (tpi (v := 0) (by decide) ?_)
      refine lv_iload_n hx hb dX12_copyHall_71 rfl (lv_at hl 0 rfl) ?_
      refine lv_iadd hx hb dX12_copyHall_72 (tpi (v := (nI (0 + k))) (show nI 0 + nI k = nI (0 + k) from nI_add 0 k) ?_)
      refine lv_aload_n hx hb dX12_copyHall_73 rfl (lv_at hl 1 rfl) ?_
      refine gf hx hb hts hown hK hP 0 inT12 rfl rfl 20 (by decide) tw6_5 rfl dX12_copyHall_74 ?_
      refine lv_bipush (v := 36) hx hb dX12_copyHall_77 (by decide) ?_
      refine lv_iload_n hx hb dX12_copyHall_79 rfl (lv_at hl 2 rfl) ?_
      refine lv_imul hx hb dX12_copyHall_80 (tpi (v := 144) (by decide) ?_)
      refine lv_iload_n hx hb dX12_copyHall_81 rfl (lv_at hl 0 rfl) ?_
      refine lv_iadd hx hb dX12_copyHall_82 (tpi (v := (nI (144 + k))) (show nI 144 + nI k = nI (144 + k) from nI_add 144 k) ?_)
      refine ldZ hx hb hK hP 1 rfl (vp_in_nI (by omega) (by decide)) dX12_copyHall_83 (v := 0) (rfl) ?_
      refine stZ hx hb hK hP hD hS 1 rfl (vp_in_nI (by omega) (by decide)) dX12_copyHall_84 (f' := (fun _ => 0)) (upd_z _) (ws' := [(z, .inr (12, [.int 0, .ref zw, .ref zm, .ref zc, .ref zv, .ref zt, .int 0, .int 0, .int 0, .int 0, .int 0, .long 0, .int 0, .int (-1), .int 0, .int (-1), .ref zn, .ref zh, .ref zp, .ref ze, .ref zs, .ref zg, .ref zk, .ref za, .ref zd, .ref zf, .ref zo, .ref zE, .ref zq, .int 0, .int 0, .int 0, .int 0, .int 0, .int 0, .ref zC])), (zs, .inl (t 3, 180, .inl (fun _ => 0))), (zn, .inl (t 1, 5, .inl (fun _ => 0))), (zh, .inl (t 1, 30, .inl (fun _ => 0))), (zp, .inl (t 1, 180, .inl (fun _ => 0))), (ze, .inl (t 1, 140, .inl (fun _ => 0))), (zg, .inl (t 1, 800, .inl (fun _ => 0)))]) rfl (fun H locs hP hD hS => ?_)
      refine lv_iinc (v := (nI (k + 1))) (lv' := [(3, .int (nI (k + 1))), (0, .ref z), (1, .int 4), (2, .int 0)]) hx hb dX12_copyHall_85 hl (k := 0) rfl (nI_1 k) (by decide) rfl (fun ls hl => ?_)
      refine lv_goto (tgt := 57) hx hb dX12_copyHall_88 (by decide) ?_
      exact ih (k + 1) (by omega) H locs ls (lv_sub hl [0, 1, 2, 3] rfl) (hP.sub [0, 1, 2, 3, 4, 5, 6] rfl) (hD.sub [0, 1, 2, 3, 4, 5, 6] (by decide) rfl) hS
  exact LP_11 36 0 (by omega) _ _ _ hl hP hD hS

set_option maxHeartbeats 4000000 in
set_option maxRecDepth 100000 in
theorem c_copyRow_1_0_1 (l : Launch) (G : va_G) (t : Nat → ClassId) (q0 : Nat) : Ct l G t yX12_copyRow cX12_copyRow 5 none ({ frames := 0, cells := 0, slots := 0, locals := 0 }) [.ref q0, .int 1, .int 0, .int 1] [(q0, .inl (t 1, 5, .inl (fun _ => 0)))] (QV G (fun (u : Unit) => True) (fun (u : Unit) => [(q0, .inl (t 1, 5, .inl (fun _ => 0)))])) := by
  refine ent (by decide) (Nat.le_of_ble_eq_true rfl) ?_
  intro p e s m args below meth c hx hb hr hml hts hown hlocks hin A hA hK hO hP hD hS ls hl
  have hown : s.vm.findClass RX12 = some m.cls := hown
  have hl : lv_has ls 5 [(0, .ref q0), (1, .int 1), (2, .int 0), (3, .int 1)] := hl
  have C0 : Cx p s m args c cX12_copyRow 5 RX12 G t := ⟨hx, hb, hml, hown, hts, hK, hO⟩
  refine lv_iconst (v := 0) hx hb dX12_copyRow_0 (by decide) ?_
  refine lv_istore (lv' := [(4, .int 0), (0, .ref q0), (1, .int 1), (2, .int 0), (3, .int 1)]) hx hb dX12_copyRow_1 hl (by decide) rfl (fun ls hl => ?_)
  have LP_1 : ∀ (n k : Nat), k + n = 1 → ∀ (H : Heap) (locs : List Loc) (ls : Array Slot), lv_has ls 5 [(4, .int (nI k)), (0, .ref q0), (1, .int 1), (2, .int 0), (3, .int 1)] → va_P G vwCl [(q0, .inl (t 1, 5, .inl (fun _ => 0)))] H → va_D A [(q0, .inl (t 1, 5, .inl (fun _ => 0)))] → va_S A s.heap H locs → W p l e ({ frames := 0, cells := 0, slots := 0, locals := 0 }) s m args below meth c H locs 0 0 (MQ below ((QV G (fun (u : Unit) => True) (fun (u : Unit) => [(q0, .inl (t 1, 5, .inl (fun _ => 0)))])) A) args s 0 0 A) (F0 m 3 ls []) := by
    intro n
    induction n with
    | zero =>
      intro k hk H locs ls hl hP hD hS
      obtain rfl : k = 1 := by omega
      refine lv_iload hx hb dX12_copyRow_3 (lv_at hl 0 rfl) ?_
      refine lv_iload_n hx hb dX12_copyRow_5 rfl (lv_at hl 2 rfl) ?_
      refine lv_icmp_ge (tgt := 31) hx hb dX12_copyRow_6 (by decide) (fun _ => ?_) (fun c_2 => absurd (by decide) c_2)
      refine W.widen (k := 0) (n := 0) (by decide) (by decide) ?_
      exact rtV hx hb hr hlocks hS () (trivial) (hP.sub [0] rfl) (hD.sub [0] (by decide) rfl) dX12_copyRow_31
    | succ n ih =>
      intro k hk H locs ls hl hP hD hS
      refine lv_iload hx hb dX12_copyRow_3 (lv_at hl 0 rfl) ?_
      refine lv_iload_n hx hb dX12_copyRow_5 rfl (lv_at hl 2 rfl) ?_
      refine lv_icmp_ge (tgt := 31) hx hb dX12_copyRow_6 (by decide) (fun c_3 => absurd c_3 (show ¬ nI 1 ≤ nI k from nI_ge (by omega) (by decide))) (fun _ => ?_)
      refine lv_aload_n hx hb dX12_copyRow_9 rfl (lv_at hl 1 rfl) ?_
      refine lv_iload_n hx hb dX12_copyRow_10 rfl (lv_at hl 2 rfl) ?_
      refine lv_iload_n hx hb dX12_copyRow_11 rfl (lv_at hl 4 rfl) ?_
      refine lv_imul hx hb dX12_copyRow_12 (tpi (v := 1) (by decide) ?_)
      refine lv_iload hx hb dX12_copyRow_13 (lv_at hl 0 rfl) ?_
      refine lv_iadd hx hb dX12_copyRow_15 (tpi (v := (nI (1 + k))) (show nI 1 + nI k = nI (1 + k) from nI_add 1 k) ?_)
      refine lv_aload_n hx hb dX12_copyRow_16 rfl (lv_at hl 1 rfl) ?_
      refine lv_iload_n hx hb dX12_copyRow_17 rfl (lv_at hl 2 rfl) ?_
      refine lv_iload_n hx hb dX12_copyRow_18 rfl (lv_at hl 3 rfl) ?_
      refine lv_imul hx hb dX12_copyRow_19 (tpi (v := 0) (by decide) ?_)
      refine lv_iload hx hb dX12_copyRow_20 (lv_at hl 0 rfl) ?_
      refine lv_iadd hx hb dX12_copyRow_22 (tpi (v := (nI (0 + k))) (show nI 0 + nI k = nI (0 + k) from nI_add 0 k) ?_)
      refine ldI hx hb hK hP 0 rfl (vp_in_nI (by omega) (by decide)) dX12_copyRow_23 (v := 0) (rfl) ?_
      refine stI hx hb hK hP hD hS 0 rfl (vp_in_nI (by omega) (by decide)) dX12_copyRow_24 (f' := (fun _ => 0)) (upd_z _) (ws' := [(q0, .inl (t 1, 5, .inl (fun _ => 0)))]) rfl (fun H locs hP hD hS => ?_)
      refine lv_iinc (v := (nI (k + 1))) (lv' := [(4, .int (nI (k + 1))), (0, .ref q0), (1, .int 1), (2, .int 0), (3, .int 1)]) hx hb dX12_copyRow_25 hl (k := 0) rfl (nI_1 k) (by decide) rfl (fun ls hl => ?_)
      refine lv_goto (tgt := 3) hx hb dX12_copyRow_28 (by decide) ?_
      exact ih (k + 1) (by omega) H locs ls (lv_sub hl [0, 1, 2, 3, 4] rfl) (hP.sub [0] rfl) (hD.sub [0] (by decide) rfl) hS
  exact LP_1 1 0 (by omega) _ _ _ hl hP hD hS

set_option maxHeartbeats 4000000 in
set_option maxRecDepth 100000 in
theorem c_copyRow_6_0_1 (l : Launch) (G : va_G) (t : Nat → ClassId) (q0 : Nat) : Ct l G t yX12_copyRow cX12_copyRow 5 none ({ frames := 0, cells := 0, slots := 0, locals := 0 }) [.ref q0, .int 6, .int 0, .int 1] [(q0, .inl (t 1, 30, .inl (fun _ => 0)))] (QV G (fun (u : Unit) => True) (fun (u : Unit) => [(q0, .inl (t 1, 30, .inl (fun _ => 0)))])) := by
  refine ent (by decide) (Nat.le_of_ble_eq_true rfl) ?_
  intro p e s m args below meth c hx hb hr hml hts hown hlocks hin A hA hK hO hP hD hS ls hl
  have hown : s.vm.findClass RX12 = some m.cls := hown
  have hl : lv_has ls 5 [(0, .ref q0), (1, .int 6), (2, .int 0), (3, .int 1)] := hl
  have C0 : Cx p s m args c cX12_copyRow 5 RX12 G t := ⟨hx, hb, hml, hown, hts, hK, hO⟩
  refine lv_iconst (v := 0) hx hb dX12_copyRow_0 (by decide) ?_
  refine lv_istore (lv' := [(4, .int 0), (0, .ref q0), (1, .int 6), (2, .int 0), (3, .int 1)]) hx hb dX12_copyRow_1 hl (by decide) rfl (fun ls hl => ?_)
  have LP_1 : ∀ (n k : Nat), k + n = 6 → ∀ (H : Heap) (locs : List Loc) (ls : Array Slot), lv_has ls 5 [(4, .int (nI k)), (0, .ref q0), (1, .int 6), (2, .int 0), (3, .int 1)] → va_P G vwCl [(q0, .inl (t 1, 30, .inl (fun _ => 0)))] H → va_D A [(q0, .inl (t 1, 30, .inl (fun _ => 0)))] → va_S A s.heap H locs → W p l e ({ frames := 0, cells := 0, slots := 0, locals := 0 }) s m args below meth c H locs 0 0 (MQ below ((QV G (fun (u : Unit) => True) (fun (u : Unit) => [(q0, .inl (t 1, 30, .inl (fun _ => 0)))])) A) args s 0 0 A) (F0 m 3 ls []) := by
    intro n
    induction n with
    | zero =>
      intro k hk H locs ls hl hP hD hS
      obtain rfl : k = 6 := by omega
      refine lv_iload hx hb dX12_copyRow_3 (lv_at hl 0 rfl) ?_
      refine lv_iload_n hx hb dX12_copyRow_5 rfl (lv_at hl 2 rfl) ?_
      refine lv_icmp_ge (tgt := 31) hx hb dX12_copyRow_6 (by decide) (fun _ => ?_) (fun c_2 => absurd (by decide) c_2)
      refine W.widen (k := 0) (n := 0) (by decide) (by decide) ?_
      exact rtV hx hb hr hlocks hS () (trivial) (hP.sub [0] rfl) (hD.sub [0] (by decide) rfl) dX12_copyRow_31
    | succ n ih =>
      intro k hk H locs ls hl hP hD hS
      refine lv_iload hx hb dX12_copyRow_3 (lv_at hl 0 rfl) ?_
      refine lv_iload_n hx hb dX12_copyRow_5 rfl (lv_at hl 2 rfl) ?_
      refine lv_icmp_ge (tgt := 31) hx hb dX12_copyRow_6 (by decide) (fun c_3 => absurd c_3 (show ¬ nI 6 ≤ nI k from nI_ge (by omega) (by decide))) (fun _ => ?_)
      refine lv_aload_n hx hb dX12_copyRow_9 rfl (lv_at hl 1 rfl) ?_
      refine lv_iload_n hx hb dX12_copyRow_10 rfl (lv_at hl 2 rfl) ?_
      refine lv_iload_n hx hb dX12_copyRow_11 rfl (lv_at hl 4 rfl) ?_
      refine lv_imul hx hb dX12_copyRow_12 (tpi (v := 6) (by decide) ?_)
      refine lv_iload hx hb dX12_copyRow_13 (lv_at hl 0 rfl) ?_
      refine lv_iadd hx hb dX12_copyRow_15 (tpi (v := (nI (6 + k))) (show nI 6 + nI k = nI (6 + k) from nI_add 6 k) ?_)
      refine lv_aload_n hx hb dX12_copyRow_16 rfl (lv_at hl 1 rfl) ?_
      refine lv_iload_n hx hb dX12_copyRow_17 rfl (lv_at hl 2 rfl) ?_
      refine lv_iload_n hx hb dX12_copyRow_18 rfl (lv_at hl 3 rfl) ?_
      refine lv_imul hx hb dX12_copyRow_19 (tpi (v := 0) (by decide) ?_)
      refine lv_iload hx hb dX12_copyRow_20 (lv_at hl 0 rfl) ?_
      refine lv_iadd hx hb dX12_copyRow_22 (tpi (v := (nI (0 + k))) (show nI 0 + nI k = nI (0 + k) from nI_add 0 k) ?_)
      refine ldI hx hb hK hP 0 rfl (vp_in_nI (by omega) (by decide)) dX12_copyRow_23 (v := 0) (rfl) ?_
      refine stI hx hb hK hP hD hS 0 rfl (vp_in_nI (by omega) (by decide)) dX12_copyRow_24 (f' := (fun _ => 0)) (upd_z _) (ws' := [(q0, .inl (t 1, 30, .inl (fun _ => 0)))]) rfl (fun H locs hP hD hS => ?_)
      refine lv_iinc (v := (nI (k + 1))) (lv' := [(4, .int (nI (k + 1))), (0, .ref q0), (1, .int 6), (2, .int 0), (3, .int 1)]) hx hb dX12_copyRow_25 hl (k := 0) rfl (nI_1 k) (by decide) rfl (fun ls hl => ?_)
      refine lv_goto (tgt := 3) hx hb dX12_copyRow_28 (by decide) ?_
      exact ih (k + 1) (by omega) H locs ls (lv_sub hl [0, 1, 2, 3, 4] rfl) (hP.sub [0] rfl) (hD.sub [0] (by decide) rfl) hS
  exact LP_1 6 0 (by omega) _ _ _ hl hP hD hS

set_option maxHeartbeats 4000000 in
set_option maxRecDepth 100000 in
theorem c_copyRow_36_0_1 (l : Launch) (G : va_G) (t : Nat → ClassId) (q0 : Nat) : Ct l G t yX12_copyRow cX12_copyRow 5 none ({ frames := 0, cells := 0, slots := 0, locals := 0 }) [.ref q0, .int 36, .int 0, .int 1] [(q0, .inl (t 1, 180, .inl (fun _ => 0)))] (QV G (fun (u : Unit) => True) (fun (u : Unit) => [(q0, .inl (t 1, 180, .inl (fun _ => 0)))])) := by
  refine ent (by decide) (Nat.le_of_ble_eq_true rfl) ?_
  intro p e s m args below meth c hx hb hr hml hts hown hlocks hin A hA hK hO hP hD hS ls hl
  have hown : s.vm.findClass RX12 = some m.cls := hown
  have hl : lv_has ls 5 [(0, .ref q0), (1, .int 36), (2, .int 0), (3, .int 1)] := hl
  have C0 : Cx p s m args c cX12_copyRow 5 RX12 G t := ⟨hx, hb, hml, hown, hts, hK, hO⟩
  refine lv_iconst (v := 0) hx hb dX12_copyRow_0 (by decide) ?_
  refine lv_istore (lv' := [(4, .int 0), (0, .ref q0), (1, .int 36), (2, .int 0), (3, .int 1)]) hx hb dX12_copyRow_1 hl (by decide) rfl (fun ls hl => ?_)
  have LP_1 : ∀ (n k : Nat), k + n = 36 → ∀ (H : Heap) (locs : List Loc) (ls : Array Slot), lv_has ls 5 [(4, .int (nI k)), (0, .ref q0), (1, .int 36), (2, .int 0), (3, .int 1)] → va_P G vwCl [(q0, .inl (t 1, 180, .inl (fun _ => 0)))] H → va_D A [(q0, .inl (t 1, 180, .inl (fun _ => 0)))] → va_S A s.heap H locs → W p l e ({ frames := 0, cells := 0, slots := 0, locals := 0 }) s m args below meth c H locs 0 0 (MQ below ((QV G (fun (u : Unit) => True) (fun (u : Unit) => [(q0, .inl (t 1, 180, .inl (fun _ => 0)))])) A) args s 0 0 A) (F0 m 3 ls []) := by
    intro n
    induction n with
    | zero =>
      intro k hk H locs ls hl hP hD hS
      obtain rfl : k = 36 := by omega
      refine lv_iload hx hb dX12_copyRow_3 (lv_at hl 0 rfl) ?_
      refine lv_iload_n hx hb dX12_copyRow_5 rfl (lv_at hl 2 rfl) ?_
      refine lv_icmp_ge (tgt := 31) hx hb dX12_copyRow_6 (by decide) (fun _ => ?_) (fun c_2 => absurd (by decide) c_2)
      refine W.widen (k := 0) (n := 0) (by decide) (by decide) ?_
      exact rtV hx hb hr hlocks hS () (trivial) (hP.sub [0] rfl) (hD.sub [0] (by decide) rfl) dX12_copyRow_31
    | succ n ih =>
      intro k hk H locs ls hl hP hD hS
      refine lv_iload hx hb dX12_copyRow_3 (lv_at hl 0 rfl) ?_
      refine lv_iload_n hx hb dX12_copyRow_5 rfl (lv_at hl 2 rfl) ?_
      refine lv_icmp_ge (tgt := 31) hx hb dX12_copyRow_6 (by decide) (fun c_3 => absurd c_3 (show ¬ nI 36 ≤ nI k from nI_ge (by omega) (by decide))) (fun _ => ?_)
      refine lv_aload_n hx hb dX12_copyRow_9 rfl (lv_at hl 1 rfl) ?_
      refine lv_iload_n hx hb dX12_copyRow_10 rfl (lv_at hl 2 rfl) ?_
      refine lv_iload_n hx hb dX12_copyRow_11 rfl (lv_at hl 4 rfl) ?_
      refine lv_imul hx hb dX12_copyRow_12 (tpi (v := 36) (by decide) ?_)
      refine lv_iload hx hb dX12_copyRow_13 (lv_at hl 0 rfl) ?_
      refine lv_iadd hx hb dX12_copyRow_15 (tpi (v := (nI (36 + k))) (show nI 36 + nI k = nI (36 + k) from nI_add 36 k) ?_)
      refine lv_aload_n hx hb dX12_copyRow_16 rfl (lv_at hl 1 rfl) ?_
      refine lv_iload_n hx hb dX12_copyRow_17 rfl (lv_at hl 2 rfl) ?_
      refine lv_iload_n hx hb dX12_copyRow_18 rfl (lv_at hl 3 rfl) ?_
      refine lv_imul hx hb dX12_copyRow_19 (tpi (v := 0) (by decide) ?_)
      refine lv_iload hx hb dX12_copyRow_20 (lv_at hl 0 rfl) ?_
      refine lv_iadd hx hb dX12_copyRow_22 (tpi (v := (nI (0 + k))) (show nI 0 + nI k = nI (0 + k) from nI_add 0 k) ?_)
      refine ldI hx hb hK hP 0 rfl (vp_in_nI (by omega) (by decide)) dX12_copyRow_23 (v := 0) (rfl) ?_
      refine stI hx hb hK hP hD hS 0 rfl (vp_in_nI (by omega) (by decide)) dX12_copyRow_24 (f' := (fun _ => 0)) (upd_z _) (ws' := [(q0, .inl (t 1, 180, .inl (fun _ => 0)))]) rfl (fun H locs hP hD hS => ?_)
      refine lv_iinc (v := (nI (k + 1))) (lv' := [(4, .int (nI (k + 1))), (0, .ref q0), (1, .int 36), (2, .int 0), (3, .int 1)]) hx hb dX12_copyRow_25 hl (k := 0) rfl (nI_1 k) (by decide) rfl (fun ls hl => ?_)
      refine lv_goto (tgt := 3) hx hb dX12_copyRow_28 (by decide) ?_
      exact ih (k + 1) (by omega) H locs ls (lv_sub hl [0, 1, 2, 3, 4] rfl) (hP.sub [0] rfl) (hD.sub [0] (by decide) rfl) hS
  exact LP_1 36 0 (by omega) _ _ _ hl hP hD hS

set_option maxHeartbeats 4000000 in
set_option maxRecDepth 100000 in
theorem c_copyRow_28_0_1 (l : Launch) (G : va_G) (t : Nat → ClassId) (q0 : Nat) : Ct l G t yX12_copyRow cX12_copyRow 5 none ({ frames := 0, cells := 0, slots := 0, locals := 0 }) [.ref q0, .int 28, .int 0, .int 1] [(q0, .inl (t 1, 140, .inl (fun _ => 0)))] (QV G (fun (u : Unit) => True) (fun (u : Unit) => [(q0, .inl (t 1, 140, .inl (fun _ => 0)))])) := by
  refine ent (by decide) (Nat.le_of_ble_eq_true rfl) ?_
  intro p e s m args below meth c hx hb hr hml hts hown hlocks hin A hA hK hO hP hD hS ls hl
  have hown : s.vm.findClass RX12 = some m.cls := hown
  have hl : lv_has ls 5 [(0, .ref q0), (1, .int 28), (2, .int 0), (3, .int 1)] := hl
  have C0 : Cx p s m args c cX12_copyRow 5 RX12 G t := ⟨hx, hb, hml, hown, hts, hK, hO⟩
  refine lv_iconst (v := 0) hx hb dX12_copyRow_0 (by decide) ?_
  refine lv_istore (lv' := [(4, .int 0), (0, .ref q0), (1, .int 28), (2, .int 0), (3, .int 1)]) hx hb dX12_copyRow_1 hl (by decide) rfl (fun ls hl => ?_)
  have LP_1 : ∀ (n k : Nat), k + n = 28 → ∀ (H : Heap) (locs : List Loc) (ls : Array Slot), lv_has ls 5 [(4, .int (nI k)), (0, .ref q0), (1, .int 28), (2, .int 0), (3, .int 1)] → va_P G vwCl [(q0, .inl (t 1, 140, .inl (fun _ => 0)))] H → va_D A [(q0, .inl (t 1, 140, .inl (fun _ => 0)))] → va_S A s.heap H locs → W p l e ({ frames := 0, cells := 0, slots := 0, locals := 0 }) s m args below meth c H locs 0 0 (MQ below ((QV G (fun (u : Unit) => True) (fun (u : Unit) => [(q0, .inl (t 1, 140, .inl (fun _ => 0)))])) A) args s 0 0 A) (F0 m 3 ls []) := by
    intro n
    induction n with
    | zero =>
      intro k hk H locs ls hl hP hD hS
      obtain rfl : k = 28 := by omega
      refine lv_iload hx hb dX12_copyRow_3 (lv_at hl 0 rfl) ?_
      refine lv_iload_n hx hb dX12_copyRow_5 rfl (lv_at hl 2 rfl) ?_
      refine lv_icmp_ge (tgt := 31) hx hb dX12_copyRow_6 (by decide) (fun _ => ?_) (fun c_2 => absurd (by decide) c_2)
      refine W.widen (k := 0) (n := 0) (by decide) (by decide) ?_
      exact rtV hx hb hr hlocks hS () (trivial) (hP.sub [0] rfl) (hD.sub [0] (by decide) rfl) dX12_copyRow_31
    | succ n ih =>
      intro k hk H locs ls hl hP hD hS
      refine lv_iload hx hb dX12_copyRow_3 (lv_at hl 0 rfl) ?_
      refine lv_iload_n hx hb dX12_copyRow_5 rfl (lv_at hl 2 rfl) ?_
      refine lv_icmp_ge (tgt := 31) hx hb dX12_copyRow_6 (by decide) (fun c_3 => absurd c_3 (show ¬ nI 28 ≤ nI k from nI_ge (by omega) (by decide))) (fun _ => ?_)
      refine lv_aload_n hx hb dX12_copyRow_9 rfl (lv_at hl 1 rfl) ?_
      refine lv_iload_n hx hb dX12_copyRow_10 rfl (lv_at hl 2 rfl) ?_
      refine lv_iload_n hx hb dX12_copyRow_11 rfl (lv_at hl 4 rfl) ?_
      refine lv_imul hx hb dX12_copyRow_12 (tpi (v := 28) (by decide) ?_)
      refine lv_iload hx hb dX12_copyRow_13 (lv_at hl 0 rfl) ?_
      refine lv_iadd hx hb dX12_copyRow_15 (tpi (v := (nI (28 + k))) (show nI 28 + nI k = nI (28 + k) from nI_add 28 k) ?_)
      refine lv_aload_n hx hb dX12_copyRow_16 rfl (lv_at hl 1 rfl) ?_
      refine lv_iload_n hx hb dX12_copyRow_17 rfl (lv_at hl 2 rfl) ?_
      refine lv_iload_n hx hb dX12_copyRow_18 rfl (lv_at hl 3 rfl) ?_
      refine lv_imul hx hb dX12_copyRow_19 (tpi (v := 0) (by decide) ?_)
      refine lv_iload hx hb dX12_copyRow_20 (lv_at hl 0 rfl) ?_
      refine lv_iadd hx hb dX12_copyRow_22 (tpi (v := (nI (0 + k))) (show nI 0 + nI k = nI (0 + k) from nI_add 0 k) ?_)
      refine ldI hx hb hK hP 0 rfl (vp_in_nI (by omega) (by decide)) dX12_copyRow_23 (v := 0) (rfl) ?_
      refine stI hx hb hK hP hD hS 0 rfl (vp_in_nI (by omega) (by decide)) dX12_copyRow_24 (f' := (fun _ => 0)) (upd_z _) (ws' := [(q0, .inl (t 1, 140, .inl (fun _ => 0)))]) rfl (fun H locs hP hD hS => ?_)
      refine lv_iinc (v := (nI (k + 1))) (lv' := [(4, .int (nI (k + 1))), (0, .ref q0), (1, .int 28), (2, .int 0), (3, .int 1)]) hx hb dX12_copyRow_25 hl (k := 0) rfl (nI_1 k) (by decide) rfl (fun ls hl => ?_)
      refine lv_goto (tgt := 3) hx hb dX12_copyRow_28 (by decide) ?_
      exact ih (k + 1) (by omega) H locs ls (lv_sub hl [0, 1, 2, 3, 4] rfl) (hP.sub [0] rfl) (hD.sub [0] (by decide) rfl) hS
  exact LP_1 28 0 (by omega) _ _ _ hl hP hD hS

set_option maxHeartbeats 4000000 in
set_option maxRecDepth 100000 in
theorem c_copyRow_160_0_1 (l : Launch) (G : va_G) (t : Nat → ClassId) (q0 : Nat) : Ct l G t yX12_copyRow cX12_copyRow 5 none ({ frames := 0, cells := 0, slots := 0, locals := 0 }) [.ref q0, .int 160, .int 0, .int 1] [(q0, .inl (t 1, 800, .inl (fun _ => 0)))] (QV G (fun (u : Unit) => True) (fun (u : Unit) => [(q0, .inl (t 1, 800, .inl (fun _ => 0)))])) := by
  refine ent (by decide) (Nat.le_of_ble_eq_true rfl) ?_
  intro p e s m args below meth c hx hb hr hml hts hown hlocks hin A hA hK hO hP hD hS ls hl
  have hown : s.vm.findClass RX12 = some m.cls := hown
  have hl : lv_has ls 5 [(0, .ref q0), (1, .int 160), (2, .int 0), (3, .int 1)] := hl
  have C0 : Cx p s m args c cX12_copyRow 5 RX12 G t := ⟨hx, hb, hml, hown, hts, hK, hO⟩
  refine lv_iconst (v := 0) hx hb dX12_copyRow_0 (by decide) ?_
  refine lv_istore (lv' := [(4, .int 0), (0, .ref q0), (1, .int 160), (2, .int 0), (3, .int 1)]) hx hb dX12_copyRow_1 hl (by decide) rfl (fun ls hl => ?_)
  have LP_1 : ∀ (n k : Nat), k + n = 160 → ∀ (H : Heap) (locs : List Loc) (ls : Array Slot), lv_has ls 5 [(4, .int (nI k)), (0, .ref q0), (1, .int 160), (2, .int 0), (3, .int 1)] → va_P G vwCl [(q0, .inl (t 1, 800, .inl (fun _ => 0)))] H → va_D A [(q0, .inl (t 1, 800, .inl (fun _ => 0)))] → va_S A s.heap H locs → W p l e ({ frames := 0, cells := 0, slots := 0, locals := 0 }) s m args below meth c H locs 0 0 (MQ below ((QV G (fun (u : Unit) => True) (fun (u : Unit) => [(q0, .inl (t 1, 800, .inl (fun _ => 0)))])) A) args s 0 0 A) (F0 m 3 ls []) := by
    intro n
    induction n with
    | zero =>
      intro k hk H locs ls hl hP hD hS
      obtain rfl : k = 160 := by omega
      refine lv_iload hx hb dX12_copyRow_3 (lv_at hl 0 rfl) ?_
      refine lv_iload_n hx hb dX12_copyRow_5 rfl (lv_at hl 2 rfl) ?_
      refine lv_icmp_ge (tgt := 31) hx hb dX12_copyRow_6 (by decide) (fun _ => ?_) (fun c_2 => absurd (by decide) c_2)
      refine W.widen (k := 0) (n := 0) (by decide) (by decide) ?_
      exact rtV hx hb hr hlocks hS () (trivial) (hP.sub [0] rfl) (hD.sub [0] (by decide) rfl) dX12_copyRow_31
    | succ n ih =>
      intro k hk H locs ls hl hP hD hS
      refine lv_iload hx hb dX12_copyRow_3 (lv_at hl 0 rfl) ?_
      refine lv_iload_n hx hb dX12_copyRow_5 rfl (lv_at hl 2 rfl) ?_
      refine lv_icmp_ge (tgt := 31) hx hb dX12_copyRow_6 (by decide) (fun c_3 => absurd c_3 (show ¬ nI 160 ≤ nI k from nI_ge (by omega) (by decide))) (fun _ => ?_)
      refine lv_aload_n hx hb dX12_copyRow_9 rfl (lv_at hl 1 rfl) ?_
      refine lv_iload_n hx hb dX12_copyRow_10 rfl (lv_at hl 2 rfl) ?_
      refine lv_iload_n hx hb dX12_copyRow_11 rfl (lv_at hl 4 rfl) ?_
      refine lv_imul hx hb dX12_copyRow_12 (tpi (v := 160) (by decide) ?_)
      refine lv_iload hx hb dX12_copyRow_13 (lv_at hl 0 rfl) ?_
      refine lv_iadd hx hb dX12_copyRow_15 (tpi (v := (nI (160 + k))) (show nI 160 + nI k = nI (160 + k) from nI_add 160 k) ?_)
      refine lv_aload_n hx hb dX12_copyRow_16 rfl (lv_at hl 1 rfl) ?_
      refine lv_iload_n hx hb dX12_copyRow_17 rfl (lv_at hl 2 rfl) ?_
      refine lv_iload_n hx hb dX12_copyRow_18 rfl (lv_at hl 3 rfl) ?_
      refine lv_imul hx hb dX12_copyRow_19 (tpi (v := 0) (by decide) ?_)
      refine lv_iload hx hb dX12_copyRow_20 (lv_at hl 0 rfl) ?_
      refine lv_iadd hx hb dX12_copyRow_22 (tpi (v := (nI (0 + k))) (show nI 0 + nI k = nI (0 + k) from nI_add 0 k) ?_)
      refine ldI hx hb hK hP 0 rfl (vp_in_nI (by omega) (by decide)) dX12_copyRow_23 (v := 0) (rfl) ?_
      refine stI hx hb hK hP hD hS 0 rfl (vp_in_nI (by omega) (by decide)) dX12_copyRow_24 (f' := (fun _ => 0)) (upd_z _) (ws' := [(q0, .inl (t 1, 800, .inl (fun _ => 0)))]) rfl (fun H locs hP hD hS => ?_)
      refine lv_iinc (v := (nI (k + 1))) (lv' := [(4, .int (nI (k + 1))), (0, .ref q0), (1, .int 160), (2, .int 0), (3, .int 1)]) hx hb dX12_copyRow_25 hl (k := 0) rfl (nI_1 k) (by decide) rfl (fun ls hl => ?_)
      refine lv_goto (tgt := 3) hx hb dX12_copyRow_28 (by decide) ?_
      exact ih (k + 1) (by omega) H locs ls (lv_sub hl [0, 1, 2, 3, 4] rfl) (hP.sub [0] rfl) (hD.sub [0] (by decide) rfl) hS
  exact LP_1 160 0 (by omega) _ _ _ hl hP hD hS

set_option maxHeartbeats 4000000 in
set_option maxRecDepth 100000 in
theorem c_copyHall_0_1 (l : Launch) (G : va_G) (t : Nat → ClassId) (z : Nat) (zw : Nat) (zm : Nat) (zc : Nat) (zv : Nat) (zt : Nat) (zn : Nat) (zh : Nat) (zp : Nat) (ze : Nat) (zs : Nat) (zg : Nat) (zk : Nat) (za : Nat) (zd : Nat) (zf : Nat) (zo : Nat) (zE : Nat) (zq : Nat) (zC : Nat) : Ct l G t yX12_copyHall cX12_copyHall 4 none ({ frames := 1, cells := 0, slots := 0, locals := 24 }) [.ref z, .int 0, .int 1] [(z, .inr (12, [.int 0, .ref zw, .ref zm, .ref zc, .ref zv, .ref zt, .int 0, .int 0, .int 0, .int 0, .int 0, .long 0, .int 0, .int 0, .int 0, .int (-1), .ref zn, .ref zh, .ref zp, .ref ze, .ref zs, .ref zg, .ref zk, .ref za, .ref zd, .ref zf, .ref zo, .ref zE, .ref zq, .int 0, .int 0, .int 0, .int 0, .int 0, .int 0, .ref zC])), (zn, .inl (t 1, 5, .inl (fun _ => 0))), (zh, .inl (t 1, 30, .inl (fun _ => 0))), (zp, .inl (t 1, 180, .inl (fun _ => 0))), (ze, .inl (t 1, 140, .inl (fun _ => 0))), (zg, .inl (t 1, 800, .inl (fun _ => 0))), (zs, .inl (t 3, 180, .inl (fun _ => 0)))] (QV G (fun (u : Unit) => True) (fun (u : Unit) => [(z, .inr (12, [.int 0, .ref zw, .ref zm, .ref zc, .ref zv, .ref zt, .int 0, .int 0, .int 0, .int 0, .int 0, .long 0, .int 0, .int 0, .int 0, .int (-1), .ref zn, .ref zh, .ref zp, .ref ze, .ref zs, .ref zg, .ref zk, .ref za, .ref zd, .ref zf, .ref zo, .ref zE, .ref zq, .int 0, .int 0, .int 0, .int 0, .int 0, .int 0, .ref zC])), (zn, .inl (t 1, 5, .inl (fun _ => 0))), (zh, .inl (t 1, 30, .inl (fun _ => 0))), (zp, .inl (t 1, 180, .inl (fun _ => 0))), (ze, .inl (t 1, 140, .inl (fun _ => 0))), (zg, .inl (t 1, 800, .inl (fun _ => 0))), (zs, .inl (t 3, 180, .inl (fun _ => 0)))])) := by
  refine ent (by decide) (Nat.le_of_ble_eq_true rfl) ?_
  intro p e s m args below meth c hx hb hr hml hts hown hlocks hin A hA hK hO hP hD hS ls hl
  have hown : s.vm.findClass RX12 = some m.cls := hown
  have hl : lv_has ls 4 [(0, .ref z), (1, .int 0), (2, .int 1)] := hl
  have C0 : Cx p s m args c cX12_copyHall 4 RX12 G t := ⟨hx, hb, hml, hown, hts, hK, hO⟩
  refine lv_aload_n hx hb dX12_copyHall_0 rfl (lv_at hl 0 rfl) ?_
  refine gf hx hb hts hown hK hP 0 inT12 rfl rfl 16 (by decide) tw6_1 rfl dX12_copyHall_1 ?_
  refine lv_iconst (v := 1) hx hb dX12_copyHall_4 (by decide) ?_
  refine lv_iload_n hx hb dX12_copyHall_5 rfl (lv_at hl 1 rfl) ?_
  refine lv_iload_n hx hb dX12_copyHall_6 rfl (lv_at hl 2 rfl) ?_
  refine goV (rnS C0 (c_copyRow_1_0_1 l G t zn) lkX12_230 ⟨by decide, by decide⟩ (hP.sub (ws' := [(zn, .inl (t 1, 5, .inl (fun _ => 0)))]) [1] rfl) (hD.sub (ws' := [(zn, .inl (t 1, 5, .inl (fun _ => 0)))]) [1] (by decide) rfl) rfl hl.1 (rest := []) rfl (Nat.le_of_ble_eq_true rfl) dX12_copyHall_7 ⟨by decide, by decide⟩) hP hD hS hA [1] [0, 2, 3, 4, 5, 6] (wr := [(z, .inr (12, [.int 0, .ref zw, .ref zm, .ref zc, .ref zv, .ref zt, .int 0, .int 0, .int 0, .int 0, .int 0, .long 0, .int 0, .int 0, .int 0, .int (-1), .ref zn, .ref zh, .ref zp, .ref ze, .ref zs, .ref zg, .ref zk, .ref za, .ref zd, .ref zf, .ref zo, .ref zE, .ref zq, .int 0, .int 0, .int 0, .int 0, .int 0, .int 0, .ref zC])), (zh, .inl (t 1, 30, .inl (fun _ => 0))), (zp, .inl (t 1, 180, .inl (fun _ => 0))), (ze, .inl (t 1, 140, .inl (fun _ => 0))), (zg, .inl (t 1, 800, .inl (fun _ => 0))), (zs, .inl (t 3, 180, .inl (fun _ => 0)))]) rfl rfl (by decide) (by decide) (fun u H locs h_2 hP hD hS => ?_)
  have hP : va_P G vwCl [(z, .inr (12, [.int 0, .ref zw, .ref zm, .ref zc, .ref zv, .ref zt, .int 0, .int 0, .int 0, .int 0, .int 0, .long 0, .int 0, .int 0, .int 0, .int (-1), .ref zn, .ref zh, .ref zp, .ref ze, .ref zs, .ref zg, .ref zk, .ref za, .ref zd, .ref zf, .ref zo, .ref zE, .ref zq, .int 0, .int 0, .int 0, .int 0, .int 0, .int 0, .ref zC])), (zh, .inl (t 1, 30, .inl (fun _ => 0))), (zp, .inl (t 1, 180, .inl (fun _ => 0))), (ze, .inl (t 1, 140, .inl (fun _ => 0))), (zg, .inl (t 1, 800, .inl (fun _ => 0))), (zs, .inl (t 3, 180, .inl (fun _ => 0))), (zn, .inl (t 1, 5, .inl (fun _ => 0)))] H := hP
  have hD : va_D A [(z, .inr (12, [.int 0, .ref zw, .ref zm, .ref zc, .ref zv, .ref zt, .int 0, .int 0, .int 0, .int 0, .int 0, .long 0, .int 0, .int 0, .int 0, .int (-1), .ref zn, .ref zh, .ref zp, .ref ze, .ref zs, .ref zg, .ref zk, .ref za, .ref zd, .ref zf, .ref zo, .ref zE, .ref zq, .int 0, .int 0, .int 0, .int 0, .int 0, .int 0, .ref zC])), (zh, .inl (t 1, 30, .inl (fun _ => 0))), (zp, .inl (t 1, 180, .inl (fun _ => 0))), (ze, .inl (t 1, 140, .inl (fun _ => 0))), (zg, .inl (t 1, 800, .inl (fun _ => 0))), (zs, .inl (t 3, 180, .inl (fun _ => 0))), (zn, .inl (t 1, 5, .inl (fun _ => 0)))] := hD
  refine W.widen (k := 0) (n := 0) (Nat.le_of_ble_eq_true rfl) (Nat.le_of_ble_eq_true rfl) ?_
  refine lv_aload_n hx hb dX12_copyHall_10 rfl (lv_at hl 0 rfl) ?_
  refine gf hx hb hts hown hK hP 0 inT12 rfl rfl 17 (by decide) tw6_2 rfl dX12_copyHall_11 ?_
  refine lv_bipush (v := 6) hx hb dX12_copyHall_14 (by decide) ?_
  refine lv_iload_n hx hb dX12_copyHall_16 rfl (lv_at hl 1 rfl) ?_
  refine lv_iload_n hx hb dX12_copyHall_17 rfl (lv_at hl 2 rfl) ?_
  refine goV (rnS C0 (c_copyRow_6_0_1 l G t zh) lkX12_230 ⟨by decide, by decide⟩ (hP.sub (ws' := [(zh, .inl (t 1, 30, .inl (fun _ => 0)))]) [1] rfl) (hD.sub (ws' := [(zh, .inl (t 1, 30, .inl (fun _ => 0)))]) [1] (by decide) rfl) rfl hl.1 (rest := []) rfl (Nat.le_of_ble_eq_true rfl) dX12_copyHall_18 ⟨by decide, by decide⟩) hP hD hS hA [1] [0, 2, 3, 4, 5, 6] (wr := [(z, .inr (12, [.int 0, .ref zw, .ref zm, .ref zc, .ref zv, .ref zt, .int 0, .int 0, .int 0, .int 0, .int 0, .long 0, .int 0, .int 0, .int 0, .int (-1), .ref zn, .ref zh, .ref zp, .ref ze, .ref zs, .ref zg, .ref zk, .ref za, .ref zd, .ref zf, .ref zo, .ref zE, .ref zq, .int 0, .int 0, .int 0, .int 0, .int 0, .int 0, .ref zC])), (zp, .inl (t 1, 180, .inl (fun _ => 0))), (ze, .inl (t 1, 140, .inl (fun _ => 0))), (zg, .inl (t 1, 800, .inl (fun _ => 0))), (zs, .inl (t 3, 180, .inl (fun _ => 0))), (zn, .inl (t 1, 5, .inl (fun _ => 0)))]) rfl rfl (by decide) (by decide) (fun u H locs h_4 hP hD hS => ?_)
  have hP : va_P G vwCl [(z, .inr (12, [.int 0, .ref zw, .ref zm, .ref zc, .ref zv, .ref zt, .int 0, .int 0, .int 0, .int 0, .int 0, .long 0, .int 0, .int 0, .int 0, .int (-1), .ref zn, .ref zh, .ref zp, .ref ze, .ref zs, .ref zg, .ref zk, .ref za, .ref zd, .ref zf, .ref zo, .ref zE, .ref zq, .int 0, .int 0, .int 0, .int 0, .int 0, .int 0, .ref zC])), (zp, .inl (t 1, 180, .inl (fun _ => 0))), (ze, .inl (t 1, 140, .inl (fun _ => 0))), (zg, .inl (t 1, 800, .inl (fun _ => 0))), (zs, .inl (t 3, 180, .inl (fun _ => 0))), (zn, .inl (t 1, 5, .inl (fun _ => 0))), (zh, .inl (t 1, 30, .inl (fun _ => 0)))] H := hP
  have hD : va_D A [(z, .inr (12, [.int 0, .ref zw, .ref zm, .ref zc, .ref zv, .ref zt, .int 0, .int 0, .int 0, .int 0, .int 0, .long 0, .int 0, .int 0, .int 0, .int (-1), .ref zn, .ref zh, .ref zp, .ref ze, .ref zs, .ref zg, .ref zk, .ref za, .ref zd, .ref zf, .ref zo, .ref zE, .ref zq, .int 0, .int 0, .int 0, .int 0, .int 0, .int 0, .ref zC])), (zp, .inl (t 1, 180, .inl (fun _ => 0))), (ze, .inl (t 1, 140, .inl (fun _ => 0))), (zg, .inl (t 1, 800, .inl (fun _ => 0))), (zs, .inl (t 3, 180, .inl (fun _ => 0))), (zn, .inl (t 1, 5, .inl (fun _ => 0))), (zh, .inl (t 1, 30, .inl (fun _ => 0)))] := hD
  refine W.widen (k := 0) (n := 0) (Nat.le_of_ble_eq_true rfl) (Nat.le_of_ble_eq_true rfl) ?_
  refine lv_aload_n hx hb dX12_copyHall_21 rfl (lv_at hl 0 rfl) ?_
  refine gf hx hb hts hown hK hP 0 inT12 rfl rfl 18 (by decide) tw6_3 rfl dX12_copyHall_22 ?_
  refine lv_bipush (v := 36) hx hb dX12_copyHall_25 (by decide) ?_
  refine lv_iload_n hx hb dX12_copyHall_27 rfl (lv_at hl 1 rfl) ?_
  refine lv_iload_n hx hb dX12_copyHall_28 rfl (lv_at hl 2 rfl) ?_
  refine goV (rnS C0 (c_copyRow_36_0_1 l G t zp) lkX12_230 ⟨by decide, by decide⟩ (hP.sub (ws' := [(zp, .inl (t 1, 180, .inl (fun _ => 0)))]) [1] rfl) (hD.sub (ws' := [(zp, .inl (t 1, 180, .inl (fun _ => 0)))]) [1] (by decide) rfl) rfl hl.1 (rest := []) rfl (Nat.le_of_ble_eq_true rfl) dX12_copyHall_29 ⟨by decide, by decide⟩) hP hD hS hA [1] [0, 2, 3, 4, 5, 6] (wr := [(z, .inr (12, [.int 0, .ref zw, .ref zm, .ref zc, .ref zv, .ref zt, .int 0, .int 0, .int 0, .int 0, .int 0, .long 0, .int 0, .int 0, .int 0, .int (-1), .ref zn, .ref zh, .ref zp, .ref ze, .ref zs, .ref zg, .ref zk, .ref za, .ref zd, .ref zf, .ref zo, .ref zE, .ref zq, .int 0, .int 0, .int 0, .int 0, .int 0, .int 0, .ref zC])), (ze, .inl (t 1, 140, .inl (fun _ => 0))), (zg, .inl (t 1, 800, .inl (fun _ => 0))), (zs, .inl (t 3, 180, .inl (fun _ => 0))), (zn, .inl (t 1, 5, .inl (fun _ => 0))), (zh, .inl (t 1, 30, .inl (fun _ => 0)))]) rfl rfl (by decide) (by decide) (fun u H locs h_6 hP hD hS => ?_)
  have hP : va_P G vwCl [(z, .inr (12, [.int 0, .ref zw, .ref zm, .ref zc, .ref zv, .ref zt, .int 0, .int 0, .int 0, .int 0, .int 0, .long 0, .int 0, .int 0, .int 0, .int (-1), .ref zn, .ref zh, .ref zp, .ref ze, .ref zs, .ref zg, .ref zk, .ref za, .ref zd, .ref zf, .ref zo, .ref zE, .ref zq, .int 0, .int 0, .int 0, .int 0, .int 0, .int 0, .ref zC])), (ze, .inl (t 1, 140, .inl (fun _ => 0))), (zg, .inl (t 1, 800, .inl (fun _ => 0))), (zs, .inl (t 3, 180, .inl (fun _ => 0))), (zn, .inl (t 1, 5, .inl (fun _ => 0))), (zh, .inl (t 1, 30, .inl (fun _ => 0))), (zp, .inl (t 1, 180, .inl (fun _ => 0)))] H := hP
  have hD : va_D A [(z, .inr (12, [.int 0, .ref zw, .ref zm, .ref zc, .ref zv, .ref zt, .int 0, .int 0, .int 0, .int 0, .int 0, .long 0, .int 0, .int 0, .int 0, .int (-1), .ref zn, .ref zh, .ref zp, .ref ze, .ref zs, .ref zg, .ref zk, .ref za, .ref zd, .ref zf, .ref zo, .ref zE, .ref zq, .int 0, .int 0, .int 0, .int 0, .int 0, .int 0, .ref zC])), (ze, .inl (t 1, 140, .inl (fun _ => 0))), (zg, .inl (t 1, 800, .inl (fun _ => 0))), (zs, .inl (t 3, 180, .inl (fun _ => 0))), (zn, .inl (t 1, 5, .inl (fun _ => 0))), (zh, .inl (t 1, 30, .inl (fun _ => 0))), (zp, .inl (t 1, 180, .inl (fun _ => 0)))] := hD
  refine W.widen (k := 0) (n := 0) (Nat.le_of_ble_eq_true rfl) (Nat.le_of_ble_eq_true rfl) ?_
  refine lv_aload_n hx hb dX12_copyHall_32 rfl (lv_at hl 0 rfl) ?_
  refine gf hx hb hts hown hK hP 0 inT12 rfl rfl 19 (by decide) tw6_4 rfl dX12_copyHall_33 ?_
  refine lv_bipush (v := 28) hx hb dX12_copyHall_36 (by decide) ?_
  refine lv_iload_n hx hb dX12_copyHall_38 rfl (lv_at hl 1 rfl) ?_
  refine lv_iload_n hx hb dX12_copyHall_39 rfl (lv_at hl 2 rfl) ?_
  refine goV (rnS C0 (c_copyRow_28_0_1 l G t ze) lkX12_230 ⟨by decide, by decide⟩ (hP.sub (ws' := [(ze, .inl (t 1, 140, .inl (fun _ => 0)))]) [1] rfl) (hD.sub (ws' := [(ze, .inl (t 1, 140, .inl (fun _ => 0)))]) [1] (by decide) rfl) rfl hl.1 (rest := []) rfl (Nat.le_of_ble_eq_true rfl) dX12_copyHall_40 ⟨by decide, by decide⟩) hP hD hS hA [1] [0, 2, 3, 4, 5, 6] (wr := [(z, .inr (12, [.int 0, .ref zw, .ref zm, .ref zc, .ref zv, .ref zt, .int 0, .int 0, .int 0, .int 0, .int 0, .long 0, .int 0, .int 0, .int 0, .int (-1), .ref zn, .ref zh, .ref zp, .ref ze, .ref zs, .ref zg, .ref zk, .ref za, .ref zd, .ref zf, .ref zo, .ref zE, .ref zq, .int 0, .int 0, .int 0, .int 0, .int 0, .int 0, .ref zC])), (zg, .inl (t 1, 800, .inl (fun _ => 0))), (zs, .inl (t 3, 180, .inl (fun _ => 0))), (zn, .inl (t 1, 5, .inl (fun _ => 0))), (zh, .inl (t 1, 30, .inl (fun _ => 0))), (zp, .inl (t 1, 180, .inl (fun _ => 0)))]) rfl rfl (by decide) (by decide) (fun u H locs h_8 hP hD hS => ?_)
  have hP : va_P G vwCl [(z, .inr (12, [.int 0, .ref zw, .ref zm, .ref zc, .ref zv, .ref zt, .int 0, .int 0, .int 0, .int 0, .int 0, .long 0, .int 0, .int 0, .int 0, .int (-1), .ref zn, .ref zh, .ref zp, .ref ze, .ref zs, .ref zg, .ref zk, .ref za, .ref zd, .ref zf, .ref zo, .ref zE, .ref zq, .int 0, .int 0, .int 0, .int 0, .int 0, .int 0, .ref zC])), (zg, .inl (t 1, 800, .inl (fun _ => 0))), (zs, .inl (t 3, 180, .inl (fun _ => 0))), (zn, .inl (t 1, 5, .inl (fun _ => 0))), (zh, .inl (t 1, 30, .inl (fun _ => 0))), (zp, .inl (t 1, 180, .inl (fun _ => 0))), (ze, .inl (t 1, 140, .inl (fun _ => 0)))] H := hP
  have hD : va_D A [(z, .inr (12, [.int 0, .ref zw, .ref zm, .ref zc, .ref zv, .ref zt, .int 0, .int 0, .int 0, .int 0, .int 0, .long 0, .int 0, .int 0, .int 0, .int (-1), .ref zn, .ref zh, .ref zp, .ref ze, .ref zs, .ref zg, .ref zk, .ref za, .ref zd, .ref zf, .ref zo, .ref zE, .ref zq, .int 0, .int 0, .int 0, .int 0, .int 0, .int 0, .ref zC])), (zg, .inl (t 1, 800, .inl (fun _ => 0))), (zs, .inl (t 3, 180, .inl (fun _ => 0))), (zn, .inl (t 1, 5, .inl (fun _ => 0))), (zh, .inl (t 1, 30, .inl (fun _ => 0))), (zp, .inl (t 1, 180, .inl (fun _ => 0))), (ze, .inl (t 1, 140, .inl (fun _ => 0)))] := hD
  refine W.widen (k := 0) (n := 0) (Nat.le_of_ble_eq_true rfl) (Nat.le_of_ble_eq_true rfl) ?_
  refine lv_aload_n hx hb dX12_copyHall_43 rfl (lv_at hl 0 rfl) ?_
  refine gf hx hb hts hown hK hP 0 inT12 rfl rfl 21 (by decide) tw6_6 rfl dX12_copyHall_44 ?_
  refine lv_sipush (v := 160) hx hb dX12_copyHall_47 (by decide) ?_
  refine lv_iload_n hx hb dX12_copyHall_50 rfl (lv_at hl 1 rfl) ?_
  refine lv_iload_n hx hb dX12_copyHall_51 rfl (lv_at hl 2 rfl) ?_
  refine goV (rnS C0 (c_copyRow_160_0_1 l G t zg) lkX12_230 ⟨by decide, by decide⟩ (hP.sub (ws' := [(zg, .inl (t 1, 800, .inl (fun _ => 0)))]) [1] rfl) (hD.sub (ws' := [(zg, .inl (t 1, 800, .inl (fun _ => 0)))]) [1] (by decide) rfl) rfl hl.1 (rest := []) rfl (Nat.le_of_ble_eq_true rfl) dX12_copyHall_52 ⟨by decide, by decide⟩) hP hD hS hA [1] [0, 2, 3, 4, 5, 6] (wr := [(z, .inr (12, [.int 0, .ref zw, .ref zm, .ref zc, .ref zv, .ref zt, .int 0, .int 0, .int 0, .int 0, .int 0, .long 0, .int 0, .int 0, .int 0, .int (-1), .ref zn, .ref zh, .ref zp, .ref ze, .ref zs, .ref zg, .ref zk, .ref za, .ref zd, .ref zf, .ref zo, .ref zE, .ref zq, .int 0, .int 0, .int 0, .int 0, .int 0, .int 0, .ref zC])), (zs, .inl (t 3, 180, .inl (fun _ => 0))), (zn, .inl (t 1, 5, .inl (fun _ => 0))), (zh, .inl (t 1, 30, .inl (fun _ => 0))), (zp, .inl (t 1, 180, .inl (fun _ => 0))), (ze, .inl (t 1, 140, .inl (fun _ => 0)))]) rfl rfl (by decide) (by decide) (fun u H locs h_10 hP hD hS => ?_)
  have hP : va_P G vwCl [(z, .inr (12, [.int 0, .ref zw, .ref zm, .ref zc, .ref zv, .ref zt, .int 0, .int 0, .int 0, .int 0, .int 0, .long 0, .int 0, .int 0, .int 0, .int (-1), .ref zn, .ref zh, .ref zp, .ref ze, .ref zs, .ref zg, .ref zk, .ref za, .ref zd, .ref zf, .ref zo, .ref zE, .ref zq, .int 0, .int 0, .int 0, .int 0, .int 0, .int 0, .ref zC])), (zs, .inl (t 3, 180, .inl (fun _ => 0))), (zn, .inl (t 1, 5, .inl (fun _ => 0))), (zh, .inl (t 1, 30, .inl (fun _ => 0))), (zp, .inl (t 1, 180, .inl (fun _ => 0))), (ze, .inl (t 1, 140, .inl (fun _ => 0))), (zg, .inl (t 1, 800, .inl (fun _ => 0)))] H := hP
  have hD : va_D A [(z, .inr (12, [.int 0, .ref zw, .ref zm, .ref zc, .ref zv, .ref zt, .int 0, .int 0, .int 0, .int 0, .int 0, .long 0, .int 0, .int 0, .int 0, .int (-1), .ref zn, .ref zh, .ref zp, .ref ze, .ref zs, .ref zg, .ref zk, .ref za, .ref zd, .ref zf, .ref zo, .ref zE, .ref zq, .int 0, .int 0, .int 0, .int 0, .int 0, .int 0, .ref zC])), (zs, .inl (t 3, 180, .inl (fun _ => 0))), (zn, .inl (t 1, 5, .inl (fun _ => 0))), (zh, .inl (t 1, 30, .inl (fun _ => 0))), (zp, .inl (t 1, 180, .inl (fun _ => 0))), (ze, .inl (t 1, 140, .inl (fun _ => 0))), (zg, .inl (t 1, 800, .inl (fun _ => 0)))] := hD
  refine W.widen (k := 0) (n := 0) (Nat.le_of_ble_eq_true rfl) (Nat.le_of_ble_eq_true rfl) ?_
  refine lv_iconst (v := 0) hx hb dX12_copyHall_55 (by decide) ?_
  refine lv_istore_n (lv' := [(3, .int 0), (0, .ref z), (1, .int 0), (2, .int 1)]) hx hb dX12_copyHall_56 rfl hl (by decide) rfl (fun ls hl => ?_)
  have LP_11 : ∀ (n k : Nat), k + n = 36 → ∀ (H : Heap) (locs : List Loc) (ls : Array Slot), lv_has ls 4 [(3, .int (nI k)), (0, .ref z), (1, .int 0), (2, .int 1)] → va_P G vwCl [(z, .inr (12, [.int 0, .ref zw, .ref zm, .ref zc, .ref zv, .ref zt, .int 0, .int 0, .int 0, .int 0, .int 0, .long 0, .int 0, .int 0, .int 0, .int (-1), .ref zn, .ref zh, .ref zp, .ref ze, .ref zs, .ref zg, .ref zk, .ref za, .ref zd, .ref zf, .ref zo, .ref zE, .ref zq, .int 0, .int 0, .int 0, .int 0, .int 0, .int 0, .ref zC])), (zs, .inl (t 3, 180, .inl (fun _ => 0))), (zn, .inl (t 1, 5, .inl (fun _ => 0))), (zh, .inl (t 1, 30, .inl (fun _ => 0))), (zp, .inl (t 1, 180, .inl (fun _ => 0))), (ze, .inl (t 1, 140, .inl (fun _ => 0))), (zg, .inl (t 1, 800, .inl (fun _ => 0)))] H → va_D A [(z, .inr (12, [.int 0, .ref zw, .ref zm, .ref zc, .ref zv, .ref zt, .int 0, .int 0, .int 0, .int 0, .int 0, .long 0, .int 0, .int 0, .int 0, .int (-1), .ref zn, .ref zh, .ref zp, .ref ze, .ref zs, .ref zg, .ref zk, .ref za, .ref zd, .ref zf, .ref zo, .ref zE, .ref zq, .int 0, .int 0, .int 0, .int 0, .int 0, .int 0, .ref zC])), (zs, .inl (t 3, 180, .inl (fun _ => 0))), (zn, .inl (t 1, 5, .inl (fun _ => 0))), (zh, .inl (t 1, 30, .inl (fun _ => 0))), (zp, .inl (t 1, 180, .inl (fun _ => 0))), (ze, .inl (t 1, 140, .inl (fun _ => 0))), (zg, .inl (t 1, 800, .inl (fun _ => 0)))] → va_S A s.heap H locs → W p l e ({ frames := 1, cells := 0, slots := 0, locals := 24 }) s m args below meth c H locs 0 0 (MQ below ((QV G (fun (u : Unit) => True) (fun (u : Unit) => [(z, .inr (12, [.int 0, .ref zw, .ref zm, .ref zc, .ref zv, .ref zt, .int 0, .int 0, .int 0, .int 0, .int 0, .long 0, .int 0, .int 0, .int 0, .int (-1), .ref zn, .ref zh, .ref zp, .ref ze, .ref zs, .ref zg, .ref zk, .ref za, .ref zd, .ref zf, .ref zo, .ref zE, .ref zq, .int 0, .int 0, .int 0, .int 0, .int 0, .int 0, .ref zC])), (zn, .inl (t 1, 5, .inl (fun _ => 0))), (zh, .inl (t 1, 30, .inl (fun _ => 0))), (zp, .inl (t 1, 180, .inl (fun _ => 0))), (ze, .inl (t 1, 140, .inl (fun _ => 0))), (zg, .inl (t 1, 800, .inl (fun _ => 0))), (zs, .inl (t 3, 180, .inl (fun _ => 0)))])) A) args s 0 0 A) (F0 m 57 ls []) := by
    intro n
    induction n with
    | zero =>
      intro k hk H locs ls hl hP hD hS
      obtain rfl : k = 36 := by omega
      refine lv_iload_n hx hb dX12_copyHall_57 rfl (lv_at hl 0 rfl) ?_
      refine lv_bipush (v := 36) hx hb dX12_copyHall_58 (by decide) ?_
      refine lv_icmp_ge (tgt := 91) hx hb dX12_copyHall_60 (by decide) (fun _ => ?_) (fun c_12 => absurd (by decide) c_12)
      refine W.widen (k := 0) (n := 0) (by decide) (by decide) ?_
      exact rtV hx hb hr hlocks hS () (trivial) (hP.sub [0, 2, 3, 4, 5, 6, 1] rfl) (hD.sub [0, 2, 3, 4, 5, 6, 1] (by decide) rfl) dX12_copyHall_91
    | succ n ih =>
      intro k hk H locs ls hl hP hD hS
      refine lv_iload_n hx hb dX12_copyHall_57 rfl (lv_at hl 0 rfl) ?_
      refine lv_bipush (v := 36) hx hb dX12_copyHall_58 (by decide) ?_
      refine lv_icmp_ge (tgt := 91) hx hb dX12_copyHall_60 (by decide) (fun c_13 => absurd c_13 (show ¬ nI 36 ≤ nI k from nI_ge (by omega) (by decide))) (fun _ => ?_)
      refine lv_aload_n hx hb dX12_copyHall_63 rfl (lv_at hl 1 rfl) ?_
      refine gf hx hb hts hown hK hP 0 inT12 rfl rfl 20 (by decide) tw6_5 rfl dX12_copyHall_64 ?_
      refine lv_bipush (v := 36) hx hb dX12_copyHall_67 (by decide) ?_
      refine lv_iload_n hx hb dX12_copyHall_69 rfl (lv_at hl 3 rfl) ?_
      refine lv_imul hx hb dX12_copyHall_70 (tpi (v := 36) (by decide) ?_)
      refine lv_iload_n hx hb dX12_copyHall_71 rfl (lv_at hl 0 rfl) ?_
      refine lv_iadd hx hb dX12_copyHall_72 (tpi (v := (nI (36 + k))) (show nI 36 + nI k = nI (36 + k) from nI_add 36 k) ?_)
      refine lv_aload_n hx hb dX12_copyHall_73 rfl (lv_at hl 1 rfl) ?_
      refine gf hx hb hts hown hK hP 0 inT12 rfl rfl 20 (by decide) tw6_5 rfl dX12_copyHall_74 ?_
      refine lv_bipush (v := 36) hx hb dX12_copyHall_77 (by decide) ?_
      refine lv_iload_n hx hb dX12_copyHall_79 rfl (lv_at hl 2 rfl) ?_
      refine lv_imul hx hb dX12_copyHall_80 (tpi (v := 0) (by decide) ?_)
      refine lv_iload_n hx hb dX12_copyHall_81 rfl (lv_at hl 0 rfl) ?_
      refine lv_iadd hx hb dX12_copyHall_82 (tpi (v := (nI (0 + k))) (show nI 0 + nI k = nI (0 + k) from nI_add 0 k) ?_)
      refine ldZ hx hb hK hP 1 rfl (vp_in_nI (by omega) (by decide)) dX12_copyHall_83 (v := 0) (rfl) ?_
      refine stZ hx hb hK hP hD hS 1 rfl (vp_in_nI (by omega) (by decide)) dX12_copyHall_84 (f' := (fun _ => 0)) (upd_z _) (ws' := [(z, .inr (12, [.int 0, .ref zw, .ref zm, .ref zc, .ref zv, .ref zt, .int 0, .int 0, .int 0, .int 0, .int 0, .long 0, .int 0, .int 0, .int 0, .int (-1), .ref zn, .ref zh, .ref zp, .ref ze, .ref zs, .ref zg, .ref zk, .ref za, .ref zd, .ref zf, .ref zo, .ref zE, .ref zq, .int 0, .int 0, .int 0, .int 0, .int 0, .int 0, .ref zC])), (zs, .inl (t 3, 180, .inl (fun _ => 0))), (zn, .inl (t 1, 5, .inl (fun _ => 0))), (zh, .inl (t 1, 30, .inl (fun _ => 0))), (zp, .inl (t 1, 180, .inl (fun _ => 0))), (ze, .inl (t 1, 140, .inl (fun _ => 0))), (zg, .inl (t 1, 800, .inl (fun _ => 0)))]) rfl (fun H locs hP hD hS => ?_)
      refine lv_iinc (v := (nI (k + 1))) (lv' := [(3, .int (nI (k + 1))), (0, .ref z), (1, .int 0), (2, .int 1)]) hx hb dX12_copyHall_85 hl (k := 0) rfl (nI_1 k) (by decide) rfl (fun ls hl => ?_)
      refine lv_goto (tgt := 57) hx hb dX12_copyHall_88 (by decide) ?_
      exact ih (k + 1) (by omega) H locs ls (lv_sub hl [0, 1, 2, 3] rfl) (hP.sub [0, 1, 2, 3, 4, 5, 6] rfl) (hD.sub [0, 1, 2, 3, 4, 5, 6] (by decide) rfl) hS
  exact LP_11 36 0 (by omega) _ _ _ hl hP hD hS

set_option maxHeartbeats 4000000 in
set_option maxRecDepth 100000 in
theorem c_copyRow_1_0_2 (l : Launch) (G : va_G) (t : Nat → ClassId) (q0 : Nat) : Ct l G t yX12_copyRow cX12_copyRow 5 none ({ frames := 0, cells := 0, slots := 0, locals := 0 }) [.ref q0, .int 1, .int 0, .int 2] [(q0, .inl (t 1, 5, .inl (fun _ => 0)))] (QV G (fun (u : Unit) => True) (fun (u : Unit) => [(q0, .inl (t 1, 5, .inl (fun _ => 0)))])) := by
  refine ent (by decide) (Nat.le_of_ble_eq_true rfl) ?_
  intro p e s m args below meth c hx hb hr hml hts hown hlocks hin A hA hK hO hP hD hS ls hl
  have hown : s.vm.findClass RX12 = some m.cls := hown
  have hl : lv_has ls 5 [(0, .ref q0), (1, .int 1), (2, .int 0), (3, .int 2)] := hl
  have C0 : Cx p s m args c cX12_copyRow 5 RX12 G t := ⟨hx, hb, hml, hown, hts, hK, hO⟩
  refine lv_iconst (v := 0) hx hb dX12_copyRow_0 (by decide) ?_
  refine lv_istore (lv' := [(4, .int 0), (0, .ref q0), (1, .int 1), (2, .int 0), (3, .int 2)]) hx hb dX12_copyRow_1 hl (by decide) rfl (fun ls hl => ?_)
  have LP_1 : ∀ (n k : Nat), k + n = 1 → ∀ (H : Heap) (locs : List Loc) (ls : Array Slot), lv_has ls 5 [(4, .int (nI k)), (0, .ref q0), (1, .int 1), (2, .int 0), (3, .int 2)] → va_P G vwCl [(q0, .inl (t 1, 5, .inl (fun _ => 0)))] H → va_D A [(q0, .inl (t 1, 5, .inl (fun _ => 0)))] → va_S A s.heap H locs → W p l e ({ frames := 0, cells := 0, slots := 0, locals := 0 }) s m args below meth c H locs 0 0 (MQ below ((QV G (fun (u : Unit) => True) (fun (u : Unit) => [(q0, .inl (t 1, 5, .inl (fun _ => 0)))])) A) args s 0 0 A) (F0 m 3 ls []) := by
    intro n
    induction n with
    | zero =>
      intro k hk H locs ls hl hP hD hS
      obtain rfl : k = 1 := by omega
      refine lv_iload hx hb dX12_copyRow_3 (lv_at hl 0 rfl) ?_
      refine lv_iload_n hx hb dX12_copyRow_5 rfl (lv_at hl 2 rfl) ?_
      refine lv_icmp_ge (tgt := 31) hx hb dX12_copyRow_6 (by decide) (fun _ => ?_) (fun c_2 => absurd (by decide) c_2)
      refine W.widen (k := 0) (n := 0) (by decide) (by decide) ?_
      exact rtV hx hb hr hlocks hS () (trivial) (hP.sub [0] rfl) (hD.sub [0] (by decide) rfl) dX12_copyRow_31
    | succ n ih =>
      intro k hk H locs ls hl hP hD hS
      refine lv_iload hx hb dX12_copyRow_3 (lv_at hl 0 rfl) ?_
      refine lv_iload_n hx hb dX12_copyRow_5 rfl (lv_at hl 2 rfl) ?_
      refine lv_icmp_ge (tgt := 31) hx hb dX12_copyRow_6 (by decide) (fun c_3 => absurd c_3 (show ¬ nI 1 ≤ nI k from nI_ge (by omega) (by decide))) (fun _ => ?_)
      refine lv_aload_n hx hb dX12_copyRow_9 rfl (lv_at hl 1 rfl) ?_
      refine lv_iload_n hx hb dX12_copyRow_10 rfl (lv_at hl 2 rfl) ?_
      refine lv_iload_n hx hb dX12_copyRow_11 rfl (lv_at hl 4 rfl) ?_
      refine lv_imul hx hb dX12_copyRow_12 (tpi (v := 2) (by decide) ?_)
      refine lv_iload hx hb dX12_copyRow_13 (lv_at hl 0 rfl) ?_
      refine lv_iadd hx hb dX12_copyRow_15 (tpi (v := (nI (2 + k))) (show nI 2 + nI k = nI (2 + k) from nI_add 2 k) ?_)
      refine lv_aload_n hx hb dX12_copyRow_16 rfl (lv_at hl 1 rfl) ?_
      refine lv_iload_n hx hb dX12_copyRow_17 rfl (lv_at hl 2 rfl) ?_
      refine lv_iload_n hx hb dX12_copyRow_18 rfl (lv_at hl 3 rfl) ?_
      refine lv_imul hx hb dX12_copyRow_19 (tpi (v := 0) (by decide) ?_)
      refine lv_iload hx hb dX12_copyRow_20 (lv_at hl 0 rfl) ?_
      refine lv_iadd hx hb dX12_copyRow_22 (tpi (v := (nI (0 + k))) (show nI 0 + nI k = nI (0 + k) from nI_add 0 k) ?_)
      refine ldI hx hb hK hP 0 rfl (vp_in_nI (by omega) (by decide)) dX12_copyRow_23 (v := 0) (rfl) ?_
      refine stI hx hb hK hP hD hS 0 rfl (vp_in_nI (by omega) (by decide)) dX12_copyRow_24 (f' := (fun _ => 0)) (upd_z _) (ws' := [(q0, .inl (t 1, 5, .inl (fun _ => 0)))]) rfl (fun H locs hP hD hS => ?_)
      refine lv_iinc (v := (nI (k + 1))) (lv' := [(4, .int (nI (k + 1))), (0, .ref q0), (1, .int 1), (2, .int 0), (3, .int 2)]) hx hb dX12_copyRow_25 hl (k := 0) rfl (nI_1 k) (by decide) rfl (fun ls hl => ?_)
      refine lv_goto (tgt := 3) hx hb dX12_copyRow_28 (by decide) ?_
      exact ih (k + 1) (by omega) H locs ls (lv_sub hl [0, 1, 2, 3, 4] rfl) (hP.sub [0] rfl) (hD.sub [0] (by decide) rfl) hS
  exact LP_1 1 0 (by omega) _ _ _ hl hP hD hS

set_option maxHeartbeats 4000000 in
set_option maxRecDepth 100000 in
theorem c_copyRow_6_0_2 (l : Launch) (G : va_G) (t : Nat → ClassId) (q0 : Nat) : Ct l G t yX12_copyRow cX12_copyRow 5 none ({ frames := 0, cells := 0, slots := 0, locals := 0 }) [.ref q0, .int 6, .int 0, .int 2] [(q0, .inl (t 1, 30, .inl (fun _ => 0)))] (QV G (fun (u : Unit) => True) (fun (u : Unit) => [(q0, .inl (t 1, 30, .inl (fun _ => 0)))])) := by
  refine ent (by decide) (Nat.le_of_ble_eq_true rfl) ?_
  intro p e s m args below meth c hx hb hr hml hts hown hlocks hin A hA hK hO hP hD hS ls hl
  have hown : s.vm.findClass RX12 = some m.cls := hown
  have hl : lv_has ls 5 [(0, .ref q0), (1, .int 6), (2, .int 0), (3, .int 2)] := hl
  have C0 : Cx p s m args c cX12_copyRow 5 RX12 G t := ⟨hx, hb, hml, hown, hts, hK, hO⟩
  refine lv_iconst (v := 0) hx hb dX12_copyRow_0 (by decide) ?_
  refine lv_istore (lv' := [(4, .int 0), (0, .ref q0), (1, .int 6), (2, .int 0), (3, .int 2)]) hx hb dX12_copyRow_1 hl (by decide) rfl (fun ls hl => ?_)
  have LP_1 : ∀ (n k : Nat), k + n = 6 → ∀ (H : Heap) (locs : List Loc) (ls : Array Slot), lv_has ls 5 [(4, .int (nI k)), (0, .ref q0), (1, .int 6), (2, .int 0), (3, .int 2)] → va_P G vwCl [(q0, .inl (t 1, 30, .inl (fun _ => 0)))] H → va_D A [(q0, .inl (t 1, 30, .inl (fun _ => 0)))] → va_S A s.heap H locs → W p l e ({ frames := 0, cells := 0, slots := 0, locals := 0 }) s m args below meth c H locs 0 0 (MQ below ((QV G (fun (u : Unit) => True) (fun (u : Unit) => [(q0, .inl (t 1, 30, .inl (fun _ => 0)))])) A) args s 0 0 A) (F0 m 3 ls []) := by
    intro n
    induction n with
    | zero =>
      intro k hk H locs ls hl hP hD hS
      obtain rfl : k = 6 := by omega
      refine lv_iload hx hb dX12_copyRow_3 (lv_at hl 0 rfl) ?_
      refine lv_iload_n hx hb dX12_copyRow_5 rfl (lv_at hl 2 rfl) ?_
      refine lv_icmp_ge (tgt := 31) hx hb dX12_copyRow_6 (by decide) (fun _ => ?_) (fun c_2 => absurd (by decide) c_2)
      refine W.widen (k := 0) (n := 0) (by decide) (by decide) ?_
      exact rtV hx hb hr hlocks hS () (trivial) (hP.sub [0] rfl) (hD.sub [0] (by decide) rfl) dX12_copyRow_31
    | succ n ih =>
      intro k hk H locs ls hl hP hD hS
      refine lv_iload hx hb dX12_copyRow_3 (lv_at hl 0 rfl) ?_
      refine lv_iload_n hx hb dX12_copyRow_5 rfl (lv_at hl 2 rfl) ?_
      refine lv_icmp_ge (tgt := 31) hx hb dX12_copyRow_6 (by decide) (fun c_3 => absurd c_3 (show ¬ nI 6 ≤ nI k from nI_ge (by omega) (by decide))) (fun _ => ?_)
      refine lv_aload_n hx hb dX12_copyRow_9 rfl (lv_at hl 1 rfl) ?_
      refine lv_iload_n hx hb dX12_copyRow_10 rfl (lv_at hl 2 rfl) ?_
      refine lv_iload_n hx hb dX12_copyRow_11 rfl (lv_at hl 4 rfl) ?_
      refine lv_imul hx hb dX12_copyRow_12 (tpi (v := 12) (by decide) ?_)
      refine lv_iload hx hb dX12_copyRow_13 (lv_at hl 0 rfl) ?_
      refine lv_iadd hx hb dX12_copyRow_15 (tpi (v := (nI (12 + k))) (show nI 12 + nI k = nI (12 + k) from nI_add 12 k) ?_)
      refine lv_aload_n hx hb dX12_copyRow_16 rfl (lv_at hl 1 rfl) ?_
      refine lv_iload_n hx hb dX12_copyRow_17 rfl (lv_at hl 2 rfl) ?_
      refine lv_iload_n hx hb dX12_copyRow_18 rfl (lv_at hl 3 rfl) ?_
      refine lv_imul hx hb dX12_copyRow_19 (tpi (v := 0) (by decide) ?_)
      refine lv_iload hx hb dX12_copyRow_20 (lv_at hl 0 rfl) ?_
      refine lv_iadd hx hb dX12_copyRow_22 (tpi (v := (nI (0 + k))) (show nI 0 + nI k = nI (0 + k) from nI_add 0 k) ?_)
      refine ldI hx hb hK hP 0 rfl (vp_in_nI (by omega) (by decide)) dX12_copyRow_23 (v := 0) (rfl) ?_
      refine stI hx hb hK hP hD hS 0 rfl (vp_in_nI (by omega) (by decide)) dX12_copyRow_24 (f' := (fun _ => 0)) (upd_z _) (ws' := [(q0, .inl (t 1, 30, .inl (fun _ => 0)))]) rfl (fun H locs hP hD hS => ?_)
      refine lv_iinc (v := (nI (k + 1))) (lv' := [(4, .int (nI (k + 1))), (0, .ref q0), (1, .int 6), (2, .int 0), (3, .int 2)]) hx hb dX12_copyRow_25 hl (k := 0) rfl (nI_1 k) (by decide) rfl (fun ls hl => ?_)
      refine lv_goto (tgt := 3) hx hb dX12_copyRow_28 (by decide) ?_
      exact ih (k + 1) (by omega) H locs ls (lv_sub hl [0, 1, 2, 3, 4] rfl) (hP.sub [0] rfl) (hD.sub [0] (by decide) rfl) hS
  exact LP_1 6 0 (by omega) _ _ _ hl hP hD hS

set_option maxHeartbeats 4000000 in
set_option maxRecDepth 100000 in
theorem c_copyRow_36_0_2 (l : Launch) (G : va_G) (t : Nat → ClassId) (q0 : Nat) : Ct l G t yX12_copyRow cX12_copyRow 5 none ({ frames := 0, cells := 0, slots := 0, locals := 0 }) [.ref q0, .int 36, .int 0, .int 2] [(q0, .inl (t 1, 180, .inl (fun _ => 0)))] (QV G (fun (u : Unit) => True) (fun (u : Unit) => [(q0, .inl (t 1, 180, .inl (fun _ => 0)))])) := by
  refine ent (by decide) (Nat.le_of_ble_eq_true rfl) ?_
  intro p e s m args below meth c hx hb hr hml hts hown hlocks hin A hA hK hO hP hD hS ls hl
  have hown : s.vm.findClass RX12 = some m.cls := hown
  have hl : lv_has ls 5 [(0, .ref q0), (1, .int 36), (2, .int 0), (3, .int 2)] := hl
  have C0 : Cx p s m args c cX12_copyRow 5 RX12 G t := ⟨hx, hb, hml, hown, hts, hK, hO⟩
  refine lv_iconst (v := 0) hx hb dX12_copyRow_0 (by decide) ?_
  refine lv_istore (lv' := [(4, .int 0), (0, .ref q0), (1, .int 36), (2, .int 0), (3, .int 2)]) hx hb dX12_copyRow_1 hl (by decide) rfl (fun ls hl => ?_)
  have LP_1 : ∀ (n k : Nat), k + n = 36 → ∀ (H : Heap) (locs : List Loc) (ls : Array Slot), lv_has ls 5 [(4, .int (nI k)), (0, .ref q0), (1, .int 36), (2, .int 0), (3, .int 2)] → va_P G vwCl [(q0, .inl (t 1, 180, .inl (fun _ => 0)))] H → va_D A [(q0, .inl (t 1, 180, .inl (fun _ => 0)))] → va_S A s.heap H locs → W p l e ({ frames := 0, cells := 0, slots := 0, locals := 0 }) s m args below meth c H locs 0 0 (MQ below ((QV G (fun (u : Unit) => True) (fun (u : Unit) => [(q0, .inl (t 1, 180, .inl (fun _ => 0)))])) A) args s 0 0 A) (F0 m 3 ls []) := by
    intro n
    induction n with
    | zero =>
      intro k hk H locs ls hl hP hD hS
      obtain rfl : k = 36 := by omega
      refine lv_iload hx hb dX12_copyRow_3 (lv_at hl 0 rfl) ?_
      refine lv_iload_n hx hb dX12_copyRow_5 rfl (lv_at hl 2 rfl) ?_
      refine lv_icmp_ge (tgt := 31) hx hb dX12_copyRow_6 (by decide) (fun _ => ?_) (fun c_2 => absurd (by decide) c_2)
      refine W.widen (k := 0) (n := 0) (by decide) (by decide) ?_
      exact rtV hx hb hr hlocks hS () (trivial) (hP.sub [0] rfl) (hD.sub [0] (by decide) rfl) dX12_copyRow_31
    | succ n ih =>
      intro k hk H locs ls hl hP hD hS
      refine lv_iload hx hb dX12_copyRow_3 (lv_at hl 0 rfl) ?_
      refine lv_iload_n hx hb dX12_copyRow_5 rfl (lv_at hl 2 rfl) ?_
      refine lv_icmp_ge (tgt := 31) hx hb dX12_copyRow_6 (by decide) (fun c_3 => absurd c_3 (show ¬ nI 36 ≤ nI k from nI_ge (by omega) (by decide))) (fun _ => ?_)
      refine lv_aload_n hx hb dX12_copyRow_9 rfl (lv_at hl 1 rfl) ?_
      refine lv_iload_n hx hb dX12_copyRow_10 rfl (lv_at hl 2 rfl) ?_
      refine lv_iload_n hx hb dX12_copyRow_11 rfl (lv_at hl 4 rfl) ?_
      refine lv_imul hx hb dX12_copyRow_12 (tpi (v := 72) (by decide) ?_)
      refine lv_iload hx hb dX12_copyRow_13 (lv_at hl 0 rfl) ?_
      refine lv_iadd hx hb dX12_copyRow_15 (tpi (v := (nI (72 + k))) (show nI 72 + nI k = nI (72 + k) from nI_add 72 k) ?_)
      refine lv_aload_n hx hb dX12_copyRow_16 rfl (lv_at hl 1 rfl) ?_
      refine lv_iload_n hx hb dX12_copyRow_17 rfl (lv_at hl 2 rfl) ?_
      refine lv_iload_n hx hb dX12_copyRow_18 rfl (lv_at hl 3 rfl) ?_
      refine lv_imul hx hb dX12_copyRow_19 (tpi (v := 0) (by decide) ?_)
      refine lv_iload hx hb dX12_copyRow_20 (lv_at hl 0 rfl) ?_
      refine lv_iadd hx hb dX12_copyRow_22 (tpi (v := (nI (0 + k))) (show nI 0 + nI k = nI (0 + k) from nI_add 0 k) ?_)
      refine ldI hx hb hK hP 0 rfl (vp_in_nI (by omega) (by decide)) dX12_copyRow_23 (v := 0) (rfl) ?_
      refine stI hx hb hK hP hD hS 0 rfl (vp_in_nI (by omega) (by decide)) dX12_copyRow_24 (f' := (fun _ => 0)) (upd_z _) (ws' := [(q0, .inl (t 1, 180, .inl (fun _ => 0)))]) rfl (fun H locs hP hD hS => ?_)
      refine lv_iinc (v := (nI (k + 1))) (lv' := [(4, .int (nI (k + 1))), (0, .ref q0), (1, .int 36), (2, .int 0), (3, .int 2)]) hx hb dX12_copyRow_25 hl (k := 0) rfl (nI_1 k) (by decide) rfl (fun ls hl => ?_)
      refine lv_goto (tgt := 3) hx hb dX12_copyRow_28 (by decide) ?_
      exact ih (k + 1) (by omega) H locs ls (lv_sub hl [0, 1, 2, 3, 4] rfl) (hP.sub [0] rfl) (hD.sub [0] (by decide) rfl) hS
  exact LP_1 36 0 (by omega) _ _ _ hl hP hD hS

set_option maxHeartbeats 4000000 in
set_option maxRecDepth 100000 in
theorem c_copyRow_28_0_2 (l : Launch) (G : va_G) (t : Nat → ClassId) (q0 : Nat) : Ct l G t yX12_copyRow cX12_copyRow 5 none ({ frames := 0, cells := 0, slots := 0, locals := 0 }) [.ref q0, .int 28, .int 0, .int 2] [(q0, .inl (t 1, 140, .inl (fun _ => 0)))] (QV G (fun (u : Unit) => True) (fun (u : Unit) => [(q0, .inl (t 1, 140, .inl (fun _ => 0)))])) := by
  refine ent (by decide) (Nat.le_of_ble_eq_true rfl) ?_
  intro p e s m args below meth c hx hb hr hml hts hown hlocks hin A hA hK hO hP hD hS ls hl
  have hown : s.vm.findClass RX12 = some m.cls := hown
  have hl : lv_has ls 5 [(0, .ref q0), (1, .int 28), (2, .int 0), (3, .int 2)] := hl
  have C0 : Cx p s m args c cX12_copyRow 5 RX12 G t := ⟨hx, hb, hml, hown, hts, hK, hO⟩
  refine lv_iconst (v := 0) hx hb dX12_copyRow_0 (by decide) ?_
  refine lv_istore (lv' := [(4, .int 0), (0, .ref q0), (1, .int 28), (2, .int 0), (3, .int 2)]) hx hb dX12_copyRow_1 hl (by decide) rfl (fun ls hl => ?_)
  have LP_1 : ∀ (n k : Nat), k + n = 28 → ∀ (H : Heap) (locs : List Loc) (ls : Array Slot), lv_has ls 5 [(4, .int (nI k)), (0, .ref q0), (1, .int 28), (2, .int 0), (3, .int 2)] → va_P G vwCl [(q0, .inl (t 1, 140, .inl (fun _ => 0)))] H → va_D A [(q0, .inl (t 1, 140, .inl (fun _ => 0)))] → va_S A s.heap H locs → W p l e ({ frames := 0, cells := 0, slots := 0, locals := 0 }) s m args below meth c H locs 0 0 (MQ below ((QV G (fun (u : Unit) => True) (fun (u : Unit) => [(q0, .inl (t 1, 140, .inl (fun _ => 0)))])) A) args s 0 0 A) (F0 m 3 ls []) := by
    intro n
    induction n with
    | zero =>
      intro k hk H locs ls hl hP hD hS
      obtain rfl : k = 28 := by omega
      refine lv_iload hx hb dX12_copyRow_3 (lv_at hl 0 rfl) ?_
      refine lv_iload_n hx hb dX12_copyRow_5 rfl (lv_at hl 2 rfl) ?_
      refine lv_icmp_ge (tgt := 31) hx hb dX12_copyRow_6 (by decide) (fun _ => ?_) (fun c_2 => absurd (by decide) c_2)
      refine W.widen (k := 0) (n := 0) (by decide) (by decide) ?_
      exact rtV hx hb hr hlocks hS () (trivial) (hP.sub [0] rfl) (hD.sub [0] (by decide) rfl) dX12_copyRow_31
    | succ n ih =>
      intro k hk H locs ls hl hP hD hS
      refine lv_iload hx hb dX12_copyRow_3 (lv_at hl 0 rfl) ?_
      refine lv_iload_n hx hb dX12_copyRow_5 rfl (lv_at hl 2 rfl) ?_
      refine lv_icmp_ge (tgt := 31) hx hb dX12_copyRow_6 (by decide) (fun c_3 => absurd c_3 (show ¬ nI 28 ≤ nI k from nI_ge (by omega) (by decide))) (fun _ => ?_)
      refine lv_aload_n hx hb dX12_copyRow_9 rfl (lv_at hl 1 rfl) ?_
      refine lv_iload_n hx hb dX12_copyRow_10 rfl (lv_at hl 2 rfl) ?_
      refine lv_iload_n hx hb dX12_copyRow_11 rfl (lv_at hl 4 rfl) ?_
      refine lv_imul hx hb dX12_copyRow_12 (tpi (v := 56) (by decide) ?_)
      refine lv_iload hx hb dX12_copyRow_13 (lv_at hl 0 rfl) ?_
      refine lv_iadd hx hb dX12_copyRow_15 (tpi (v := (nI (56 + k))) (show nI 56 + nI k = nI (56 + k) from nI_add 56 k) ?_)
      refine lv_aload_n hx hb dX12_copyRow_16 rfl (lv_at hl 1 rfl) ?_
      refine lv_iload_n hx hb dX12_copyRow_17 rfl (lv_at hl 2 rfl) ?_
      refine lv_iload_n hx hb dX12_copyRow_18 rfl (lv_at hl 3 rfl) ?_
      refine lv_imul hx hb dX12_copyRow_19 (tpi (v := 0) (by decide) ?_)
      refine lv_iload hx hb dX12_copyRow_20 (lv_at hl 0 rfl) ?_
      refine lv_iadd hx hb dX12_copyRow_22 (tpi (v := (nI (0 + k))) (show nI 0 + nI k = nI (0 + k) from nI_add 0 k) ?_)
      refine ldI hx hb hK hP 0 rfl (vp_in_nI (by omega) (by decide)) dX12_copyRow_23 (v := 0) (rfl) ?_
      refine stI hx hb hK hP hD hS 0 rfl (vp_in_nI (by omega) (by decide)) dX12_copyRow_24 (f' := (fun _ => 0)) (upd_z _) (ws' := [(q0, .inl (t 1, 140, .inl (fun _ => 0)))]) rfl (fun H locs hP hD hS => ?_)
      refine lv_iinc (v := (nI (k + 1))) (lv' := [(4, .int (nI (k + 1))), (0, .ref q0), (1, .int 28), (2, .int 0), (3, .int 2)]) hx hb dX12_copyRow_25 hl (k := 0) rfl (nI_1 k) (by decide) rfl (fun ls hl => ?_)
      refine lv_goto (tgt := 3) hx hb dX12_copyRow_28 (by decide) ?_
      exact ih (k + 1) (by omega) H locs ls (lv_sub hl [0, 1, 2, 3, 4] rfl) (hP.sub [0] rfl) (hD.sub [0] (by decide) rfl) hS
  exact LP_1 28 0 (by omega) _ _ _ hl hP hD hS

set_option maxHeartbeats 4000000 in
set_option maxRecDepth 100000 in
theorem c_copyRow_160_0_2 (l : Launch) (G : va_G) (t : Nat → ClassId) (q0 : Nat) : Ct l G t yX12_copyRow cX12_copyRow 5 none ({ frames := 0, cells := 0, slots := 0, locals := 0 }) [.ref q0, .int 160, .int 0, .int 2] [(q0, .inl (t 1, 800, .inl (fun _ => 0)))] (QV G (fun (u : Unit) => True) (fun (u : Unit) => [(q0, .inl (t 1, 800, .inl (fun _ => 0)))])) := by
  refine ent (by decide) (Nat.le_of_ble_eq_true rfl) ?_
  intro p e s m args below meth c hx hb hr hml hts hown hlocks hin A hA hK hO hP hD hS ls hl
  have hown : s.vm.findClass RX12 = some m.cls := hown
  have hl : lv_has ls 5 [(0, .ref q0), (1, .int 160), (2, .int 0), (3, .int 2)] := hl
  have C0 : Cx p s m args c cX12_copyRow 5 RX12 G t := ⟨hx, hb, hml, hown, hts, hK, hO⟩
  refine lv_iconst (v := 0) hx hb dX12_copyRow_0 (by decide) ?_
  refine lv_istore (lv' := [(4, .int 0), (0, .ref q0), (1, .int 160), (2, .int 0), (3, .int 2)]) hx hb dX12_copyRow_1 hl (by decide) rfl (fun ls hl => ?_)
  have LP_1 : ∀ (n k : Nat), k + n = 160 → ∀ (H : Heap) (locs : List Loc) (ls : Array Slot), lv_has ls 5 [(4, .int (nI k)), (0, .ref q0), (1, .int 160), (2, .int 0), (3, .int 2)] → va_P G vwCl [(q0, .inl (t 1, 800, .inl (fun _ => 0)))] H → va_D A [(q0, .inl (t 1, 800, .inl (fun _ => 0)))] → va_S A s.heap H locs → W p l e ({ frames := 0, cells := 0, slots := 0, locals := 0 }) s m args below meth c H locs 0 0 (MQ below ((QV G (fun (u : Unit) => True) (fun (u : Unit) => [(q0, .inl (t 1, 800, .inl (fun _ => 0)))])) A) args s 0 0 A) (F0 m 3 ls []) := by
    intro n
    induction n with
    | zero =>
      intro k hk H locs ls hl hP hD hS
      obtain rfl : k = 160 := by omega
      refine lv_iload hx hb dX12_copyRow_3 (lv_at hl 0 rfl) ?_
      refine lv_iload_n hx hb dX12_copyRow_5 rfl (lv_at hl 2 rfl) ?_
      refine lv_icmp_ge (tgt := 31) hx hb dX12_copyRow_6 (by decide) (fun _ => ?_) (fun c_2 => absurd (by decide) c_2)
      refine W.widen (k := 0) (n := 0) (by decide) (by decide) ?_
      exact rtV hx hb hr hlocks hS () (trivial) (hP.sub [0] rfl) (hD.sub [0] (by decide) rfl) dX12_copyRow_31
    | succ n ih =>
      intro k hk H locs ls hl hP hD hS
      refine lv_iload hx hb dX12_copyRow_3 (lv_at hl 0 rfl) ?_
      refine lv_iload_n hx hb dX12_copyRow_5 rfl (lv_at hl 2 rfl) ?_
      refine lv_icmp_ge (tgt := 31) hx hb dX12_copyRow_6 (by decide) (fun c_3 => absurd c_3 (show ¬ nI 160 ≤ nI k from nI_ge (by omega) (by decide))) (fun _ => ?_)
      refine lv_aload_n hx hb dX12_copyRow_9 rfl (lv_at hl 1 rfl) ?_
      refine lv_iload_n hx hb dX12_copyRow_10 rfl (lv_at hl 2 rfl) ?_
      refine lv_iload_n hx hb dX12_copyRow_11 rfl (lv_at hl 4 rfl) ?_
      refine lv_imul hx hb dX12_copyRow_12 (tpi (v := 320) (by decide) ?_)
      refine lv_iload hx hb dX12_copyRow_13 (lv_at hl 0 rfl) ?_
      refine lv_iadd hx hb dX12_copyRow_15 (tpi (v := (nI (320 + k))) (show nI 320 + nI k = nI (320 + k) from nI_add 320 k) ?_)
      refine lv_aload_n hx hb dX12_copyRow_16 rfl (lv_at hl 1 rfl) ?_
      refine lv_iload_n hx hb dX12_copyRow_17 rfl (lv_at hl 2 rfl) ?_
      refine lv_iload_n hx hb dX12_copyRow_18 rfl (lv_at hl 3 rfl) ?_
      refine lv_imul hx hb dX12_copyRow_19 (tpi (v := 0) (by decide) ?_)
      refine lv_iload hx hb dX12_copyRow_20 (lv_at hl 0 rfl) ?_
      refine lv_iadd hx hb dX12_copyRow_22 (tpi (v := (nI (0 + k))) (show nI 0 + nI k = nI (0 + k) from nI_add 0 k) ?_)
      refine ldI hx hb hK hP 0 rfl (vp_in_nI (by omega) (by decide)) dX12_copyRow_23 (v := 0) (rfl) ?_
      refine stI hx hb hK hP hD hS 0 rfl (vp_in_nI (by omega) (by decide)) dX12_copyRow_24 (f' := (fun _ => 0)) (upd_z _) (ws' := [(q0, .inl (t 1, 800, .inl (fun _ => 0)))]) rfl (fun H locs hP hD hS => ?_)
      refine lv_iinc (v := (nI (k + 1))) (lv' := [(4, .int (nI (k + 1))), (0, .ref q0), (1, .int 160), (2, .int 0), (3, .int 2)]) hx hb dX12_copyRow_25 hl (k := 0) rfl (nI_1 k) (by decide) rfl (fun ls hl => ?_)
      refine lv_goto (tgt := 3) hx hb dX12_copyRow_28 (by decide) ?_
      exact ih (k + 1) (by omega) H locs ls (lv_sub hl [0, 1, 2, 3, 4] rfl) (hP.sub [0] rfl) (hD.sub [0] (by decide) rfl) hS
  exact LP_1 160 0 (by omega) _ _ _ hl hP hD hS

set_option maxHeartbeats 4000000 in
set_option maxRecDepth 100000 in
theorem c_copyHall_0_2 (l : Launch) (G : va_G) (t : Nat → ClassId) (z : Nat) (zw : Nat) (zm : Nat) (zc : Nat) (zv : Nat) (zt : Nat) (zn : Nat) (zh : Nat) (zp : Nat) (ze : Nat) (zs : Nat) (zg : Nat) (zk : Nat) (za : Nat) (zd : Nat) (zf : Nat) (zo : Nat) (zE : Nat) (zq : Nat) (zC : Nat) : Ct l G t yX12_copyHall cX12_copyHall 4 none ({ frames := 1, cells := 0, slots := 0, locals := 24 }) [.ref z, .int 0, .int 2] [(z, .inr (12, [.int 0, .ref zw, .ref zm, .ref zc, .ref zv, .ref zt, .int 0, .int 0, .int 0, .int 0, .int 0, .long 0, .int 0, .int 0, .int 0, .int (-1), .ref zn, .ref zh, .ref zp, .ref ze, .ref zs, .ref zg, .ref zk, .ref za, .ref zd, .ref zf, .ref zo, .ref zE, .ref zq, .int 0, .int 0, .int 0, .int 0, .int 0, .int 0, .ref zC])), (zn, .inl (t 1, 5, .inl (fun _ => 0))), (zh, .inl (t 1, 30, .inl (fun _ => 0))), (zp, .inl (t 1, 180, .inl (fun _ => 0))), (ze, .inl (t 1, 140, .inl (fun _ => 0))), (zg, .inl (t 1, 800, .inl (fun _ => 0))), (zs, .inl (t 3, 180, .inl (fun _ => 0)))] (QV G (fun (u : Unit) => True) (fun (u : Unit) => [(z, .inr (12, [.int 0, .ref zw, .ref zm, .ref zc, .ref zv, .ref zt, .int 0, .int 0, .int 0, .int 0, .int 0, .long 0, .int 0, .int 0, .int 0, .int (-1), .ref zn, .ref zh, .ref zp, .ref ze, .ref zs, .ref zg, .ref zk, .ref za, .ref zd, .ref zf, .ref zo, .ref zE, .ref zq, .int 0, .int 0, .int 0, .int 0, .int 0, .int 0, .ref zC])), (zn, .inl (t 1, 5, .inl (fun _ => 0))), (zh, .inl (t 1, 30, .inl (fun _ => 0))), (zp, .inl (t 1, 180, .inl (fun _ => 0))), (ze, .inl (t 1, 140, .inl (fun _ => 0))), (zg, .inl (t 1, 800, .inl (fun _ => 0))), (zs, .inl (t 3, 180, .inl (fun _ => 0)))])) := by
  refine ent (by decide) (Nat.le_of_ble_eq_true rfl) ?_
  intro p e s m args below meth c hx hb hr hml hts hown hlocks hin A hA hK hO hP hD hS ls hl
  have hown : s.vm.findClass RX12 = some m.cls := hown
  have hl : lv_has ls 4 [(0, .ref z), (1, .int 0), (2, .int 2)] := hl
  have C0 : Cx p s m args c cX12_copyHall 4 RX12 G t := ⟨hx, hb, hml, hown, hts, hK, hO⟩
  refine lv_aload_n hx hb dX12_copyHall_0 rfl (lv_at hl 0 rfl) ?_
  refine gf hx hb hts hown hK hP 0 inT12 rfl rfl 16 (by decide) tw6_1 rfl dX12_copyHall_1 ?_
  refine lv_iconst (v := 1) hx hb dX12_copyHall_4 (by decide) ?_
  refine lv_iload_n hx hb dX12_copyHall_5 rfl (lv_at hl 1 rfl) ?_
  refine lv_iload_n hx hb dX12_copyHall_6 rfl (lv_at hl 2 rfl) ?_
  refine goV (rnS C0 (c_copyRow_1_0_2 l G t zn) lkX12_230 ⟨by decide, by decide⟩ (hP.sub (ws' := [(zn, .inl (t 1, 5, .inl (fun _ => 0)))]) [1] rfl) (hD.sub (ws' := [(zn, .inl (t 1, 5, .inl (fun _ => 0)))]) [1] (by decide) rfl) rfl hl.1 (rest := []) rfl (Nat.le_of_ble_eq_true rfl) dX12_copyHall_7 ⟨by decide, by decide⟩) hP hD hS hA [1] [0, 2, 3, 4, 5, 6] (wr := [(z, .inr (12, [.int 0, .ref zw, .ref zm, .ref zc, .ref zv, .ref zt, .int 0, .int 0, .int 0, .int 0, .int 0, .long 0, .int 0, .int 0, .int 0, .int (-1), .ref zn, .ref zh, .ref zp, .ref ze, .ref zs, .ref zg, .ref zk, .ref za, .ref zd, .ref zf, .ref zo, .ref zE, .ref zq, .int 0, .int 0, .int 0, .int 0, .int 0, .int 0, .ref zC])), (zh, .inl (t 1, 30, .inl (fun _ => 0))), (zp, .inl (t 1, 180, .inl (fun _ => 0))), (ze, .inl (t 1, 140, .inl (fun _ => 0))), (zg, .inl (t 1, 800, .inl (fun _ => 0))), (zs, .inl (t 3, 180, .inl (fun _ => 0)))]) rfl rfl (by decide) (by decide) (fun u H locs h_2 hP hD hS => ?_)
  have hP : va_P G vwCl [(z, .inr (12, [.int 0, .ref zw, .ref zm, .ref zc, .ref zv, .ref zt, .int 0, .int 0, .int 0, .int 0, .int 0, .long 0, .int 0, .int 0, .int 0, .int (-1), .ref zn, .ref zh, .ref zp, .ref ze, .ref zs, .ref zg, .ref zk, .ref za, .ref zd, .ref zf, .ref zo, .ref zE, .ref zq, .int 0, .int 0, .int 0, .int 0, .int 0, .int 0, .ref zC])), (zh, .inl (t 1, 30, .inl (fun _ => 0))), (zp, .inl (t 1, 180, .inl (fun _ => 0))), (ze, .inl (t 1, 140, .inl (fun _ => 0))), (zg, .inl (t 1, 800, .inl (fun _ => 0))), (zs, .inl (t 3, 180, .inl (fun _ => 0))), (zn, .inl (t 1, 5, .inl (fun _ => 0)))] H := hP
  have hD : va_D A [(z, .inr (12, [.int 0, .ref zw, .ref zm, .ref zc, .ref zv, .ref zt, .int 0, .int 0, .int 0, .int 0, .int 0, .long 0, .int 0, .int 0, .int 0, .int (-1), .ref zn, .ref zh, .ref zp, .ref ze, .ref zs, .ref zg, .ref zk, .ref za, .ref zd, .ref zf, .ref zo, .ref zE, .ref zq, .int 0, .int 0, .int 0, .int 0, .int 0, .int 0, .ref zC])), (zh, .inl (t 1, 30, .inl (fun _ => 0))), (zp, .inl (t 1, 180, .inl (fun _ => 0))), (ze, .inl (t 1, 140, .inl (fun _ => 0))), (zg, .inl (t 1, 800, .inl (fun _ => 0))), (zs, .inl (t 3, 180, .inl (fun _ => 0))), (zn, .inl (t 1, 5, .inl (fun _ => 0)))] := hD
  refine W.widen (k := 0) (n := 0) (Nat.le_of_ble_eq_true rfl) (Nat.le_of_ble_eq_true rfl) ?_
  refine lv_aload_n hx hb dX12_copyHall_10 rfl (lv_at hl 0 rfl) ?_
  refine gf hx hb hts hown hK hP 0 inT12 rfl rfl 17 (by decide) tw6_2 rfl dX12_copyHall_11 ?_
  refine lv_bipush (v := 6) hx hb dX12_copyHall_14 (by decide) ?_
  refine lv_iload_n hx hb dX12_copyHall_16 rfl (lv_at hl 1 rfl) ?_
  refine lv_iload_n hx hb dX12_copyHall_17 rfl (lv_at hl 2 rfl) ?_
  refine goV (rnS C0 (c_copyRow_6_0_2 l G t zh) lkX12_230 ⟨by decide, by decide⟩ (hP.sub (ws' := [(zh, .inl (t 1, 30, .inl (fun _ => 0)))]) [1] rfl) (hD.sub (ws' := [(zh, .inl (t 1, 30, .inl (fun _ => 0)))]) [1] (by decide) rfl) rfl hl.1 (rest := []) rfl (Nat.le_of_ble_eq_true rfl) dX12_copyHall_18 ⟨by decide, by decide⟩) hP hD hS hA [1] [0, 2, 3, 4, 5, 6] (wr := [(z, .inr (12, [.int 0, .ref zw, .ref zm, .ref zc, .ref zv, .ref zt, .int 0, .int 0, .int 0, .int 0, .int 0, .long 0, .int 0, .int 0, .int 0, .int (-1), .ref zn, .ref zh, .ref zp, .ref ze, .ref zs, .ref zg, .ref zk, .ref za, .ref zd, .ref zf, .ref zo, .ref zE, .ref zq, .int 0, .int 0, .int 0, .int 0, .int 0, .int 0, .ref zC])), (zp, .inl (t 1, 180, .inl (fun _ => 0))), (ze, .inl (t 1, 140, .inl (fun _ => 0))), (zg, .inl (t 1, 800, .inl (fun _ => 0))), (zs, .inl (t 3, 180, .inl (fun _ => 0))), (zn, .inl (t 1, 5, .inl (fun _ => 0)))]) rfl rfl (by decide) (by decide) (fun u H locs h_4 hP hD hS => ?_)
  have hP : va_P G vwCl [(z, .inr (12, [.int 0, .ref zw, .ref zm, .ref zc, .ref zv, .ref zt, .int 0, .int 0, .int 0, .int 0, .int 0, .long 0, .int 0, .int 0, .int 0, .int (-1), .ref zn, .ref zh, .ref zp, .ref ze, .ref zs, .ref zg, .ref zk, .ref za, .ref zd, .ref zf, .ref zo, .ref zE, .ref zq, .int 0, .int 0, .int 0, .int 0, .int 0, .int 0, .ref zC])), (zp, .inl (t 1, 180, .inl (fun _ => 0))), (ze, .inl (t 1, 140, .inl (fun _ => 0))), (zg, .inl (t 1, 800, .inl (fun _ => 0))), (zs, .inl (t 3, 180, .inl (fun _ => 0))), (zn, .inl (t 1, 5, .inl (fun _ => 0))), (zh, .inl (t 1, 30, .inl (fun _ => 0)))] H := hP
  have hD : va_D A [(z, .inr (12, [.int 0, .ref zw, .ref zm, .ref zc, .ref zv, .ref zt, .int 0, .int 0, .int 0, .int 0, .int 0, .long 0, .int 0, .int 0, .int 0, .int (-1), .ref zn, .ref zh, .ref zp, .ref ze, .ref zs, .ref zg, .ref zk, .ref za, .ref zd, .ref zf, .ref zo, .ref zE, .ref zq, .int 0, .int 0, .int 0, .int 0, .int 0, .int 0, .ref zC])), (zp, .inl (t 1, 180, .inl (fun _ => 0))), (ze, .inl (t 1, 140, .inl (fun _ => 0))), (zg, .inl (t 1, 800, .inl (fun _ => 0))), (zs, .inl (t 3, 180, .inl (fun _ => 0))), (zn, .inl (t 1, 5, .inl (fun _ => 0))), (zh, .inl (t 1, 30, .inl (fun _ => 0)))] := hD
  refine W.widen (k := 0) (n := 0) (Nat.le_of_ble_eq_true rfl) (Nat.le_of_ble_eq_true rfl) ?_
  refine lv_aload_n hx hb dX12_copyHall_21 rfl (lv_at hl 0 rfl) ?_
  refine gf hx hb hts hown hK hP 0 inT12 rfl rfl 18 (by decide) tw6_3 rfl dX12_copyHall_22 ?_
  refine lv_bipush (v := 36) hx hb dX12_copyHall_25 (by decide) ?_
  refine lv_iload_n hx hb dX12_copyHall_27 rfl (lv_at hl 1 rfl) ?_
  refine lv_iload_n hx hb dX12_copyHall_28 rfl (lv_at hl 2 rfl) ?_
  refine goV (rnS C0 (c_copyRow_36_0_2 l G t zp) lkX12_230 ⟨by decide, by decide⟩ (hP.sub (ws' := [(zp, .inl (t 1, 180, .inl (fun _ => 0)))]) [1] rfl) (hD.sub (ws' := [(zp, .inl (t 1, 180, .inl (fun _ => 0)))]) [1] (by decide) rfl) rfl hl.1 (rest := []) rfl (Nat.le_of_ble_eq_true rfl) dX12_copyHall_29 ⟨by decide, by decide⟩) hP hD hS hA [1] [0, 2, 3, 4, 5, 6] (wr := [(z, .inr (12, [.int 0, .ref zw, .ref zm, .ref zc, .ref zv, .ref zt, .int 0, .int 0, .int 0, .int 0, .int 0, .long 0, .int 0, .int 0, .int 0, .int (-1), .ref zn, .ref zh, .ref zp, .ref ze, .ref zs, .ref zg, .ref zk, .ref za, .ref zd, .ref zf, .ref zo, .ref zE, .ref zq, .int 0, .int 0, .int 0, .int 0, .int 0, .int 0, .ref zC])), (ze, .inl (t 1, 140, .inl (fun _ => 0))), (zg, .inl (t 1, 800, .inl (fun _ => 0))), (zs, .inl (t 3, 180, .inl (fun _ => 0))), (zn, .inl (t 1, 5, .inl (fun _ => 0))), (zh, .inl (t 1, 30, .inl (fun _ => 0)))]) rfl rfl (by decide) (by decide) (fun u H locs h_6 hP hD hS => ?_)
  have hP : va_P G vwCl [(z, .inr (12, [.int 0, .ref zw, .ref zm, .ref zc, .ref zv, .ref zt, .int 0, .int 0, .int 0, .int 0, .int 0, .long 0, .int 0, .int 0, .int 0, .int (-1), .ref zn, .ref zh, .ref zp, .ref ze, .ref zs, .ref zg, .ref zk, .ref za, .ref zd, .ref zf, .ref zo, .ref zE, .ref zq, .int 0, .int 0, .int 0, .int 0, .int 0, .int 0, .ref zC])), (ze, .inl (t 1, 140, .inl (fun _ => 0))), (zg, .inl (t 1, 800, .inl (fun _ => 0))), (zs, .inl (t 3, 180, .inl (fun _ => 0))), (zn, .inl (t 1, 5, .inl (fun _ => 0))), (zh, .inl (t 1, 30, .inl (fun _ => 0))), (zp, .inl (t 1, 180, .inl (fun _ => 0)))] H := hP
  have hD : va_D A [(z, .inr (12, [.int 0, .ref zw, .ref zm, .ref zc, .ref zv, .ref zt, .int 0, .int 0, .int 0, .int 0, .int 0, .long 0, .int 0, .int 0, .int 0, .int (-1), .ref zn, .ref zh, .ref zp, .ref ze, .ref zs, .ref zg, .ref zk, .ref za, .ref zd, .ref zf, .ref zo, .ref zE, .ref zq, .int 0, .int 0, .int 0, .int 0, .int 0, .int 0, .ref zC])), (ze, .inl (t 1, 140, .inl (fun _ => 0))), (zg, .inl (t 1, 800, .inl (fun _ => 0))), (zs, .inl (t 3, 180, .inl (fun _ => 0))), (zn, .inl (t 1, 5, .inl (fun _ => 0))), (zh, .inl (t 1, 30, .inl (fun _ => 0))), (zp, .inl (t 1, 180, .inl (fun _ => 0)))] := hD
  refine W.widen (k := 0) (n := 0) (Nat.le_of_ble_eq_true rfl) (Nat.le_of_ble_eq_true rfl) ?_
  refine lv_aload_n hx hb dX12_copyHall_32 rfl (lv_at hl 0 rfl) ?_
  refine gf hx hb hts hown hK hP 0 inT12 rfl rfl 19 (by decide) tw6_4 rfl dX12_copyHall_33 ?_
  refine lv_bipush (v := 28) hx hb dX12_copyHall_36 (by decide) ?_
  refine lv_iload_n hx hb dX12_copyHall_38 rfl (lv_at hl 1 rfl) ?_
  refine lv_iload_n hx hb dX12_copyHall_39 rfl (lv_at hl 2 rfl) ?_
  refine goV (rnS C0 (c_copyRow_28_0_2 l G t ze) lkX12_230 ⟨by decide, by decide⟩ (hP.sub (ws' := [(ze, .inl (t 1, 140, .inl (fun _ => 0)))]) [1] rfl) (hD.sub (ws' := [(ze, .inl (t 1, 140, .inl (fun _ => 0)))]) [1] (by decide) rfl) rfl hl.1 (rest := []) rfl (Nat.le_of_ble_eq_true rfl) dX12_copyHall_40 ⟨by decide, by decide⟩) hP hD hS hA [1] [0, 2, 3, 4, 5, 6] (wr := [(z, .inr (12, [.int 0, .ref zw, .ref zm, .ref zc, .ref zv, .ref zt, .int 0, .int 0, .int 0, .int 0, .int 0, .long 0, .int 0, .int 0, .int 0, .int (-1), .ref zn, .ref zh, .ref zp, .ref ze, .ref zs, .ref zg, .ref zk, .ref za, .ref zd, .ref zf, .ref zo, .ref zE, .ref zq, .int 0, .int 0, .int 0, .int 0, .int 0, .int 0, .ref zC])), (zg, .inl (t 1, 800, .inl (fun _ => 0))), (zs, .inl (t 3, 180, .inl (fun _ => 0))), (zn, .inl (t 1, 5, .inl (fun _ => 0))), (zh, .inl (t 1, 30, .inl (fun _ => 0))), (zp, .inl (t 1, 180, .inl (fun _ => 0)))]) rfl rfl (by decide) (by decide) (fun u H locs h_8 hP hD hS => ?_)
  have hP : va_P G vwCl [(z, .inr (12, [.int 0, .ref zw, .ref zm, .ref zc, .ref zv, .ref zt, .int 0, .int 0, .int 0, .int 0, .int 0, .long 0, .int 0, .int 0, .int 0, .int (-1), .ref zn, .ref zh, .ref zp, .ref ze, .ref zs, .ref zg, .ref zk, .ref za, .ref zd, .ref zf, .ref zo, .ref zE, .ref zq, .int 0, .int 0, .int 0, .int 0, .int 0, .int 0, .ref zC])), (zg, .inl (t 1, 800, .inl (fun _ => 0))), (zs, .inl (t 3, 180, .inl (fun _ => 0))), (zn, .inl (t 1, 5, .inl (fun _ => 0))), (zh, .inl (t 1, 30, .inl (fun _ => 0))), (zp, .inl (t 1, 180, .inl (fun _ => 0))), (ze, .inl (t 1, 140, .inl (fun _ => 0)))] H := hP
  have hD : va_D A [(z, .inr (12, [.int 0, .ref zw, .ref zm, .ref zc, .ref zv, .ref zt, .int 0, .int 0, .int 0, .int 0, .int 0, .long 0, .int 0, .int 0, .int 0, .int (-1), .ref zn, .ref zh, .ref zp, .ref ze, .ref zs, .ref zg, .ref zk, .ref za, .ref zd, .ref zf, .ref zo, .ref zE, .ref zq, .int 0, .int 0, .int 0, .int 0, .int 0, .int 0, .ref zC])), (zg, .inl (t 1, 800, .inl (fun _ => 0))), (zs, .inl (t 3, 180, .inl (fun _ => 0))), (zn, .inl (t 1, 5, .inl (fun _ => 0))), (zh, .inl (t 1, 30, .inl (fun _ => 0))), (zp, .inl (t 1, 180, .inl (fun _ => 0))), (ze, .inl (t 1, 140, .inl (fun _ => 0)))] := hD
  refine W.widen (k := 0) (n := 0) (Nat.le_of_ble_eq_true rfl) (Nat.le_of_ble_eq_true rfl) ?_
  refine lv_aload_n hx hb dX12_copyHall_43 rfl (lv_at hl 0 rfl) ?_
  refine gf hx hb hts hown hK hP 0 inT12 rfl rfl 21 (by decide) tw6_6 rfl dX12_copyHall_44 ?_
  refine lv_sipush (v := 160) hx hb dX12_copyHall_47 (by decide) ?_
  refine lv_iload_n hx hb dX12_copyHall_50 rfl (lv_at hl 1 rfl) ?_
  refine lv_iload_n hx hb dX12_copyHall_51 rfl (lv_at hl 2 rfl) ?_
  refine goV (rnS C0 (c_copyRow_160_0_2 l G t zg) lkX12_230 ⟨by decide, by decide⟩ (hP.sub (ws' := [(zg, .inl (t 1, 800, .inl (fun _ => 0)))]) [1] rfl) (hD.sub (ws' := [(zg, .inl (t 1, 800, .inl (fun _ => 0)))]) [1] (by decide) rfl) rfl hl.1 (rest := []) rfl (Nat.le_of_ble_eq_true rfl) dX12_copyHall_52 ⟨by decide, by decide⟩) hP hD hS hA [1] [0, 2, 3, 4, 5, 6] (wr := [(z, .inr (12, [.int 0, .ref zw, .ref zm, .ref zc, .ref zv, .ref zt, .int 0, .int 0, .int 0, .int 0, .int 0, .long 0, .int 0, .int 0, .int 0, .int (-1), .ref zn, .ref zh, .ref zp, .ref ze, .ref zs, .ref zg, .ref zk, .ref za, .ref zd, .ref zf, .ref zo, .ref zE, .ref zq, .int 0, .int 0, .int 0, .int 0, .int 0, .int 0, .ref zC])), (zs, .inl (t 3, 180, .inl (fun _ => 0))), (zn, .inl (t 1, 5, .inl (fun _ => 0))), (zh, .inl (t 1, 30, .inl (fun _ => 0))), (zp, .inl (t 1, 180, .inl (fun _ => 0))), (ze, .inl (t 1, 140, .inl (fun _ => 0)))]) rfl rfl (by decide) (by decide) (fun u H locs h_10 hP hD hS => ?_)
  have hP : va_P G vwCl [(z, .inr (12, [.int 0, .ref zw, .ref zm, .ref zc, .ref zv, .ref zt, .int 0, .int 0, .int 0, .int 0, .int 0, .long 0, .int 0, .int 0, .int 0, .int (-1), .ref zn, .ref zh, .ref zp, .ref ze, .ref zs, .ref zg, .ref zk, .ref za, .ref zd, .ref zf, .ref zo, .ref zE, .ref zq, .int 0, .int 0, .int 0, .int 0, .int 0, .int 0, .ref zC])), (zs, .inl (t 3, 180, .inl (fun _ => 0))), (zn, .inl (t 1, 5, .inl (fun _ => 0))), (zh, .inl (t 1, 30, .inl (fun _ => 0))), (zp, .inl (t 1, 180, .inl (fun _ => 0))), (ze, .inl (t 1, 140, .inl (fun _ => 0))), (zg, .inl (t 1, 800, .inl (fun _ => 0)))] H := hP
  have hD : va_D A [(z, .inr (12, [.int 0, .ref zw, .ref zm, .ref zc, .ref zv, .ref zt, .int 0, .int 0, .int 0, .int 0, .int 0, .long 0, .int 0, .int 0, .int 0, .int (-1), .ref zn, .ref zh, .ref zp, .ref ze, .ref zs, .ref zg, .ref zk, .ref za, .ref zd, .ref zf, .ref zo, .ref zE, .ref zq, .int 0, .int 0, .int 0, .int 0, .int 0, .int 0, .ref zC])), (zs, .inl (t 3, 180, .inl (fun _ => 0))), (zn, .inl (t 1, 5, .inl (fun _ => 0))), (zh, .inl (t 1, 30, .inl (fun _ => 0))), (zp, .inl (t 1, 180, .inl (fun _ => 0))), (ze, .inl (t 1, 140, .inl (fun _ => 0))), (zg, .inl (t 1, 800, .inl (fun _ => 0)))] := hD
  refine W.widen (k := 0) (n := 0) (Nat.le_of_ble_eq_true rfl) (Nat.le_of_ble_eq_true rfl) ?_
  refine lv_iconst (v := 0) hx hb dX12_copyHall_55 (by decide) ?_
  refine lv_istore_n (lv' := [(3, .int 0), (0, .ref z), (1, .int 0), (2, .int 2)]) hx hb dX12_copyHall_56 rfl hl (by decide) rfl (fun ls hl => ?_)
  have LP_11 : ∀ (n k : Nat), k + n = 36 → ∀ (H : Heap) (locs : List Loc) (ls : Array Slot), lv_has ls 4 [(3, .int (nI k)), (0, .ref z), (1, .int 0), (2, .int 2)] → va_P G vwCl [(z, .inr (12, [.int 0, .ref zw, .ref zm, .ref zc, .ref zv, .ref zt, .int 0, .int 0, .int 0, .int 0, .int 0, .long 0, .int 0, .int 0, .int 0, .int (-1), .ref zn, .ref zh, .ref zp, .ref ze, .ref zs, .ref zg, .ref zk, .ref za, .ref zd, .ref zf, .ref zo, .ref zE, .ref zq, .int 0, .int 0, .int 0, .int 0, .int 0, .int 0, .ref zC])), (zs, .inl (t 3, 180, .inl (fun _ => 0))), (zn, .inl (t 1, 5, .inl (fun _ => 0))), (zh, .inl (t 1, 30, .inl (fun _ => 0))), (zp, .inl (t 1, 180, .inl (fun _ => 0))), (ze, .inl (t 1, 140, .inl (fun _ => 0))), (zg, .inl (t 1, 800, .inl (fun _ => 0)))] H → va_D A [(z, .inr (12, [.int 0, .ref zw, .ref zm, .ref zc, .ref zv, .ref zt, .int 0, .int 0, .int 0, .int 0, .int 0, .long 0, .int 0, .int 0, .int 0, .int (-1), .ref zn, .ref zh, .ref zp, .ref ze, .ref zs, .ref zg, .ref zk, .ref za, .ref zd, .ref zf, .ref zo, .ref zE, .ref zq, .int 0, .int 0, .int 0, .int 0, .int 0, .int 0, .ref zC])), (zs, .inl (t 3, 180, .inl (fun _ => 0))), (zn, .inl (t 1, 5, .inl (fun _ => 0))), (zh, .inl (t 1, 30, .inl (fun _ => 0))), (zp, .inl (t 1, 180, .inl (fun _ => 0))), (ze, .inl (t 1, 140, .inl (fun _ => 0))), (zg, .inl (t 1, 800, .inl (fun _ => 0)))] → va_S A s.heap H locs → W p l e ({ frames := 1, cells := 0, slots := 0, locals := 24 }) s m args below meth c H locs 0 0 (MQ below ((QV G (fun (u : Unit) => True) (fun (u : Unit) => [(z, .inr (12, [.int 0, .ref zw, .ref zm, .ref zc, .ref zv, .ref zt, .int 0, .int 0, .int 0, .int 0, .int 0, .long 0, .int 0, .int 0, .int 0, .int (-1), .ref zn, .ref zh, .ref zp, .ref ze, .ref zs, .ref zg, .ref zk, .ref za, .ref zd, .ref zf, .ref zo, .ref zE, .ref zq, .int 0, .int 0, .int 0, .int 0, .int 0, .int 0, .ref zC])), (zn, .inl (t 1, 5, .inl (fun _ => 0))), (zh, .inl (t 1, 30, .inl (fun _ => 0))), (zp, .inl (t 1, 180, .inl (fun _ => 0))), (ze, .inl (t 1, 140, .inl (fun _ => 0))), (zg, .inl (t 1, 800, .inl (fun _ => 0))), (zs, .inl (t 3, 180, .inl (fun _ => 0)))])) A) args s 0 0 A) (F0 m 57 ls []) := by
    intro n
    induction n with
    | zero =>
      intro k hk H locs ls hl hP hD hS
      obtain rfl : k = 36 := by omega
      refine lv_iload_n hx hb dX12_copyHall_57 rfl (lv_at hl 0 rfl) ?_
      refine lv_bipush (v := 36) hx hb dX12_copyHall_58 (by decide) ?_
      refine lv_icmp_ge (tgt := 91) hx hb dX12_copyHall_60 (by decide) (fun _ => ?_) (fun c_12 => absurd (by decide) c_12)
      refine W.widen (k := 0) (n := 0) (by decide) (by decide) ?_
      exact rtV hx hb hr hlocks hS () (trivial) (hP.sub [0, 2, 3, 4, 5, 6, 1] rfl) (hD.sub [0, 2, 3, 4, 5, 6, 1] (by decide) rfl) dX12_copyHall_91
    | succ n ih =>
      intro k hk H locs ls hl hP hD hS
      refine lv_iload_n hx hb dX12_copyHall_57 rfl (lv_at hl 0 rfl) ?_
      refine lv_bipush (v := 36) hx hb dX12_copyHall_58 (by decide) ?_
      refine lv_icmp_ge (tgt := 91) hx hb dX12_copyHall_60 (by decide) (fun c_13 => absurd c_13 (show ¬ nI 36 ≤ nI k from nI_ge (by omega) (by decide))) (fun _ => ?_)
      refine lv_aload_n hx hb dX12_copyHall_63 rfl (lv_at hl 1 rfl) ?_
      refine gf hx hb hts hown hK hP 0 inT12 rfl rfl 20 (by decide) tw6_5 rfl dX12_copyHall_64 ?_
      refine lv_bipush (v := 36) hx hb dX12_copyHall_67 (by decide) ?_
      refine lv_iload_n hx hb dX12_copyHall_69 rfl (lv_at hl 3 rfl) ?_
      refine lv_imul hx hb dX12_copyHall_70 (tpi (v := 72) (by decide) ?_)
      refine lv_iload_n hx hb dX12_copyHall_71 rfl (lv_at hl 0 rfl) ?_
      refine lv_iadd hx hb dX12_copyHall_72 (tpi (v := (nI (72 + k))) (show nI 72 + nI k = nI (72 + k) from nI_add 72 k) ?_)
      refine lv_aload_n hx hb dX12_copyHall_73 rfl (lv_at hl 1 rfl) ?_
      refine gf hx hb hts hown hK hP 0 inT12 rfl rfl 20 (by decide) tw6_5 rfl dX12_copyHall_74 ?_
      refine lv_bipush (v := 36) hx hb dX12_copyHall_77 (by decide) ?_
      refine lv_iload_n hx hb dX12_copyHall_79 rfl (lv_at hl 2 rfl) ?_
      refine lv_imul hx hb dX12_copyHall_80 (tpi (v := 0) (by decide) ?_)
      refine lv_iload_n hx hb dX12_copyHall_81 rfl (lv_at hl 0 rfl) ?_
      refine lv_iadd hx hb dX12_copyHall_82 (tpi (v := (nI (0 + k))) (show nI 0 + nI k = nI (0 + k) from nI_add 0 k) ?_)
      refine ldZ hx hb hK hP 1 rfl (vp_in_nI (by omega) (by decide)) dX12_copyHall_83 (v := 0) (rfl) ?_
      refine stZ hx hb hK hP hD hS 1 rfl (vp_in_nI (by omega) (by decide)) dX12_copyHall_84 (f' := (fun _ => 0)) (upd_z _) (ws' := [(z, .inr (12, [.int 0, .ref zw, .ref zm, .ref zc, .ref zv, .ref zt, .int 0, .int 0, .int 0, .int 0, .int 0, .long 0, .int 0, .int 0, .int 0, .int (-1), .ref zn, .ref zh, .ref zp, .ref ze, .ref zs, .ref zg, .ref zk, .ref za, .ref zd, .ref zf, .ref zo, .ref zE, .ref zq, .int 0, .int 0, .int 0, .int 0, .int 0, .int 0, .ref zC])), (zs, .inl (t 3, 180, .inl (fun _ => 0))), (zn, .inl (t 1, 5, .inl (fun _ => 0))), (zh, .inl (t 1, 30, .inl (fun _ => 0))), (zp, .inl (t 1, 180, .inl (fun _ => 0))), (ze, .inl (t 1, 140, .inl (fun _ => 0))), (zg, .inl (t 1, 800, .inl (fun _ => 0)))]) rfl (fun H locs hP hD hS => ?_)
      refine lv_iinc (v := (nI (k + 1))) (lv' := [(3, .int (nI (k + 1))), (0, .ref z), (1, .int 0), (2, .int 2)]) hx hb dX12_copyHall_85 hl (k := 0) rfl (nI_1 k) (by decide) rfl (fun ls hl => ?_)
      refine lv_goto (tgt := 57) hx hb dX12_copyHall_88 (by decide) ?_
      exact ih (k + 1) (by omega) H locs ls (lv_sub hl [0, 1, 2, 3] rfl) (hP.sub [0, 1, 2, 3, 4, 5, 6] rfl) (hD.sub [0, 1, 2, 3, 4, 5, 6] (by decide) rfl) hS
  exact LP_11 36 0 (by omega) _ _ _ hl hP hD hS

set_option maxHeartbeats 4000000 in
set_option maxRecDepth 100000 in
theorem c_copyRow_1_0_3 (l : Launch) (G : va_G) (t : Nat → ClassId) (q0 : Nat) : Ct l G t yX12_copyRow cX12_copyRow 5 none ({ frames := 0, cells := 0, slots := 0, locals := 0 }) [.ref q0, .int 1, .int 0, .int 3] [(q0, .inl (t 1, 5, .inl (fun _ => 0)))] (QV G (fun (u : Unit) => True) (fun (u : Unit) => [(q0, .inl (t 1, 5, .inl (fun _ => 0)))])) := by
  refine ent (by decide) (Nat.le_of_ble_eq_true rfl) ?_
  intro p e s m args below meth c hx hb hr hml hts hown hlocks hin A hA hK hO hP hD hS ls hl
  have hown : s.vm.findClass RX12 = some m.cls := hown
  have hl : lv_has ls 5 [(0, .ref q0), (1, .int 1), (2, .int 0), (3, .int 3)] := hl
  have C0 : Cx p s m args c cX12_copyRow 5 RX12 G t := ⟨hx, hb, hml, hown, hts, hK, hO⟩
  refine lv_iconst (v := 0) hx hb dX12_copyRow_0 (by decide) ?_
  refine lv_istore (lv' := [(4, .int 0), (0, .ref q0), (1, .int 1), (2, .int 0), (3, .int 3)]) hx hb dX12_copyRow_1 hl (by decide) rfl (fun ls hl => ?_)
  have LP_1 : ∀ (n k : Nat), k + n = 1 → ∀ (H : Heap) (locs : List Loc) (ls : Array Slot), lv_has ls 5 [(4, .int (nI k)), (0, .ref q0), (1, .int 1), (2, .int 0), (3, .int 3)] → va_P G vwCl [(q0, .inl (t 1, 5, .inl (fun _ => 0)))] H → va_D A [(q0, .inl (t 1, 5, .inl (fun _ => 0)))] → va_S A s.heap H locs → W p l e ({ frames := 0, cells := 0, slots := 0, locals := 0 }) s m args below meth c H locs 0 0 (MQ below ((QV G (fun (u : Unit) => True) (fun (u : Unit) => [(q0, .inl (t 1, 5, .inl (fun _ => 0)))])) A) args s 0 0 A) (F0 m 3 ls []) := by
    intro n
    induction n with
    | zero =>
      intro k hk H locs ls hl hP hD hS
      obtain rfl : k = 1 := by omega
      refine lv_iload hx hb dX12_copyRow_3 (lv_at hl 0 rfl) ?_
      refine lv_iload_n hx hb dX12_copyRow_5 rfl (lv_at hl 2 rfl) ?_
      refine lv_icmp_ge (tgt := 31) hx hb dX12_copyRow_6 (by decide) (fun _ => ?_) (fun c_2 => absurd (by decide) c_2)
      refine W.widen (k := 0) (n := 0) (by decide) (by decide) ?_
      exact rtV hx hb hr hlocks hS () (trivial) (hP.sub [0] rfl) (hD.sub [0] (by decide) rfl) dX12_copyRow_31
    | succ n ih =>
      intro k hk H locs ls hl hP hD hS
      refine lv_iload hx hb dX12_copyRow_3 (lv_at hl 0 rfl) ?_
      refine lv_iload_n hx hb dX12_copyRow_5 rfl (lv_at hl 2 rfl) ?_
      refine lv_icmp_ge (tgt := 31) hx hb dX12_copyRow_6 (by decide) (fun c_3 => absurd c_3 (show ¬ nI 1 ≤ nI k from nI_ge (by omega) (by decide))) (fun _ => ?_)
      refine lv_aload_n hx hb dX12_copyRow_9 rfl (lv_at hl 1 rfl) ?_
      refine lv_iload_n hx hb dX12_copyRow_10 rfl (lv_at hl 2 rfl) ?_
      refine lv_iload_n hx hb dX12_copyRow_11 rfl (lv_at hl 4 rfl) ?_
      refine lv_imul hx hb dX12_copyRow_12 (tpi (v := 3) (by decide) ?_)
      refine lv_iload hx hb dX12_copyRow_13 (lv_at hl 0 rfl) ?_
      refine lv_iadd hx hb dX12_copyRow_15 (tpi (v := (nI (3 + k))) (show nI 3 + nI k = nI (3 + k) from nI_add 3 k) ?_)
      refine lv_aload_n hx hb dX12_copyRow_16 rfl (lv_at hl 1 rfl) ?_
      refine lv_iload_n hx hb dX12_copyRow_17 rfl (lv_at hl 2 rfl) ?_
      refine lv_iload_n hx hb dX12_copyRow_18 rfl (lv_at hl 3 rfl) ?_
      refine lv_imul hx hb dX12_copyRow_19 (tpi (v := 0) (by decide) ?_)
      refine lv_iload hx hb dX12_copyRow_20 (lv_at hl 0 rfl) ?_
      refine lv_iadd hx hb dX12_copyRow_22 (tpi (v := (nI (0 + k))) (show nI 0 + nI k = nI (0 + k) from nI_add 0 k) ?_)
      refine ldI hx hb hK hP 0 rfl (vp_in_nI (by omega) (by decide)) dX12_copyRow_23 (v := 0) (rfl) ?_
      refine stI hx hb hK hP hD hS 0 rfl (vp_in_nI (by omega) (by decide)) dX12_copyRow_24 (f' := (fun _ => 0)) (upd_z _) (ws' := [(q0, .inl (t 1, 5, .inl (fun _ => 0)))]) rfl (fun H locs hP hD hS => ?_)
      refine lv_iinc (v := (nI (k + 1))) (lv' := [(4, .int (nI (k + 1))), (0, .ref q0), (1, .int 1), (2, .int 0), (3, .int 3)]) hx hb dX12_copyRow_25 hl (k := 0) rfl (nI_1 k) (by decide) rfl (fun ls hl => ?_)
      refine lv_goto (tgt := 3) hx hb dX12_copyRow_28 (by decide) ?_
      exact ih (k + 1) (by omega) H locs ls (lv_sub hl [0, 1, 2, 3, 4] rfl) (hP.sub [0] rfl) (hD.sub [0] (by decide) rfl) hS
  exact LP_1 1 0 (by omega) _ _ _ hl hP hD hS

set_option maxHeartbeats 4000000 in
set_option maxRecDepth 100000 in
theorem c_copyRow_6_0_3 (l : Launch) (G : va_G) (t : Nat → ClassId) (q0 : Nat) : Ct l G t yX12_copyRow cX12_copyRow 5 none ({ frames := 0, cells := 0, slots := 0, locals := 0 }) [.ref q0, .int 6, .int 0, .int 3] [(q0, .inl (t 1, 30, .inl (fun _ => 0)))] (QV G (fun (u : Unit) => True) (fun (u : Unit) => [(q0, .inl (t 1, 30, .inl (fun _ => 0)))])) := by
  refine ent (by decide) (Nat.le_of_ble_eq_true rfl) ?_
  intro p e s m args below meth c hx hb hr hml hts hown hlocks hin A hA hK hO hP hD hS ls hl
  have hown : s.vm.findClass RX12 = some m.cls := hown
  have hl : lv_has ls 5 [(0, .ref q0), (1, .int 6), (2, .int 0), (3, .int 3)] := hl
  have C0 : Cx p s m args c cX12_copyRow 5 RX12 G t := ⟨hx, hb, hml, hown, hts, hK, hO⟩
  refine lv_iconst (v := 0) hx hb dX12_copyRow_0 (by decide) ?_
  refine lv_istore (lv' := [(4, .int 0), (0, .ref q0), (1, .int 6), (2, .int 0), (3, .int 3)]) hx hb dX12_copyRow_1 hl (by decide) rfl (fun ls hl => ?_)
  have LP_1 : ∀ (n k : Nat), k + n = 6 → ∀ (H : Heap) (locs : List Loc) (ls : Array Slot), lv_has ls 5 [(4, .int (nI k)), (0, .ref q0), (1, .int 6), (2, .int 0), (3, .int 3)] → va_P G vwCl [(q0, .inl (t 1, 30, .inl (fun _ => 0)))] H → va_D A [(q0, .inl (t 1, 30, .inl (fun _ => 0)))] → va_S A s.heap H locs → W p l e ({ frames := 0, cells := 0, slots := 0, locals := 0 }) s m args below meth c H locs 0 0 (MQ below ((QV G (fun (u : Unit) => True) (fun (u : Unit) => [(q0, .inl (t 1, 30, .inl (fun _ => 0)))])) A) args s 0 0 A) (F0 m 3 ls []) := by
    intro n
    induction n with
    | zero =>
      intro k hk H locs ls hl hP hD hS
      obtain rfl : k = 6 := by omega
      refine lv_iload hx hb dX12_copyRow_3 (lv_at hl 0 rfl) ?_
      refine lv_iload_n hx hb dX12_copyRow_5 rfl (lv_at hl 2 rfl) ?_
      refine lv_icmp_ge (tgt := 31) hx hb dX12_copyRow_6 (by decide) (fun _ => ?_) (fun c_2 => absurd (by decide) c_2)
      refine W.widen (k := 0) (n := 0) (by decide) (by decide) ?_
      exact rtV hx hb hr hlocks hS () (trivial) (hP.sub [0] rfl) (hD.sub [0] (by decide) rfl) dX12_copyRow_31
    | succ n ih =>
      intro k hk H locs ls hl hP hD hS
      refine lv_iload hx hb dX12_copyRow_3 (lv_at hl 0 rfl) ?_
      refine lv_iload_n hx hb dX12_copyRow_5 rfl (lv_at hl 2 rfl) ?_
      refine lv_icmp_ge (tgt := 31) hx hb dX12_copyRow_6 (by decide) (fun c_3 => absurd c_3 (show ¬ nI 6 ≤ nI k from nI_ge (by omega) (by decide))) (fun _ => ?_)
      refine lv_aload_n hx hb dX12_copyRow_9 rfl (lv_at hl 1 rfl) ?_
      refine lv_iload_n hx hb dX12_copyRow_10 rfl (lv_at hl 2 rfl) ?_
      refine lv_iload_n hx hb dX12_copyRow_11 rfl (lv_at hl 4 rfl) ?_
      refine lv_imul hx hb dX12_copyRow_12 (tpi (v := 18) (by decide) ?_)
      refine lv_iload hx hb dX12_copyRow_13 (lv_at hl 0 rfl) ?_
      refine lv_iadd hx hb dX12_copyRow_15 (tpi (v := (nI (18 + k))) (show nI 18 + nI k = nI (18 + k) from nI_add 18 k) ?_)
      refine lv_aload_n hx hb dX12_copyRow_16 rfl (lv_at hl 1 rfl) ?_
      refine lv_iload_n hx hb dX12_copyRow_17 rfl (lv_at hl 2 rfl) ?_
      refine lv_iload_n hx hb dX12_copyRow_18 rfl (lv_at hl 3 rfl) ?_
      refine lv_imul hx hb dX12_copyRow_19 (tpi (v := 0) (by decide) ?_)
      refine lv_iload hx hb dX12_copyRow_20 (lv_at hl 0 rfl) ?_
      refine lv_iadd hx hb dX12_copyRow_22 (tpi (v := (nI (0 + k))) (show nI 0 + nI k = nI (0 + k) from nI_add 0 k) ?_)
      refine ldI hx hb hK hP 0 rfl (vp_in_nI (by omega) (by decide)) dX12_copyRow_23 (v := 0) (rfl) ?_
      refine stI hx hb hK hP hD hS 0 rfl (vp_in_nI (by omega) (by decide)) dX12_copyRow_24 (f' := (fun _ => 0)) (upd_z _) (ws' := [(q0, .inl (t 1, 30, .inl (fun _ => 0)))]) rfl (fun H locs hP hD hS => ?_)
      refine lv_iinc (v := (nI (k + 1))) (lv' := [(4, .int (nI (k + 1))), (0, .ref q0), (1, .int 6), (2, .int 0), (3, .int 3)]) hx hb dX12_copyRow_25 hl (k := 0) rfl (nI_1 k) (by decide) rfl (fun ls hl => ?_)
      refine lv_goto (tgt := 3) hx hb dX12_copyRow_28 (by decide) ?_
      exact ih (k + 1) (by omega) H locs ls (lv_sub hl [0, 1, 2, 3, 4] rfl) (hP.sub [0] rfl) (hD.sub [0] (by decide) rfl) hS
  exact LP_1 6 0 (by omega) _ _ _ hl hP hD hS

set_option maxHeartbeats 4000000 in
set_option maxRecDepth 100000 in
theorem c_copyRow_36_0_3 (l : Launch) (G : va_G) (t : Nat → ClassId) (q0 : Nat) : Ct l G t yX12_copyRow cX12_copyRow 5 none ({ frames := 0, cells := 0, slots := 0, locals := 0 }) [.ref q0, .int 36, .int 0, .int 3] [(q0, .inl (t 1, 180, .inl (fun _ => 0)))] (QV G (fun (u : Unit) => True) (fun (u : Unit) => [(q0, .inl (t 1, 180, .inl (fun _ => 0)))])) := by
  refine ent (by decide) (Nat.le_of_ble_eq_true rfl) ?_
  intro p e s m args below meth c hx hb hr hml hts hown hlocks hin A hA hK hO hP hD hS ls hl
  have hown : s.vm.findClass RX12 = some m.cls := hown
  have hl : lv_has ls 5 [(0, .ref q0), (1, .int 36), (2, .int 0), (3, .int 3)] := hl
  have C0 : Cx p s m args c cX12_copyRow 5 RX12 G t := ⟨hx, hb, hml, hown, hts, hK, hO⟩
  refine lv_iconst (v := 0) hx hb dX12_copyRow_0 (by decide) ?_
  refine lv_istore (lv' := [(4, .int 0), (0, .ref q0), (1, .int 36), (2, .int 0), (3, .int 3)]) hx hb dX12_copyRow_1 hl (by decide) rfl (fun ls hl => ?_)
  have LP_1 : ∀ (n k : Nat), k + n = 36 → ∀ (H : Heap) (locs : List Loc) (ls : Array Slot), lv_has ls 5 [(4, .int (nI k)), (0, .ref q0), (1, .int 36), (2, .int 0), (3, .int 3)] → va_P G vwCl [(q0, .inl (t 1, 180, .inl (fun _ => 0)))] H → va_D A [(q0, .inl (t 1, 180, .inl (fun _ => 0)))] → va_S A s.heap H locs → W p l e ({ frames := 0, cells := 0, slots := 0, locals := 0 }) s m args below meth c H locs 0 0 (MQ below ((QV G (fun (u : Unit) => True) (fun (u : Unit) => [(q0, .inl (t 1, 180, .inl (fun _ => 0)))])) A) args s 0 0 A) (F0 m 3 ls []) := by
    intro n
    induction n with
    | zero =>
      intro k hk H locs ls hl hP hD hS
      obtain rfl : k = 36 := by omega
      refine lv_iload hx hb dX12_copyRow_3 (lv_at hl 0 rfl) ?_
      refine lv_iload_n hx hb dX12_copyRow_5 rfl (lv_at hl 2 rfl) ?_
      refine lv_icmp_ge (tgt := 31) hx hb dX12_copyRow_6 (by decide) (fun _ => ?_) (fun c_2 => absurd (by decide) c_2)
      refine W.widen (k := 0) (n := 0) (by decide) (by decide) ?_
      exact rtV hx hb hr hlocks hS () (trivial) (hP.sub [0] rfl) (hD.sub [0] (by decide) rfl) dX12_copyRow_31
    | succ n ih =>
      intro k hk H locs ls hl hP hD hS
      refine lv_iload hx hb dX12_copyRow_3 (lv_at hl 0 rfl) ?_
      refine lv_iload_n hx hb dX12_copyRow_5 rfl (lv_at hl 2 rfl) ?_
      refine lv_icmp_ge (tgt := 31) hx hb dX12_copyRow_6 (by decide) (fun c_3 => absurd c_3 (show ¬ nI 36 ≤ nI k from nI_ge (by omega) (by decide))) (fun _ => ?_)
      refine lv_aload_n hx hb dX12_copyRow_9 rfl (lv_at hl 1 rfl) ?_
      refine lv_iload_n hx hb dX12_copyRow_10 rfl (lv_at hl 2 rfl) ?_
      refine lv_iload_n hx hb dX12_copyRow_11 rfl (lv_at hl 4 rfl) ?_
      refine lv_imul hx hb dX12_copyRow_12 (tpi (v := 108) (by decide) ?_)
      refine lv_iload hx hb dX12_copyRow_13 (lv_at hl 0 rfl) ?_
      refine lv_iadd hx hb dX12_copyRow_15 (tpi (v := (nI (108 + k))) (show nI 108 + nI k = nI (108 + k) from nI_add 108 k) ?_)
      refine lv_aload_n hx hb dX12_copyRow_16 rfl (lv_at hl 1 rfl) ?_
      refine lv_iload_n hx hb dX12_copyRow_17 rfl (lv_at hl 2 rfl) ?_
      refine lv_iload_n hx hb dX12_copyRow_18 rfl (lv_at hl 3 rfl) ?_
      refine lv_imul hx hb dX12_copyRow_19 (tpi (v := 0) (by decide) ?_)
      refine lv_iload hx hb dX12_copyRow_20 (lv_at hl 0 rfl) ?_
      refine lv_iadd hx hb dX12_copyRow_22 (tpi (v := (nI (0 + k))) (show nI 0 + nI k = nI (0 + k) from nI_add 0 k) ?_)
      refine ldI hx hb hK hP 0 rfl (vp_in_nI (by omega) (by decide)) dX12_copyRow_23 (v := 0) (rfl) ?_
      refine stI hx hb hK hP hD hS 0 rfl (vp_in_nI (by omega) (by decide)) dX12_copyRow_24 (f' := (fun _ => 0)) (upd_z _) (ws' := [(q0, .inl (t 1, 180, .inl (fun _ => 0)))]) rfl (fun H locs hP hD hS => ?_)
      refine lv_iinc (v := (nI (k + 1))) (lv' := [(4, .int (nI (k + 1))), (0, .ref q0), (1, .int 36), (2, .int 0), (3, .int 3)]) hx hb dX12_copyRow_25 hl (k := 0) rfl (nI_1 k) (by decide) rfl (fun ls hl => ?_)
      refine lv_goto (tgt := 3) hx hb dX12_copyRow_28 (by decide) ?_
      exact ih (k + 1) (by omega) H locs ls (lv_sub hl [0, 1, 2, 3, 4] rfl) (hP.sub [0] rfl) (hD.sub [0] (by decide) rfl) hS
  exact LP_1 36 0 (by omega) _ _ _ hl hP hD hS

set_option maxHeartbeats 4000000 in
set_option maxRecDepth 100000 in
theorem c_copyRow_28_0_3 (l : Launch) (G : va_G) (t : Nat → ClassId) (q0 : Nat) : Ct l G t yX12_copyRow cX12_copyRow 5 none ({ frames := 0, cells := 0, slots := 0, locals := 0 }) [.ref q0, .int 28, .int 0, .int 3] [(q0, .inl (t 1, 140, .inl (fun _ => 0)))] (QV G (fun (u : Unit) => True) (fun (u : Unit) => [(q0, .inl (t 1, 140, .inl (fun _ => 0)))])) := by
  refine ent (by decide) (Nat.le_of_ble_eq_true rfl) ?_
  intro p e s m args below meth c hx hb hr hml hts hown hlocks hin A hA hK hO hP hD hS ls hl
  have hown : s.vm.findClass RX12 = some m.cls := hown
  have hl : lv_has ls 5 [(0, .ref q0), (1, .int 28), (2, .int 0), (3, .int 3)] := hl
  have C0 : Cx p s m args c cX12_copyRow 5 RX12 G t := ⟨hx, hb, hml, hown, hts, hK, hO⟩
  refine lv_iconst (v := 0) hx hb dX12_copyRow_0 (by decide) ?_
  refine lv_istore (lv' := [(4, .int 0), (0, .ref q0), (1, .int 28), (2, .int 0), (3, .int 3)]) hx hb dX12_copyRow_1 hl (by decide) rfl (fun ls hl => ?_)
  have LP_1 : ∀ (n k : Nat), k + n = 28 → ∀ (H : Heap) (locs : List Loc) (ls : Array Slot), lv_has ls 5 [(4, .int (nI k)), (0, .ref q0), (1, .int 28), (2, .int 0), (3, .int 3)] → va_P G vwCl [(q0, .inl (t 1, 140, .inl (fun _ => 0)))] H → va_D A [(q0, .inl (t 1, 140, .inl (fun _ => 0)))] → va_S A s.heap H locs → W p l e ({ frames := 0, cells := 0, slots := 0, locals := 0 }) s m args below meth c H locs 0 0 (MQ below ((QV G (fun (u : Unit) => True) (fun (u : Unit) => [(q0, .inl (t 1, 140, .inl (fun _ => 0)))])) A) args s 0 0 A) (F0 m 3 ls []) := by
    intro n
    induction n with
    | zero =>
      intro k hk H locs ls hl hP hD hS
      obtain rfl : k = 28 := by omega
      refine lv_iload hx hb dX12_copyRow_3 (lv_at hl 0 rfl) ?_
      refine lv_iload_n hx hb dX12_copyRow_5 rfl (lv_at hl 2 rfl) ?_
      refine lv_icmp_ge (tgt := 31) hx hb dX12_copyRow_6 (by decide) (fun _ => ?_) (fun c_2 => absurd (by decide) c_2)
      refine W.widen (k := 0) (n := 0) (by decide) (by decide) ?_
      exact rtV hx hb hr hlocks hS () (trivial) (hP.sub [0] rfl) (hD.sub [0] (by decide) rfl) dX12_copyRow_31
    | succ n ih =>
      intro k hk H locs ls hl hP hD hS
      refine lv_iload hx hb dX12_copyRow_3 (lv_at hl 0 rfl) ?_
      refine lv_iload_n hx hb dX12_copyRow_5 rfl (lv_at hl 2 rfl) ?_
      refine lv_icmp_ge (tgt := 31) hx hb dX12_copyRow_6 (by decide) (fun c_3 => absurd c_3 (show ¬ nI 28 ≤ nI k from nI_ge (by omega) (by decide))) (fun _ => ?_)
      refine lv_aload_n hx hb dX12_copyRow_9 rfl (lv_at hl 1 rfl) ?_
      refine lv_iload_n hx hb dX12_copyRow_10 rfl (lv_at hl 2 rfl) ?_
      refine lv_iload_n hx hb dX12_copyRow_11 rfl (lv_at hl 4 rfl) ?_
      refine lv_imul hx hb dX12_copyRow_12 (tpi (v := 84) (by decide) ?_)
      refine lv_iload hx hb dX12_copyRow_13 (lv_at hl 0 rfl) ?_
      refine lv_iadd hx hb dX12_copyRow_15 (tpi (v := (nI (84 + k))) (show nI 84 + nI k = nI (84 + k) from nI_add 84 k) ?_)
      refine lv_aload_n hx hb dX12_copyRow_16 rfl (lv_at hl 1 rfl) ?_
      refine lv_iload_n hx hb dX12_copyRow_17 rfl (lv_at hl 2 rfl) ?_
      refine lv_iload_n hx hb dX12_copyRow_18 rfl (lv_at hl 3 rfl) ?_
      refine lv_imul hx hb dX12_copyRow_19 (tpi (v := 0) (by decide) ?_)
      refine lv_iload hx hb dX12_copyRow_20 (lv_at hl 0 rfl) ?_
      refine lv_iadd hx hb dX12_copyRow_22 (tpi (v := (nI (0 + k))) (show nI 0 + nI k = nI (0 + k) from nI_add 0 k) ?_)
      refine ldI hx hb hK hP 0 rfl (vp_in_nI (by omega) (by decide)) dX12_copyRow_23 (v := 0) (rfl) ?_
      refine stI hx hb hK hP hD hS 0 rfl (vp_in_nI (by omega) (by decide)) dX12_copyRow_24 (f' := (fun _ => 0)) (upd_z _) (ws' := [(q0, .inl (t 1, 140, .inl (fun _ => 0)))]) rfl (fun H locs hP hD hS => ?_)
      refine lv_iinc (v := (nI (k + 1))) (lv' := [(4, .int (nI (k + 1))), (0, .ref q0), (1, .int 28), (2, .int 0), (3, .int 3)]) hx hb dX12_copyRow_25 hl (k := 0) rfl (nI_1 k) (by decide) rfl (fun ls hl => ?_)
      refine lv_goto (tgt := 3) hx hb dX12_copyRow_28 (by decide) ?_
      exact ih (k + 1) (by omega) H locs ls (lv_sub hl [0, 1, 2, 3, 4] rfl) (hP.sub [0] rfl) (hD.sub [0] (by decide) rfl) hS
  exact LP_1 28 0 (by omega) _ _ _ hl hP hD hS

set_option maxHeartbeats 4000000 in
set_option maxRecDepth 100000 in
theorem c_copyRow_160_0_3 (l : Launch) (G : va_G) (t : Nat → ClassId) (q0 : Nat) : Ct l G t yX12_copyRow cX12_copyRow 5 none ({ frames := 0, cells := 0, slots := 0, locals := 0 }) [.ref q0, .int 160, .int 0, .int 3] [(q0, .inl (t 1, 800, .inl (fun _ => 0)))] (QV G (fun (u : Unit) => True) (fun (u : Unit) => [(q0, .inl (t 1, 800, .inl (fun _ => 0)))])) := by
  refine ent (by decide) (Nat.le_of_ble_eq_true rfl) ?_
  intro p e s m args below meth c hx hb hr hml hts hown hlocks hin A hA hK hO hP hD hS ls hl
  have hown : s.vm.findClass RX12 = some m.cls := hown
  have hl : lv_has ls 5 [(0, .ref q0), (1, .int 160), (2, .int 0), (3, .int 3)] := hl
  have C0 : Cx p s m args c cX12_copyRow 5 RX12 G t := ⟨hx, hb, hml, hown, hts, hK, hO⟩
  refine lv_iconst (v := 0) hx hb dX12_copyRow_0 (by decide) ?_
  refine lv_istore (lv' := [(4, .int 0), (0, .ref q0), (1, .int 160), (2, .int 0), (3, .int 3)]) hx hb dX12_copyRow_1 hl (by decide) rfl (fun ls hl => ?_)
  have LP_1 : ∀ (n k : Nat), k + n = 160 → ∀ (H : Heap) (locs : List Loc) (ls : Array Slot), lv_has ls 5 [(4, .int (nI k)), (0, .ref q0), (1, .int 160), (2, .int 0), (3, .int 3)] → va_P G vwCl [(q0, .inl (t 1, 800, .inl (fun _ => 0)))] H → va_D A [(q0, .inl (t 1, 800, .inl (fun _ => 0)))] → va_S A s.heap H locs → W p l e ({ frames := 0, cells := 0, slots := 0, locals := 0 }) s m args below meth c H locs 0 0 (MQ below ((QV G (fun (u : Unit) => True) (fun (u : Unit) => [(q0, .inl (t 1, 800, .inl (fun _ => 0)))])) A) args s 0 0 A) (F0 m 3 ls []) := by
    intro n
    induction n with
    | zero =>
      intro k hk H locs ls hl hP hD hS
      obtain rfl : k = 160 := by omega
      refine lv_iload hx hb dX12_copyRow_3 (lv_at hl 0 rfl) ?_
      refine lv_iload_n hx hb dX12_copyRow_5 rfl (lv_at hl 2 rfl) ?_
      refine lv_icmp_ge (tgt := 31) hx hb dX12_copyRow_6 (by decide) (fun _ => ?_) (fun c_2 => absurd (by decide) c_2)
      refine W.widen (k := 0) (n := 0) (by decide) (by decide) ?_
      exact rtV hx hb hr hlocks hS () (trivial) (hP.sub [0] rfl) (hD.sub [0] (by decide) rfl) dX12_copyRow_31
    | succ n ih =>
      intro k hk H locs ls hl hP hD hS
      refine lv_iload hx hb dX12_copyRow_3 (lv_at hl 0 rfl) ?_
      refine lv_iload_n hx hb dX12_copyRow_5 rfl (lv_at hl 2 rfl) ?_
      refine lv_icmp_ge (tgt := 31) hx hb dX12_copyRow_6 (by decide) (fun c_3 => absurd c_3 (show ¬ nI 160 ≤ nI k from nI_ge (by omega) (by decide))) (fun _ => ?_)
      refine lv_aload_n hx hb dX12_copyRow_9 rfl (lv_at hl 1 rfl) ?_
      refine lv_iload_n hx hb dX12_copyRow_10 rfl (lv_at hl 2 rfl) ?_
      refine lv_iload_n hx hb dX12_copyRow_11 rfl (lv_at hl 4 rfl) ?_
      refine lv_imul hx hb dX12_copyRow_12 (tpi (v := 480) (by decide) ?_)
      refine lv_iload hx hb dX12_copyRow_13 (lv_at hl 0 rfl) ?_
      refine lv_iadd hx hb dX12_copyRow_15 (tpi (v := (nI (480 + k))) (show nI 480 + nI k = nI (480 + k) from nI_add 480 k) ?_)
      refine lv_aload_n hx hb dX12_copyRow_16 rfl (lv_at hl 1 rfl) ?_
      refine lv_iload_n hx hb dX12_copyRow_17 rfl (lv_at hl 2 rfl) ?_
      refine lv_iload_n hx hb dX12_copyRow_18 rfl (lv_at hl 3 rfl) ?_
      refine lv_imul hx hb dX12_copyRow_19 (tpi (v := 0) (by decide) ?_)
      refine lv_iload hx hb dX12_copyRow_20 (lv_at hl 0 rfl) ?_
      refine lv_iadd hx hb dX12_copyRow_22 (tpi (v := (nI (0 + k))) (show nI 0 + nI k = nI (0 + k) from nI_add 0 k) ?_)
      refine ldI hx hb hK hP 0 rfl (vp_in_nI (by omega) (by decide)) dX12_copyRow_23 (v := 0) (rfl) ?_
      refine stI hx hb hK hP hD hS 0 rfl (vp_in_nI (by omega) (by decide)) dX12_copyRow_24 (f' := (fun _ => 0)) (upd_z _) (ws' := [(q0, .inl (t 1, 800, .inl (fun _ => 0)))]) rfl (fun H locs hP hD hS => ?_)
      refine lv_iinc (v := (nI (k + 1))) (lv' := [(4, .int (nI (k + 1))), (0, .ref q0), (1, .int 160), (2, .int 0), (3, .int 3)]) hx hb dX12_copyRow_25 hl (k := 0) rfl (nI_1 k) (by decide) rfl (fun ls hl => ?_)
      refine lv_goto (tgt := 3) hx hb dX12_copyRow_28 (by decide) ?_
      exact ih (k + 1) (by omega) H locs ls (lv_sub hl [0, 1, 2, 3, 4] rfl) (hP.sub [0] rfl) (hD.sub [0] (by decide) rfl) hS
  exact LP_1 160 0 (by omega) _ _ _ hl hP hD hS

set_option maxHeartbeats 4000000 in
set_option maxRecDepth 100000 in
theorem c_copyHall_0_3 (l : Launch) (G : va_G) (t : Nat → ClassId) (z : Nat) (zw : Nat) (zm : Nat) (zc : Nat) (zv : Nat) (zt : Nat) (zn : Nat) (zh : Nat) (zp : Nat) (ze : Nat) (zs : Nat) (zg : Nat) (zk : Nat) (za : Nat) (zd : Nat) (zf : Nat) (zo : Nat) (zE : Nat) (zq : Nat) (zC : Nat) : Ct l G t yX12_copyHall cX12_copyHall 4 none ({ frames := 1, cells := 0, slots := 0, locals := 24 }) [.ref z, .int 0, .int 3] [(z, .inr (12, [.int 0, .ref zw, .ref zm, .ref zc, .ref zv, .ref zt, .int 0, .int 0, .int 0, .int 0, .int 0, .long 0, .int 0, .int 0, .int 0, .int (-1), .ref zn, .ref zh, .ref zp, .ref ze, .ref zs, .ref zg, .ref zk, .ref za, .ref zd, .ref zf, .ref zo, .ref zE, .ref zq, .int 0, .int 0, .int 0, .int 0, .int 0, .int 0, .ref zC])), (zn, .inl (t 1, 5, .inl (fun _ => 0))), (zh, .inl (t 1, 30, .inl (fun _ => 0))), (zp, .inl (t 1, 180, .inl (fun _ => 0))), (ze, .inl (t 1, 140, .inl (fun _ => 0))), (zg, .inl (t 1, 800, .inl (fun _ => 0))), (zs, .inl (t 3, 180, .inl (fun _ => 0)))] (QV G (fun (u : Unit) => True) (fun (u : Unit) => [(z, .inr (12, [.int 0, .ref zw, .ref zm, .ref zc, .ref zv, .ref zt, .int 0, .int 0, .int 0, .int 0, .int 0, .long 0, .int 0, .int 0, .int 0, .int (-1), .ref zn, .ref zh, .ref zp, .ref ze, .ref zs, .ref zg, .ref zk, .ref za, .ref zd, .ref zf, .ref zo, .ref zE, .ref zq, .int 0, .int 0, .int 0, .int 0, .int 0, .int 0, .ref zC])), (zn, .inl (t 1, 5, .inl (fun _ => 0))), (zh, .inl (t 1, 30, .inl (fun _ => 0))), (zp, .inl (t 1, 180, .inl (fun _ => 0))), (ze, .inl (t 1, 140, .inl (fun _ => 0))), (zg, .inl (t 1, 800, .inl (fun _ => 0))), (zs, .inl (t 3, 180, .inl (fun _ => 0)))])) := by
  refine ent (by decide) (Nat.le_of_ble_eq_true rfl) ?_
  intro p e s m args below meth c hx hb hr hml hts hown hlocks hin A hA hK hO hP hD hS ls hl
  have hown : s.vm.findClass RX12 = some m.cls := hown
  have hl : lv_has ls 4 [(0, .ref z), (1, .int 0), (2, .int 3)] := hl
  have C0 : Cx p s m args c cX12_copyHall 4 RX12 G t := ⟨hx, hb, hml, hown, hts, hK, hO⟩
  refine lv_aload_n hx hb dX12_copyHall_0 rfl (lv_at hl 0 rfl) ?_
  refine gf hx hb hts hown hK hP 0 inT12 rfl rfl 16 (by decide) tw6_1 rfl dX12_copyHall_1 ?_
  refine lv_iconst (v := 1) hx hb dX12_copyHall_4 (by decide) ?_
  refine lv_iload_n hx hb dX12_copyHall_5 rfl (lv_at hl 1 rfl) ?_
  refine lv_iload_n hx hb dX12_copyHall_6 rfl (lv_at hl 2 rfl) ?_
  refine goV (rnS C0 (c_copyRow_1_0_3 l G t zn) lkX12_230 ⟨by decide, by decide⟩ (hP.sub (ws' := [(zn, .inl (t 1, 5, .inl (fun _ => 0)))]) [1] rfl) (hD.sub (ws' := [(zn, .inl (t 1, 5, .inl (fun _ => 0)))]) [1] (by decide) rfl) rfl hl.1 (rest := []) rfl (Nat.le_of_ble_eq_true rfl) dX12_copyHall_7 ⟨by decide, by decide⟩) hP hD hS hA [1] [0, 2, 3, 4, 5, 6] (wr := [(z, .inr (12, [.int 0, .ref zw, .ref zm, .ref zc, .ref zv, .ref zt, .int 0, .int 0, .int 0, .int 0, .int 0, .long 0, .int 0, .int 0, .int 0, .int (-1), .ref zn, .ref zh, .ref zp, .ref ze, .ref zs, .ref zg, .ref zk, .ref za, .ref zd, .ref zf, .ref zo, .ref zE, .ref zq, .int 0, .int 0, .int 0, .int 0, .int 0, .int 0, .ref zC])), (zh, .inl (t 1, 30, .inl (fun _ => 0))), (zp, .inl (t 1, 180, .inl (fun _ => 0))), (ze, .inl (t 1, 140, .inl (fun _ => 0))), (zg, .inl (t 1, 800, .inl (fun _ => 0))), (zs, .inl (t 3, 180, .inl (fun _ => 0)))]) rfl rfl (by decide) (by decide) (fun u H locs h_2 hP hD hS => ?_)
  have hP : va_P G vwCl [(z, .inr (12, [.int 0, .ref zw, .ref zm, .ref zc, .ref zv, .ref zt, .int 0, .int 0, .int 0, .int 0, .int 0, .long 0, .int 0, .int 0, .int 0, .int (-1), .ref zn, .ref zh, .ref zp, .ref ze, .ref zs, .ref zg, .ref zk, .ref za, .ref zd, .ref zf, .ref zo, .ref zE, .ref zq, .int 0, .int 0, .int 0, .int 0, .int 0, .int 0, .ref zC])), (zh, .inl (t 1, 30, .inl (fun _ => 0))), (zp, .inl (t 1, 180, .inl (fun _ => 0))), (ze, .inl (t 1, 140, .inl (fun _ => 0))), (zg, .inl (t 1, 800, .inl (fun _ => 0))), (zs, .inl (t 3, 180, .inl (fun _ => 0))), (zn, .inl (t 1, 5, .inl (fun _ => 0)))] H := hP
  have hD : va_D A [(z, .inr (12, [.int 0, .ref zw, .ref zm, .ref zc, .ref zv, .ref zt, .int 0, .int 0, .int 0, .int 0, .int 0, .long 0, .int 0, .int 0, .int 0, .int (-1), .ref zn, .ref zh, .ref zp, .ref ze, .ref zs, .ref zg, .ref zk, .ref za, .ref zd, .ref zf, .ref zo, .ref zE, .ref zq, .int 0, .int 0, .int 0, .int 0, .int 0, .int 0, .ref zC])), (zh, .inl (t 1, 30, .inl (fun _ => 0))), (zp, .inl (t 1, 180, .inl (fun _ => 0))), (ze, .inl (t 1, 140, .inl (fun _ => 0))), (zg, .inl (t 1, 800, .inl (fun _ => 0))), (zs, .inl (t 3, 180, .inl (fun _ => 0))), (zn, .inl (t 1, 5, .inl (fun _ => 0)))] := hD
  refine W.widen (k := 0) (n := 0) (Nat.le_of_ble_eq_true rfl) (Nat.le_of_ble_eq_true rfl) ?_
  refine lv_aload_n hx hb dX12_copyHall_10 rfl (lv_at hl 0 rfl) ?_
  refine gf hx hb hts hown hK hP 0 inT12 rfl rfl 17 (by decide) tw6_2 rfl dX12_copyHall_11 ?_
  refine lv_bipush (v := 6) hx hb dX12_copyHall_14 (by decide) ?_
  refine lv_iload_n hx hb dX12_copyHall_16 rfl (lv_at hl 1 rfl) ?_
  refine lv_iload_n hx hb dX12_copyHall_17 rfl (lv_at hl 2 rfl) ?_
  refine goV (rnS C0 (c_copyRow_6_0_3 l G t zh) lkX12_230 ⟨by decide, by decide⟩ (hP.sub (ws' := [(zh, .inl (t 1, 30, .inl (fun _ => 0)))]) [1] rfl) (hD.sub (ws' := [(zh, .inl (t 1, 30, .inl (fun _ => 0)))]) [1] (by decide) rfl) rfl hl.1 (rest := []) rfl (Nat.le_of_ble_eq_true rfl) dX12_copyHall_18 ⟨by decide, by decide⟩) hP hD hS hA [1] [0, 2, 3, 4, 5, 6] (wr := [(z, .inr (12, [.int 0, .ref zw, .ref zm, .ref zc, .ref zv, .ref zt, .int 0, .int 0, .int 0, .int 0, .int 0, .long 0, .int 0, .int 0, .int 0, .int (-1), .ref zn, .ref zh, .ref zp, .ref ze, .ref zs, .ref zg, .ref zk, .ref za, .ref zd, .ref zf, .ref zo, .ref zE, .ref zq, .int 0, .int 0, .int 0, .int 0, .int 0, .int 0, .ref zC])), (zp, .inl (t 1, 180, .inl (fun _ => 0))), (ze, .inl (t 1, 140, .inl (fun _ => 0))), (zg, .inl (t 1, 800, .inl (fun _ => 0))), (zs, .inl (t 3, 180, .inl (fun _ => 0))), (zn, .inl (t 1, 5, .inl (fun _ => 0)))]) rfl rfl (by decide) (by decide) (fun u H locs h_4 hP hD hS => ?_)
  have hP : va_P G vwCl [(z, .inr (12, [.int 0, .ref zw, .ref zm, .ref zc, .ref zv, .ref zt, .int 0, .int 0, .int 0, .int 0, .int 0, .long 0, .int 0, .int 0, .int 0, .int (-1), .ref zn, .ref zh, .ref zp, .ref ze, .ref zs, .ref zg, .ref zk, .ref za, .ref zd, .ref zf, .ref zo, .ref zE, .ref zq, .int 0, .int 0, .int 0, .int 0, .int 0, .int 0, .ref zC])), (zp, .inl (t 1, 180, .inl (fun _ => 0))), (ze, .inl (t 1, 140, .inl (fun _ => 0))), (zg, .inl (t 1, 800, .inl (fun _ => 0))), (zs, .inl (t 3, 180, .inl (fun _ => 0))), (zn, .inl (t 1, 5, .inl (fun _ => 0))), (zh, .inl (t 1, 30, .inl (fun _ => 0)))] H := hP
  have hD : va_D A [(z, .inr (12, [.int 0, .ref zw, .ref zm, .ref zc, .ref zv, .ref zt, .int 0, .int 0, .int 0, .int 0, .int 0, .long 0, .int 0, .int 0, .int 0, .int (-1), .ref zn, .ref zh, .ref zp, .ref ze, .ref zs, .ref zg, .ref zk, .ref za, .ref zd, .ref zf, .ref zo, .ref zE, .ref zq, .int 0, .int 0, .int 0, .int 0, .int 0, .int 0, .ref zC])), (zp, .inl (t 1, 180, .inl (fun _ => 0))), (ze, .inl (t 1, 140, .inl (fun _ => 0))), (zg, .inl (t 1, 800, .inl (fun _ => 0))), (zs, .inl (t 3, 180, .inl (fun _ => 0))), (zn, .inl (t 1, 5, .inl (fun _ => 0))), (zh, .inl (t 1, 30, .inl (fun _ => 0)))] := hD
  refine W.widen (k := 0) (n := 0) (Nat.le_of_ble_eq_true rfl) (Nat.le_of_ble_eq_true rfl) ?_
  refine lv_aload_n hx hb dX12_copyHall_21 rfl (lv_at hl 0 rfl) ?_
  refine gf hx hb hts hown hK hP 0 inT12 rfl rfl 18 (by decide) tw6_3 rfl dX12_copyHall_22 ?_
  refine lv_bipush (v := 36) hx hb dX12_copyHall_25 (by decide) ?_
  refine lv_iload_n hx hb dX12_copyHall_27 rfl (lv_at hl 1 rfl) ?_
  refine lv_iload_n hx hb dX12_copyHall_28 rfl (lv_at hl 2 rfl) ?_
  refine goV (rnS C0 (c_copyRow_36_0_3 l G t zp) lkX12_230 ⟨by decide, by decide⟩ (hP.sub (ws' := [(zp, .inl (t 1, 180, .inl (fun _ => 0)))]) [1] rfl) (hD.sub (ws' := [(zp, .inl (t 1, 180, .inl (fun _ => 0)))]) [1] (by decide) rfl) rfl hl.1 (rest := []) rfl (Nat.le_of_ble_eq_true rfl) dX12_copyHall_29 ⟨by decide, by decide⟩) hP hD hS hA [1] [0, 2, 3, 4, 5, 6] (wr := [(z, .inr (12, [.int 0, .ref zw, .ref zm, .ref zc, .ref zv, .ref zt, .int 0, .int 0, .int 0, .int 0, .int 0, .long 0, .int 0, .int 0, .int 0, .int (-1), .ref zn, .ref zh, .ref zp, .ref ze, .ref zs, .ref zg, .ref zk, .ref za, .ref zd, .ref zf, .ref zo, .ref zE, .ref zq, .int 0, .int 0, .int 0, .int 0, .int 0, .int 0, .ref zC])), (ze, .inl (t 1, 140, .inl (fun _ => 0))), (zg, .inl (t 1, 800, .inl (fun _ => 0))), (zs, .inl (t 3, 180, .inl (fun _ => 0))), (zn, .inl (t 1, 5, .inl (fun _ => 0))), (zh, .inl (t 1, 30, .inl (fun _ => 0)))]) rfl rfl (by decide) (by decide) (fun u H locs h_6 hP hD hS => ?_)
  have hP : va_P G vwCl [(z, .inr (12, [.int 0, .ref zw, .ref zm, .ref zc, .ref zv, .ref zt, .int 0, .int 0, .int 0, .int 0, .int 0, .long 0, .int 0, .int 0, .int 0, .int (-1), .ref zn, .ref zh, .ref zp, .ref ze, .ref zs, .ref zg, .ref zk, .ref za, .ref zd, .ref zf, .ref zo, .ref zE, .ref zq, .int 0, .int 0, .int 0, .int 0, .int 0, .int 0, .ref zC])), (ze, .inl (t 1, 140, .inl (fun _ => 0))), (zg, .inl (t 1, 800, .inl (fun _ => 0))), (zs, .inl (t 3, 180, .inl (fun _ => 0))), (zn, .inl (t 1, 5, .inl (fun _ => 0))), (zh, .inl (t 1, 30, .inl (fun _ => 0))), (zp, .inl (t 1, 180, .inl (fun _ => 0)))] H := hP
  have hD : va_D A [(z, .inr (12, [.int 0, .ref zw, .ref zm, .ref zc, .ref zv, .ref zt, .int 0, .int 0, .int 0, .int 0, .int 0, .long 0, .int 0, .int 0, .int 0, .int (-1), .ref zn, .ref zh, .ref zp, .ref ze, .ref zs, .ref zg, .ref zk, .ref za, .ref zd, .ref zf, .ref zo, .ref zE, .ref zq, .int 0, .int 0, .int 0, .int 0, .int 0, .int 0, .ref zC])), (ze, .inl (t 1, 140, .inl (fun _ => 0))), (zg, .inl (t 1, 800, .inl (fun _ => 0))), (zs, .inl (t 3, 180, .inl (fun _ => 0))), (zn, .inl (t 1, 5, .inl (fun _ => 0))), (zh, .inl (t 1, 30, .inl (fun _ => 0))), (zp, .inl (t 1, 180, .inl (fun _ => 0)))] := hD
  refine W.widen (k := 0) (n := 0) (Nat.le_of_ble_eq_true rfl) (Nat.le_of_ble_eq_true rfl) ?_
  refine lv_aload_n hx hb dX12_copyHall_32 rfl (lv_at hl 0 rfl) ?_
  refine gf hx hb hts hown hK hP 0 inT12 rfl rfl 19 (by decide) tw6_4 rfl dX12_copyHall_33 ?_
  refine lv_bipush (v := 28) hx hb dX12_copyHall_36 (by decide) ?_
  refine lv_iload_n hx hb dX12_copyHall_38 rfl (lv_at hl 1 rfl) ?_
  refine lv_iload_n hx hb dX12_copyHall_39 rfl (lv_at hl 2 rfl) ?_
  refine goV (rnS C0 (c_copyRow_28_0_3 l G t ze) lkX12_230 ⟨by decide, by decide⟩ (hP.sub (ws' := [(ze, .inl (t 1, 140, .inl (fun _ => 0)))]) [1] rfl) (hD.sub (ws' := [(ze, .inl (t 1, 140, .inl (fun _ => 0)))]) [1] (by decide) rfl) rfl hl.1 (rest := []) rfl (Nat.le_of_ble_eq_true rfl) dX12_copyHall_40 ⟨by decide, by decide⟩) hP hD hS hA [1] [0, 2, 3, 4, 5, 6] (wr := [(z, .inr (12, [.int 0, .ref zw, .ref zm, .ref zc, .ref zv, .ref zt, .int 0, .int 0, .int 0, .int 0, .int 0, .long 0, .int 0, .int 0, .int 0, .int (-1), .ref zn, .ref zh, .ref zp, .ref ze, .ref zs, .ref zg, .ref zk, .ref za, .ref zd, .ref zf, .ref zo, .ref zE, .ref zq, .int 0, .int 0, .int 0, .int 0, .int 0, .int 0, .ref zC])), (zg, .inl (t 1, 800, .inl (fun _ => 0))), (zs, .inl (t 3, 180, .inl (fun _ => 0))), (zn, .inl (t 1, 5, .inl (fun _ => 0))), (zh, .inl (t 1, 30, .inl (fun _ => 0))), (zp, .inl (t 1, 180, .inl (fun _ => 0)))]) rfl rfl (by decide) (by decide) (fun u H locs h_8 hP hD hS => ?_)
  have hP : va_P G vwCl [(z, .inr (12, [.int 0, .ref zw, .ref zm, .ref zc, .ref zv, .ref zt, .int 0, .int 0, .int 0, .int 0, .int 0, .long 0, .int 0, .int 0, .int 0, .int (-1), .ref zn, .ref zh, .ref zp, .ref ze, .ref zs, .ref zg, .ref zk, .ref za, .ref zd, .ref zf, .ref zo, .ref zE, .ref zq, .int 0, .int 0, .int 0, .int 0, .int 0, .int 0, .ref zC])), (zg, .inl (t 1, 800, .inl (fun _ => 0))), (zs, .inl (t 3, 180, .inl (fun _ => 0))), (zn, .inl (t 1, 5, .inl (fun _ => 0))), (zh, .inl (t 1, 30, .inl (fun _ => 0))), (zp, .inl (t 1, 180, .inl (fun _ => 0))), (ze, .inl (t 1, 140, .inl (fun _ => 0)))] H := hP
  have hD : va_D A [(z, .inr (12, [.int 0, .ref zw, .ref zm, .ref zc, .ref zv, .ref zt, .int 0, .int 0, .int 0, .int 0, .int 0, .long 0, .int 0, .int 0, .int 0, .int (-1), .ref zn, .ref zh, .ref zp, .ref ze, .ref zs, .ref zg, .ref zk, .ref za, .ref zd, .ref zf, .ref zo, .ref zE, .ref zq, .int 0, .int 0, .int 0, .int 0, .int 0, .int 0, .ref zC])), (zg, .inl (t 1, 800, .inl (fun _ => 0))), (zs, .inl (t 3, 180, .inl (fun _ => 0))), (zn, .inl (t 1, 5, .inl (fun _ => 0))), (zh, .inl (t 1, 30, .inl (fun _ => 0))), (zp, .inl (t 1, 180, .inl (fun _ => 0))), (ze, .inl (t 1, 140, .inl (fun _ => 0)))] := hD
  refine W.widen (k := 0) (n := 0) (Nat.le_of_ble_eq_true rfl) (Nat.le_of_ble_eq_true rfl) ?_
  refine lv_aload_n hx hb dX12_copyHall_43 rfl (lv_at hl 0 rfl) ?_
  refine gf hx hb hts hown hK hP 0 inT12 rfl rfl 21 (by decide) tw6_6 rfl dX12_copyHall_44 ?_
  refine lv_sipush (v := 160) hx hb dX12_copyHall_47 (by decide) ?_
  refine lv_iload_n hx hb dX12_copyHall_50 rfl (lv_at hl 1 rfl) ?_
  refine lv_iload_n hx hb dX12_copyHall_51 rfl (lv_at hl 2 rfl) ?_
  refine goV (rnS C0 (c_copyRow_160_0_3 l G t zg) lkX12_230 ⟨by decide, by decide⟩ (hP.sub (ws' := [(zg, .inl (t 1, 800, .inl (fun _ => 0)))]) [1] rfl) (hD.sub (ws' := [(zg, .inl (t 1, 800, .inl (fun _ => 0)))]) [1] (by decide) rfl) rfl hl.1 (rest := []) rfl (Nat.le_of_ble_eq_true rfl) dX12_copyHall_52 ⟨by decide, by decide⟩) hP hD hS hA [1] [0, 2, 3, 4, 5, 6] (wr := [(z, .inr (12, [.int 0, .ref zw, .ref zm, .ref zc, .ref zv, .ref zt, .int 0, .int 0, .int 0, .int 0, .int 0, .long 0, .int 0, .int 0, .int 0, .int (-1), .ref zn, .ref zh, .ref zp, .ref ze, .ref zs, .ref zg, .ref zk, .ref za, .ref zd, .ref zf, .ref zo, .ref zE, .ref zq, .int 0, .int 0, .int 0, .int 0, .int 0, .int 0, .ref zC])), (zs, .inl (t 3, 180, .inl (fun _ => 0))), (zn, .inl (t 1, 5, .inl (fun _ => 0))), (zh, .inl (t 1, 30, .inl (fun _ => 0))), (zp, .inl (t 1, 180, .inl (fun _ => 0))), (ze, .inl (t 1, 140, .inl (fun _ => 0)))]) rfl rfl (by decide) (by decide) (fun u H locs h_10 hP hD hS => ?_)
  have hP : va_P G vwCl [(z, .inr (12, [.int 0, .ref zw, .ref zm, .ref zc, .ref zv, .ref zt, .int 0, .int 0, .int 0, .int 0, .int 0, .long 0, .int 0, .int 0, .int 0, .int (-1), .ref zn, .ref zh, .ref zp, .ref ze, .ref zs, .ref zg, .ref zk, .ref za, .ref zd, .ref zf, .ref zo, .ref zE, .ref zq, .int 0, .int 0, .int 0, .int 0, .int 0, .int 0, .ref zC])), (zs, .inl (t 3, 180, .inl (fun _ => 0))), (zn, .inl (t 1, 5, .inl (fun _ => 0))), (zh, .inl (t 1, 30, .inl (fun _ => 0))), (zp, .inl (t 1, 180, .inl (fun _ => 0))), (ze, .inl (t 1, 140, .inl (fun _ => 0))), (zg, .inl (t 1, 800, .inl (fun _ => 0)))] H := hP
  have hD : va_D A [(z, .inr (12, [.int 0, .ref zw, .ref zm, .ref zc, .ref zv, .ref zt, .int 0, .int 0, .int 0, .int 0, .int 0, .long 0, .int 0, .int 0, .int 0, .int (-1), .ref zn, .ref zh, .ref zp, .ref ze, .ref zs, .ref zg, .ref zk, .ref za, .ref zd, .ref zf, .ref zo, .ref zE, .ref zq, .int 0, .int 0, .int 0, .int 0, .int 0, .int 0, .ref zC])), (zs, .inl (t 3, 180, .inl (fun _ => 0))), (zn, .inl (t 1, 5, .inl (fun _ => 0))), (zh, .inl (t 1, 30, .inl (fun _ => 0))), (zp, .inl (t 1, 180, .inl (fun _ => 0))), (ze, .inl (t 1, 140, .inl (fun _ => 0))), (zg, .inl (t 1, 800, .inl (fun _ => 0)))] := hD
  refine W.widen (k := 0) (n := 0) (Nat.le_of_ble_eq_true rfl) (Nat.le_of_ble_eq_true rfl) ?_
  refine lv_iconst (v := 0) hx hb dX12_copyHall_55 (by decide) ?_
  refine lv_istore_n (lv' := [(3, .int 0), (0, .ref z), (1, .int 0), (2, .int 3)]) hx hb dX12_copyHall_56 rfl hl (by decide) rfl (fun ls hl => ?_)
  have LP_11 : ∀ (n k : Nat), k + n = 36 → ∀ (H : Heap) (locs : List Loc) (ls : Array Slot), lv_has ls 4 [(3, .int (nI k)), (0, .ref z), (1, .int 0), (2, .int 3)] → va_P G vwCl [(z, .inr (12, [.int 0, .ref zw, .ref zm, .ref zc, .ref zv, .ref zt, .int 0, .int 0, .int 0, .int 0, .int 0, .long 0, .int 0, .int 0, .int 0, .int (-1), .ref zn, .ref zh, .ref zp, .ref ze, .ref zs, .ref zg, .ref zk, .ref za, .ref zd, .ref zf, .ref zo, .ref zE, .ref zq, .int 0, .int 0, .int 0, .int 0, .int 0, .int 0, .ref zC])), (zs, .inl (t 3, 180, .inl (fun _ => 0))), (zn, .inl (t 1, 5, .inl (fun _ => 0))), (zh, .inl (t 1, 30, .inl (fun _ => 0))), (zp, .inl (t 1, 180, .inl (fun _ => 0))), (ze, .inl (t 1, 140, .inl (fun _ => 0))), (zg, .inl (t 1, 800, .inl (fun _ => 0)))] H → va_D A [(z, .inr (12, [.int 0, .ref zw, .ref zm, .ref zc, .ref zv, .ref zt, .int 0, .int 0, .int 0, .int 0, .int 0, .long 0, .int 0, .int 0, .int 0, .int (-1), .ref zn, .ref zh, .ref zp, .ref ze, .ref zs, .ref zg, .ref zk, .ref za, .ref zd, .ref zf, .ref zo, .ref zE, .ref zq, .int 0, .int 0, .int 0, .int 0, .int 0, .int 0, .ref zC])), (zs, .inl (t 3, 180, .inl (fun _ => 0))), (zn, .inl (t 1, 5, .inl (fun _ => 0))), (zh, .inl (t 1, 30, .inl (fun _ => 0))), (zp, .inl (t 1, 180, .inl (fun _ => 0))), (ze, .inl (t 1, 140, .inl (fun _ => 0))), (zg, .inl (t 1, 800, .inl (fun _ => 0)))] → va_S A s.heap H locs → W p l e ({ frames := 1, cells := 0, slots := 0, locals := 24 }) s m args below meth c H locs 0 0 (MQ below ((QV G (fun (u : Unit) => True) (fun (u : Unit) => [(z, .inr (12, [.int 0, .ref zw, .ref zm, .ref zc, .ref zv, .ref zt, .int 0, .int 0, .int 0, .int 0, .int 0, .long 0, .int 0, .int 0, .int 0, .int (-1), .ref zn, .ref zh, .ref zp, .ref ze, .ref zs, .ref zg, .ref zk, .ref za, .ref zd, .ref zf, .ref zo, .ref zE, .ref zq, .int 0, .int 0, .int 0, .int 0, .int 0, .int 0, .ref zC])), (zn, .inl (t 1, 5, .inl (fun _ => 0))), (zh, .inl (t 1, 30, .inl (fun _ => 0))), (zp, .inl (t 1, 180, .inl (fun _ => 0))), (ze, .inl (t 1, 140, .inl (fun _ => 0))), (zg, .inl (t 1, 800, .inl (fun _ => 0))), (zs, .inl (t 3, 180, .inl (fun _ => 0)))])) A) args s 0 0 A) (F0 m 57 ls []) := by
    intro n
    induction n with
    | zero =>
      intro k hk H locs ls hl hP hD hS
      obtain rfl : k = 36 := by omega
      refine lv_iload_n hx hb dX12_copyHall_57 rfl (lv_at hl 0 rfl) ?_
      refine lv_bipush (v := 36) hx hb dX12_copyHall_58 (by decide) ?_
      refine lv_icmp_ge (tgt := 91) hx hb dX12_copyHall_60 (by decide) (fun _ => ?_) (fun c_12 => absurd (by decide) c_12)
      refine W.widen (k := 0) (n := 0) (by decide) (by decide) ?_
      exact rtV hx hb hr hlocks hS () (trivial) (hP.sub [0, 2, 3, 4, 5, 6, 1] rfl) (hD.sub [0, 2, 3, 4, 5, 6, 1] (by decide) rfl) dX12_copyHall_91
    | succ n ih =>
      intro k hk H locs ls hl hP hD hS
      refine lv_iload_n hx hb dX12_copyHall_57 rfl (lv_at hl 0 rfl) ?_
      refine lv_bipush (v := 36) hx hb dX12_copyHall_58 (by decide) ?_
      refine lv_icmp_ge (tgt := 91) hx hb dX12_copyHall_60 (by decide) (fun c_13 => absurd c_13 (show ¬ nI 36 ≤ nI k from nI_ge (by omega) (by decide))) (fun _ => ?_)
      refine lv_aload_n hx hb dX12_copyHall_63 rfl (lv_at hl 1 rfl) ?_
      refine gf hx hb hts hown hK hP 0 inT12 rfl rfl 20 (by decide) tw6_5 rfl dX12_copyHall_64 ?_
      refine lv_bipush (v := 36) hx hb dX12_copyHall_67 (by decide) ?_
      refine lv_iload_n hx hb dX12_copyHall_69 rfl (lv_at hl 3 rfl) ?_
      refine lv_imul hx hb dX12_copyHall_70 (tpi (v := 108) (by decide) ?_)
      refine lv_iload_n hx hb dX12_copyHall_71 rfl (lv_at hl 0 rfl) ?_
      refine lv_iadd hx hb dX12_copyHall_72 (tpi (v := (nI (108 + k))) (show nI 108 + nI k = nI (108 + k) from nI_add 108 k) ?_)
      refine lv_aload_n hx hb dX12_copyHall_73 rfl (lv_at hl 1 rfl) ?_
      refine gf hx hb hts hown hK hP 0 inT12 rfl rfl 20 (by decide) tw6_5 rfl dX12_copyHall_74 ?_
      refine lv_bipush (v := 36) hx hb dX12_copyHall_77 (by decide) ?_
      refine lv_iload_n hx hb dX12_copyHall_79 rfl (lv_at hl 2 rfl) ?_
      refine lv_imul hx hb dX12_copyHall_80 (tpi (v := 0) (by decide) ?_)
      refine lv_iload_n hx hb dX12_copyHall_81 rfl (lv_at hl 0 rfl) ?_
      refine lv_iadd hx hb dX12_copyHall_82 (tpi (v := (nI (0 + k))) (show nI 0 + nI k = nI (0 + k) from nI_add 0 k) ?_)
      refine ldZ hx hb hK hP 1 rfl (vp_in_nI (by omega) (by decide)) dX12_copyHall_83 (v := 0) (rfl) ?_
      refine stZ hx hb hK hP hD hS 1 rfl (vp_in_nI (by omega) (by decide)) dX12_copyHall_84 (f' := (fun _ => 0)) (upd_z _) (ws' := [(z, .inr (12, [.int 0, .ref zw, .ref zm, .ref zc, .ref zv, .ref zt, .int 0, .int 0, .int 0, .int 0, .int 0, .long 0, .int 0, .int 0, .int 0, .int (-1), .ref zn, .ref zh, .ref zp, .ref ze, .ref zs, .ref zg, .ref zk, .ref za, .ref zd, .ref zf, .ref zo, .ref zE, .ref zq, .int 0, .int 0, .int 0, .int 0, .int 0, .int 0, .ref zC])), (zs, .inl (t 3, 180, .inl (fun _ => 0))), (zn, .inl (t 1, 5, .inl (fun _ => 0))), (zh, .inl (t 1, 30, .inl (fun _ => 0))), (zp, .inl (t 1, 180, .inl (fun _ => 0))), (ze, .inl (t 1, 140, .inl (fun _ => 0))), (zg, .inl (t 1, 800, .inl (fun _ => 0)))]) rfl (fun H locs hP hD hS => ?_)
      refine lv_iinc (v := (nI (k + 1))) (lv' := [(3, .int (nI (k + 1))), (0, .ref z), (1, .int 0), (2, .int 3)]) hx hb dX12_copyHall_85 hl (k := 0) rfl (nI_1 k) (by decide) rfl (fun ls hl => ?_)
      refine lv_goto (tgt := 57) hx hb dX12_copyHall_88 (by decide) ?_
      exact ih (k + 1) (by omega) H locs ls (lv_sub hl [0, 1, 2, 3] rfl) (hP.sub [0, 1, 2, 3, 4, 5, 6] rfl) (hD.sub [0, 1, 2, 3, 4, 5, 6] (by decide) rfl) hS
  exact LP_11 36 0 (by omega) _ _ _ hl hP hD hS

set_option maxHeartbeats 4000000 in
set_option maxRecDepth 100000 in
theorem m_hall (l : Launch) (G : va_G) (t : Nat → ClassId) (z : Nat) (zw : Nat) (zm : Nat) (zc : Nat) (zv : Nat) (zt : Nat) (zn : Nat) (zh : Nat) (zp : Nat) (ze : Nat) (zs : Nat) (zg : Nat) (zk : Nat) (za : Nat) (zd : Nat) (zf : Nat) (zo : Nat) (zE : Nat) (zq : Nat) (zC : Nat) : Ct l G t yX12_hall cX12_hall 1 (some .int) ({ frames := 3, cells := 0, slots := 0, locals := 64 }) [.ref z] [(z, .inr (12, [.int 0, .ref zw, .ref zm, .ref zc, .ref zv, .ref zt, .int 0, .int 0, .int 0, .int 0, .int 0, .long 0, .int 0, .int 0, .int 0, .int (-1), .ref zn, .ref zh, .ref zp, .ref ze, .ref zs, .ref zg, .ref zk, .ref za, .ref zd, .ref zf, .ref zo, .ref zE, .ref zq, .int 0, .int 0, .int 0, .int 0, .int 0, .int 0, .ref zC])), (zn, .inl (t 1, 5, .inl (fun _ => 0))), (zh, .inl (t 1, 30, .inl (fun _ => 0))), (zp, .inl (t 1, 180, .inl (fun _ => 0))), (ze, .inl (t 1, 140, .inl (fun _ => 0))), (zg, .inl (t 1, 800, .inl (fun _ => 0))), (zs, .inl (t 3, 180, .inl (fun _ => 0)))] (QI G (fun r (u : Unit) => r = 0) (fun (u : Unit) => [])) := by
  refine ent (by decide) (Nat.le_of_ble_eq_true rfl) ?_
  intro p e s m args below meth c hx hb hr hml hts hown hlocks hin A hA hK hO hP hD hS ls hl
  have hown : s.vm.findClass RX12 = some m.cls := hown
  have hl : lv_has ls 1 [(0, .ref z)] := hl
  have C0 : Cx p s m args c cX12_hall 1 RX12 G t := ⟨hx, hb, hml, hown, hts, hK, hO⟩
  refine lv_aload_n hx hb dX12_hall_0 rfl (lv_at hl 0 rfl) ?_
  refine lv_iconst (v := 0) hx hb dX12_hall_1 (by decide) ?_
  refine pf hx hb hts hown hK hP hD hS 0 inT12 tyX12_ok nmX12 rfl rfl 0 (by decide) tw5_225 rfl rfl rfl (Nat.le_of_ble_eq_true rfl) dX12_hall_2 (ws' := [(z, .inr (12, [.int 0, .ref zw, .ref zm, .ref zc, .ref zv, .ref zt, .int 0, .int 0, .int 0, .int 0, .int 0, .long 0, .int 0, .int 0, .int 0, .int (-1), .ref zn, .ref zh, .ref zp, .ref ze, .ref zs, .ref zg, .ref zk, .ref za, .ref zd, .ref zf, .ref zo, .ref zE, .ref zq, .int 0, .int 0, .int 0, .int 0, .int 0, .int 0, .ref zC])), (zn, .inl (t 1, 5, .inl (fun _ => 0))), (zh, .inl (t 1, 30, .inl (fun _ => 0))), (zp, .inl (t 1, 180, .inl (fun _ => 0))), (ze, .inl (t 1, 140, .inl (fun _ => 0))), (zg, .inl (t 1, 800, .inl (fun _ => 0))), (zs, .inl (t 3, 180, .inl (fun _ => 0)))]) rfl (fun H locs hP hD hS => ?_)
  refine lv_aload_n hx hb dX12_hall_5 rfl (lv_at hl 0 rfl) ?_
  refine goV (rnV C0 (c_clears l G t z zw zm zc zv zt zn zh zp ze zs zg zk za zd zf zo zE zq zC) lkX12_203 ⟨by decide, by decide⟩ (hP.sub (ws' := [(z, .inr (12, [.int 0, .ref zw, .ref zm, .ref zc, .ref zv, .ref zt, .int 0, .int 0, .int 0, .int 0, .int 0, .long 0, .int 0, .int 0, .int 0, .int (-1), .ref zn, .ref zh, .ref zp, .ref ze, .ref zs, .ref zg, .ref zk, .ref za, .ref zd, .ref zf, .ref zo, .ref zE, .ref zq, .int 0, .int 0, .int 0, .int 0, .int 0, .int 0, .ref zC])), (zn, .inl (t 1, 5, .inl (fun _ => 0))), (zh, .inl (t 1, 30, .inl (fun _ => 0))), (zs, .inl (t 3, 180, .inl (fun _ => 0)))]) [0, 1, 2, 6] rfl) (hD.sub (ws' := [(z, .inr (12, [.int 0, .ref zw, .ref zm, .ref zc, .ref zv, .ref zt, .int 0, .int 0, .int 0, .int 0, .int 0, .long 0, .int 0, .int 0, .int 0, .int (-1), .ref zn, .ref zh, .ref zp, .ref ze, .ref zs, .ref zg, .ref zk, .ref za, .ref zd, .ref zf, .ref zo, .ref zE, .ref zq, .int 0, .int 0, .int 0, .int 0, .int 0, .int 0, .ref zC])), (zn, .inl (t 1, 5, .inl (fun _ => 0))), (zh, .inl (t 1, 30, .inl (fun _ => 0))), (zs, .inl (t 3, 180, .inl (fun _ => 0)))]) [0, 1, 2, 6] (by decide) rfl) 0 12 rfl rfl rfl rfl hl.1 (rest := []) rfl (Nat.le_of_ble_eq_true rfl) dX12_hall_6 ⟨by decide, by decide⟩) hP hD hS hA [0, 1, 2, 6] [3, 4, 5] (wr := [(zp, .inl (t 1, 180, .inl (fun _ => 0))), (ze, .inl (t 1, 140, .inl (fun _ => 0))), (zg, .inl (t 1, 800, .inl (fun _ => 0)))]) rfl rfl (by decide) (by decide) (fun u H locs h_2 hP hD hS => ?_)
  have hP : va_P G vwCl [(zp, .inl (t 1, 180, .inl (fun _ => 0))), (ze, .inl (t 1, 140, .inl (fun _ => 0))), (zg, .inl (t 1, 800, .inl (fun _ => 0))), (z, .inr (12, [.int 0, .ref zw, .ref zm, .ref zc, .ref zv, .ref zt, .int 0, .int 0, .int 0, .int 0, .int 0, .long 0, .int 0, .int 0, .int 0, .int (-1), .ref zn, .ref zh, .ref zp, .ref ze, .ref zs, .ref zg, .ref zk, .ref za, .ref zd, .ref zf, .ref zo, .ref zE, .ref zq, .int 0, .int 0, .int 0, .int 0, .int 0, .int 0, .ref zC])), (zn, .inl (t 1, 5, .inl (fun _ => 0))), (zh, .inl (t 1, 30, .inl (fun _ => 0))), (zs, .inl (t 3, 180, .inl (fun _ => 0)))] H := hP
  have hD : va_D A [(zp, .inl (t 1, 180, .inl (fun _ => 0))), (ze, .inl (t 1, 140, .inl (fun _ => 0))), (zg, .inl (t 1, 800, .inl (fun _ => 0))), (z, .inr (12, [.int 0, .ref zw, .ref zm, .ref zc, .ref zv, .ref zt, .int 0, .int 0, .int 0, .int 0, .int 0, .long 0, .int 0, .int 0, .int 0, .int (-1), .ref zn, .ref zh, .ref zp, .ref ze, .ref zs, .ref zg, .ref zk, .ref za, .ref zd, .ref zf, .ref zo, .ref zE, .ref zq, .int 0, .int 0, .int 0, .int 0, .int 0, .int 0, .ref zC])), (zn, .inl (t 1, 5, .inl (fun _ => 0))), (zh, .inl (t 1, 30, .inl (fun _ => 0))), (zs, .inl (t 3, 180, .inl (fun _ => 0)))] := hD
  refine W.widen (k := 0) (n := 0) (Nat.le_of_ble_eq_true rfl) (Nat.le_of_ble_eq_true rfl) ?_
  refine lv_aload_n hx hb dX12_hall_9 rfl (lv_at hl 0 rfl) ?_
  refine goV (rnV C0 (c_begins l G t z zw zm zc zv zt zn zh zp ze zs zg zk za zd zf zo zE zq zC) lkX12_206 ⟨by decide, by decide⟩ (hP.sub (ws' := [(z, .inr (12, [.int 0, .ref zw, .ref zm, .ref zc, .ref zv, .ref zt, .int 0, .int 0, .int 0, .int 0, .int 0, .long 0, .int 0, .int 0, .int 0, .int (-1), .ref zn, .ref zh, .ref zp, .ref ze, .ref zs, .ref zg, .ref zk, .ref za, .ref zd, .ref zf, .ref zo, .ref zE, .ref zq, .int 0, .int 0, .int 0, .int 0, .int 0, .int 0, .ref zC]))]) [3] rfl) (hD.sub (ws' := [(z, .inr (12, [.int 0, .ref zw, .ref zm, .ref zc, .ref zv, .ref zt, .int 0, .int 0, .int 0, .int 0, .int 0, .long 0, .int 0, .int 0, .int 0, .int (-1), .ref zn, .ref zh, .ref zp, .ref ze, .ref zs, .ref zg, .ref zk, .ref za, .ref zd, .ref zf, .ref zo, .ref zE, .ref zq, .int 0, .int 0, .int 0, .int 0, .int 0, .int 0, .ref zC]))]) [3] (by decide) rfl) 0 12 rfl rfl rfl rfl hl.1 (rest := []) rfl (Nat.le_of_ble_eq_true rfl) dX12_hall_10 ⟨by decide, by decide⟩) hP hD hS hA [3] [0, 1, 2, 4, 5, 6] (wr := [(zp, .inl (t 1, 180, .inl (fun _ => 0))), (ze, .inl (t 1, 140, .inl (fun _ => 0))), (zg, .inl (t 1, 800, .inl (fun _ => 0))), (zn, .inl (t 1, 5, .inl (fun _ => 0))), (zh, .inl (t 1, 30, .inl (fun _ => 0))), (zs, .inl (t 3, 180, .inl (fun _ => 0)))]) rfl rfl (by decide) (by decide) (fun u H locs h_4 hP hD hS => ?_)
  have hP : va_P G vwCl [(zp, .inl (t 1, 180, .inl (fun _ => 0))), (ze, .inl (t 1, 140, .inl (fun _ => 0))), (zg, .inl (t 1, 800, .inl (fun _ => 0))), (zn, .inl (t 1, 5, .inl (fun _ => 0))), (zh, .inl (t 1, 30, .inl (fun _ => 0))), (zs, .inl (t 3, 180, .inl (fun _ => 0))), (z, .inr (12, [.int 0, .ref zw, .ref zm, .ref zc, .ref zv, .ref zt, .int 0, .int 0, .int 0, .int 0, .int 0, .long 0, .int 0, .int (-1), .int 0, .int (-1), .ref zn, .ref zh, .ref zp, .ref ze, .ref zs, .ref zg, .ref zk, .ref za, .ref zd, .ref zf, .ref zo, .ref zE, .ref zq, .int 0, .int 0, .int 0, .int 0, .int 0, .int 0, .ref zC]))] H := hP
  have hD : va_D A [(zp, .inl (t 1, 180, .inl (fun _ => 0))), (ze, .inl (t 1, 140, .inl (fun _ => 0))), (zg, .inl (t 1, 800, .inl (fun _ => 0))), (zn, .inl (t 1, 5, .inl (fun _ => 0))), (zh, .inl (t 1, 30, .inl (fun _ => 0))), (zs, .inl (t 3, 180, .inl (fun _ => 0))), (z, .inr (12, [.int 0, .ref zw, .ref zm, .ref zc, .ref zv, .ref zt, .int 0, .int 0, .int 0, .int 0, .int 0, .long 0, .int 0, .int (-1), .int 0, .int (-1), .ref zn, .ref zh, .ref zp, .ref ze, .ref zs, .ref zg, .ref zk, .ref za, .ref zd, .ref zf, .ref zo, .ref zE, .ref zq, .int 0, .int 0, .int 0, .int 0, .int 0, .int 0, .ref zC]))] := hD
  refine W.widen (k := 0) (n := 0) (Nat.le_of_ble_eq_true rfl) (Nat.le_of_ble_eq_true rfl) ?_
  refine lv_aload_n hx hb dX12_hall_13 rfl (lv_at hl 0 rfl) ?_
  refine goI (rnV C0 (c_misGood l G t z zw zm zc zv zt zn zh zp ze zs zg zk za zd zf zo zE zq zC) lkX12_184 ⟨by decide, by decide⟩ (hP.sub (ws' := [(z, .inr (12, [.int 0, .ref zw, .ref zm, .ref zc, .ref zv, .ref zt, .int 0, .int 0, .int 0, .int 0, .int 0, .long 0, .int 0, .int (-1), .int 0, .int (-1), .ref zn, .ref zh, .ref zp, .ref ze, .ref zs, .ref zg, .ref zk, .ref za, .ref zd, .ref zf, .ref zo, .ref zE, .ref zq, .int 0, .int 0, .int 0, .int 0, .int 0, .int 0, .ref zC]))]) [6] rfl) (hD.sub (ws' := [(z, .inr (12, [.int 0, .ref zw, .ref zm, .ref zc, .ref zv, .ref zt, .int 0, .int 0, .int 0, .int 0, .int 0, .long 0, .int 0, .int (-1), .int 0, .int (-1), .ref zn, .ref zh, .ref zp, .ref ze, .ref zs, .ref zg, .ref zk, .ref za, .ref zd, .ref zf, .ref zo, .ref zE, .ref zq, .int 0, .int 0, .int 0, .int 0, .int 0, .int 0, .ref zC]))]) [6] (by decide) rfl) 0 12 rfl rfl rfl rfl hl.1 (rest := []) rfl (Nat.le_of_ble_eq_true rfl) dX12_hall_14 ⟨by decide, by decide⟩) hP hD hS hA [6] [0, 1, 2, 3, 4, 5] (wr := [(zp, .inl (t 1, 180, .inl (fun _ => 0))), (ze, .inl (t 1, 140, .inl (fun _ => 0))), (zg, .inl (t 1, 800, .inl (fun _ => 0))), (zn, .inl (t 1, 5, .inl (fun _ => 0))), (zh, .inl (t 1, 30, .inl (fun _ => 0))), (zs, .inl (t 3, 180, .inl (fun _ => 0)))]) rfl rfl (by decide) (by decide) (fun r_5 u H locs h_6 hP hD hS => ?_)
  have hP : va_P G vwCl [(zp, .inl (t 1, 180, .inl (fun _ => 0))), (ze, .inl (t 1, 140, .inl (fun _ => 0))), (zg, .inl (t 1, 800, .inl (fun _ => 0))), (zn, .inl (t 1, 5, .inl (fun _ => 0))), (zh, .inl (t 1, 30, .inl (fun _ => 0))), (zs, .inl (t 3, 180, .inl (fun _ => 0))), (z, .inr (12, [.int 0, .ref zw, .ref zm, .ref zc, .ref zv, .ref zt, .int 0, .int 0, .int 0, .int 0, .int 0, .long 0, .int 0, .int (-1), .int 0, .int (-1), .ref zn, .ref zh, .ref zp, .ref ze, .ref zs, .ref zg, .ref zk, .ref za, .ref zd, .ref zf, .ref zo, .ref zE, .ref zq, .int 0, .int 0, .int 0, .int 0, .int 0, .int 0, .ref zC]))] H := hP
  have hD : va_D A [(zp, .inl (t 1, 180, .inl (fun _ => 0))), (ze, .inl (t 1, 140, .inl (fun _ => 0))), (zg, .inl (t 1, 800, .inl (fun _ => 0))), (zn, .inl (t 1, 5, .inl (fun _ => 0))), (zh, .inl (t 1, 30, .inl (fun _ => 0))), (zs, .inl (t 3, 180, .inl (fun _ => 0))), (z, .inr (12, [.int 0, .ref zw, .ref zm, .ref zc, .ref zv, .ref zt, .int 0, .int 0, .int 0, .int 0, .int 0, .long 0, .int 0, .int (-1), .int 0, .int (-1), .ref zn, .ref zh, .ref zp, .ref ze, .ref zs, .ref zg, .ref zk, .ref za, .ref zd, .ref zf, .ref zo, .ref zE, .ref zq, .int 0, .int 0, .int 0, .int 0, .int 0, .int 0, .ref zC]))] := hD
  refine W.widen (k := 0) (n := 0) (Nat.le_of_ble_eq_true rfl) (Nat.le_of_ble_eq_true rfl) ?_
  obtain rfl : r_5 = 1 := h_6
  refine lv_if_eq (tgt := 125) hx hb dX12_hall_17 (by decide) (fun c_7 => absurd c_7 (by decide)) (fun _ => ?_)
  refine lv_aload_n hx hb dX12_hall_20 rfl (lv_at hl 0 rfl) ?_
  refine gf hx hb hts hown hK hP 6 inT12 rfl rfl 8 (by decide) tw5_233 rfl dX12_hall_21 ?_
  refine lv_if_eq (tgt := 125) hx hb dX12_hall_24 (by decide) (fun _ => ?_) (fun c_8 => absurd (by decide) c_8)
  refine lv_aload_n hx hb dX12_hall_125 rfl (lv_at hl 0 rfl) ?_
  refine goV (rnV C0 (c_isOver l G t z zw zm zc zv zt zn zh zp ze zs zg zk za zd zf zo zE zq zC) lkX12_223 ⟨by decide, by decide⟩ (hP.sub (ws' := [(z, .inr (12, [.int 0, .ref zw, .ref zm, .ref zc, .ref zv, .ref zt, .int 0, .int 0, .int 0, .int 0, .int 0, .long 0, .int 0, .int (-1), .int 0, .int (-1), .ref zn, .ref zh, .ref zp, .ref ze, .ref zs, .ref zg, .ref zk, .ref za, .ref zd, .ref zf, .ref zo, .ref zE, .ref zq, .int 0, .int 0, .int 0, .int 0, .int 0, .int 0, .ref zC]))]) [6] rfl) (hD.sub (ws' := [(z, .inr (12, [.int 0, .ref zw, .ref zm, .ref zc, .ref zv, .ref zt, .int 0, .int 0, .int 0, .int 0, .int 0, .long 0, .int 0, .int (-1), .int 0, .int (-1), .ref zn, .ref zh, .ref zp, .ref ze, .ref zs, .ref zg, .ref zk, .ref za, .ref zd, .ref zf, .ref zo, .ref zE, .ref zq, .int 0, .int 0, .int 0, .int 0, .int 0, .int 0, .ref zC]))]) [6] (by decide) rfl) 0 12 rfl rfl rfl rfl hl.1 (rest := []) rfl (Nat.le_of_ble_eq_true rfl) dX12_hall_126 ⟨by decide, by decide⟩) hP hD hS hA [6] [0, 1, 2, 3, 4, 5] (wr := [(zp, .inl (t 1, 180, .inl (fun _ => 0))), (ze, .inl (t 1, 140, .inl (fun _ => 0))), (zg, .inl (t 1, 800, .inl (fun _ => 0))), (zn, .inl (t 1, 5, .inl (fun _ => 0))), (zh, .inl (t 1, 30, .inl (fun _ => 0))), (zs, .inl (t 3, 180, .inl (fun _ => 0)))]) rfl rfl (by decide) (by decide) (fun u H locs h_10 hP hD hS => ?_)
  have hP : va_P G vwCl [(zp, .inl (t 1, 180, .inl (fun _ => 0))), (ze, .inl (t 1, 140, .inl (fun _ => 0))), (zg, .inl (t 1, 800, .inl (fun _ => 0))), (zn, .inl (t 1, 5, .inl (fun _ => 0))), (zh, .inl (t 1, 30, .inl (fun _ => 0))), (zs, .inl (t 3, 180, .inl (fun _ => 0))), (z, .inr (12, [.int 0, .ref zw, .ref zm, .ref zc, .ref zv, .ref zt, .int 0, .int 0, .int 0, .int 0, .int 0, .long 0, .int 0, .int (-1), .int 0, .int (-1), .ref zn, .ref zh, .ref zp, .ref ze, .ref zs, .ref zg, .ref zk, .ref za, .ref zd, .ref zf, .ref zo, .ref zE, .ref zq, .int 0, .int 0, .int 0, .int 0, .int 0, .int 0, .ref zC]))] H := hP
  have hD : va_D A [(zp, .inl (t 1, 180, .inl (fun _ => 0))), (ze, .inl (t 1, 140, .inl (fun _ => 0))), (zg, .inl (t 1, 800, .inl (fun _ => 0))), (zn, .inl (t 1, 5, .inl (fun _ => 0))), (zh, .inl (t 1, 30, .inl (fun _ => 0))), (zs, .inl (t 3, 180, .inl (fun _ => 0))), (z, .inr (12, [.int 0, .ref zw, .ref zm, .ref zc, .ref zv, .ref zt, .int 0, .int 0, .int 0, .int 0, .int 0, .long 0, .int 0, .int (-1), .int 0, .int (-1), .ref zn, .ref zh, .ref zp, .ref ze, .ref zs, .ref zg, .ref zk, .ref za, .ref zd, .ref zf, .ref zo, .ref zE, .ref zq, .int 0, .int 0, .int 0, .int 0, .int 0, .int 0, .ref zC]))] := hD
  refine W.widen (k := 0) (n := 0) (Nat.le_of_ble_eq_true rfl) (Nat.le_of_ble_eq_true rfl) ?_
  refine lv_aload_n hx hb dX12_hall_129 rfl (lv_at hl 0 rfl) ?_
  refine gf hx hb hts hown hK hP 6 inT12 rfl rfl 12 (by decide) tw5_237 rfl dX12_hall_130 ?_
  refine lv_if_eq (tgt := 139) hx hb dX12_hall_133 (by decide) (fun _ => ?_) (fun c_11 => absurd (by decide) c_11)
  refine lv_aload_n hx hb dX12_hall_139 rfl (lv_at hl 0 rfl) ?_
  refine lv_iconst (v := 4) hx hb dX12_hall_140 (by decide) ?_
  refine lv_iconst (v := 0) hx hb dX12_hall_141 (by decide) ?_
  refine goV (rnV C0 (c_copyHall_4_0 l G t z zw zm zc zv zt zn zh zp ze zs zg zk za zd zf zo zE zq zC) lkX12_226 ⟨by decide, by decide⟩ (hP.sub (ws' := [(z, .inr (12, [.int 0, .ref zw, .ref zm, .ref zc, .ref zv, .ref zt, .int 0, .int 0, .int 0, .int 0, .int 0, .long 0, .int 0, .int (-1), .int 0, .int (-1), .ref zn, .ref zh, .ref zp, .ref ze, .ref zs, .ref zg, .ref zk, .ref za, .ref zd, .ref zf, .ref zo, .ref zE, .ref zq, .int 0, .int 0, .int 0, .int 0, .int 0, .int 0, .ref zC])), (zn, .inl (t 1, 5, .inl (fun _ => 0))), (zh, .inl (t 1, 30, .inl (fun _ => 0))), (zp, .inl (t 1, 180, .inl (fun _ => 0))), (ze, .inl (t 1, 140, .inl (fun _ => 0))), (zg, .inl (t 1, 800, .inl (fun _ => 0))), (zs, .inl (t 3, 180, .inl (fun _ => 0)))]) [6, 3, 4, 0, 1, 2, 5] rfl) (hD.sub (ws' := [(z, .inr (12, [.int 0, .ref zw, .ref zm, .ref zc, .ref zv, .ref zt, .int 0, .int 0, .int 0, .int 0, .int 0, .long 0, .int 0, .int (-1), .int 0, .int (-1), .ref zn, .ref zh, .ref zp, .ref ze, .ref zs, .ref zg, .ref zk, .ref za, .ref zd, .ref zf, .ref zo, .ref zE, .ref zq, .int 0, .int 0, .int 0, .int 0, .int 0, .int 0, .ref zC])), (zn, .inl (t 1, 5, .inl (fun _ => 0))), (zh, .inl (t 1, 30, .inl (fun _ => 0))), (zp, .inl (t 1, 180, .inl (fun _ => 0))), (ze, .inl (t 1, 140, .inl (fun _ => 0))), (zg, .inl (t 1, 800, .inl (fun _ => 0))), (zs, .inl (t 3, 180, .inl (fun _ => 0)))]) [6, 3, 4, 0, 1, 2, 5] (by decide) rfl) 0 12 rfl rfl rfl rfl hl.1 (rest := []) rfl (Nat.le_of_ble_eq_true rfl) dX12_hall_142 ⟨by decide, by decide⟩) hP hD hS hA [6, 3, 4, 0, 1, 2, 5] [] (wr := []) rfl rfl (by decide) (by decide) (fun u H locs h_13 hP hD hS => ?_)
  have hP : va_P G vwCl [(z, .inr (12, [.int 0, .ref zw, .ref zm, .ref zc, .ref zv, .ref zt, .int 0, .int 0, .int 0, .int 0, .int 0, .long 0, .int 0, .int (-1), .int 0, .int (-1), .ref zn, .ref zh, .ref zp, .ref ze, .ref zs, .ref zg, .ref zk, .ref za, .ref zd, .ref zf, .ref zo, .ref zE, .ref zq, .int 0, .int 0, .int 0, .int 0, .int 0, .int 0, .ref zC])), (zn, .inl (t 1, 5, .inl (fun _ => 0))), (zh, .inl (t 1, 30, .inl (fun _ => 0))), (zp, .inl (t 1, 180, .inl (fun _ => 0))), (ze, .inl (t 1, 140, .inl (fun _ => 0))), (zg, .inl (t 1, 800, .inl (fun _ => 0))), (zs, .inl (t 3, 180, .inl (fun _ => 0)))] H := hP
  have hD : va_D A [(z, .inr (12, [.int 0, .ref zw, .ref zm, .ref zc, .ref zv, .ref zt, .int 0, .int 0, .int 0, .int 0, .int 0, .long 0, .int 0, .int (-1), .int 0, .int (-1), .ref zn, .ref zh, .ref zp, .ref ze, .ref zs, .ref zg, .ref zk, .ref za, .ref zd, .ref zf, .ref zo, .ref zE, .ref zq, .int 0, .int 0, .int 0, .int 0, .int 0, .int 0, .ref zC])), (zn, .inl (t 1, 5, .inl (fun _ => 0))), (zh, .inl (t 1, 30, .inl (fun _ => 0))), (zp, .inl (t 1, 180, .inl (fun _ => 0))), (ze, .inl (t 1, 140, .inl (fun _ => 0))), (zg, .inl (t 1, 800, .inl (fun _ => 0))), (zs, .inl (t 3, 180, .inl (fun _ => 0)))] := hD
  refine W.widen (k := 0) (n := 0) (Nat.le_of_ble_eq_true rfl) (Nat.le_of_ble_eq_true rfl) ?_
  refine lv_aload_n hx hb dX12_hall_145 rfl (lv_at hl 0 rfl) ?_
  refine gf hx hb hts hown hK hP 0 inT12 rfl rfl 16 (by decide) tw6_1 rfl dX12_hall_146 ?_
  refine lv_iconst (v := 0) hx hb dX12_hall_149 (by decide) ?_
  refine ldI hx hb hK hP 1 rfl (by unfold vp_in; decide) dX12_hall_150 (v := 0) (rfl) ?_
  refine W.widen (k := 0) (n := 0) (by decide) (by decide) ?_
  exact rtI hx hb hr hlocks hS () (rfl) (hP.sub [] rfl) (hD.sub [] (by decide) rfl) dX12_hall_151

set_option maxHeartbeats 4000000 in
set_option maxRecDepth 100000 in
theorem c_sitters (l : Launch) (G : va_G) (t : Nat → ClassId) (z : Nat) (zw : Nat) (zm : Nat) (zc : Nat) (zv : Nat) (zt : Nat) (zn : Nat) (zh : Nat) (zp : Nat) (ze : Nat) (zs : Nat) (zg : Nat) (zk : Nat) (za : Nat) (zd : Nat) (zf : Nat) (zo : Nat) (zE : Nat) (zq : Nat) (zC : Nat) : Ct l G t yX12_sitters cX12_sitters 3 (some .int) ({ frames := 0, cells := 0, slots := 0, locals := 0 }) [.ref z] [(z, .inr (12, [.int 0, .ref zw, .ref zm, .ref zc, .ref zv, .ref zt, .int 0, .int 0, .int 0, .int 0, .int 0, .long 0, .int 0, .int 0, .int 0, .int (-1), .ref zn, .ref zh, .ref zp, .ref ze, .ref zs, .ref zg, .ref zk, .ref za, .ref zd, .ref zf, .ref zo, .ref zE, .ref zq, .int 0, .int 0, .int 0, .int 0, .int 0, .int 0, .ref zC])), (zs, .inl (t 3, 180, .inl (fun _ => 0)))] (QI G (fun r (u : Unit) => r = 0) (fun (u : Unit) => [])) := by
  refine ent (by decide) (Nat.le_of_ble_eq_true rfl) ?_
  intro p e s m args below meth c hx hb hr hml hts hown hlocks hin A hA hK hO hP hD hS ls hl
  have hown : s.vm.findClass RX12 = some m.cls := hown
  have hl : lv_has ls 3 [(0, .ref z)] := hl
  have C0 : Cx p s m args c cX12_sitters 3 RX12 G t := ⟨hx, hb, hml, hown, hts, hK, hO⟩
  refine lv_iconst (v := 0) hx hb dX12_sitters_0 (by decide) ?_
  refine lv_istore_n (lv' := [(1, .int 0), (0, .ref z)]) hx hb dX12_sitters_1 rfl hl (by decide) rfl (fun ls hl => ?_)
  refine lv_iconst (v := 0) hx hb dX12_sitters_2 (by decide) ?_
  refine lv_istore_n (lv' := [(2, .int 0), (1, .int 0), (0, .ref z)]) hx hb dX12_sitters_3 rfl hl (by decide) rfl (fun ls hl => ?_)
  have LP_1 : ∀ (n k : Nat), k + n = 36 → ∀ (H : Heap) (locs : List Loc) (ls : Array Slot), lv_has ls 3 [(2, .int (nI k)), (1, .int 0), (0, .ref z)] → va_P G vwCl [(z, .inr (12, [.int 0, .ref zw, .ref zm, .ref zc, .ref zv, .ref zt, .int 0, .int 0, .int 0, .int 0, .int 0, .long 0, .int 0, .int 0, .int 0, .int (-1), .ref zn, .ref zh, .ref zp, .ref ze, .ref zs, .ref zg, .ref zk, .ref za, .ref zd, .ref zf, .ref zo, .ref zE, .ref zq, .int 0, .int 0, .int 0, .int 0, .int 0, .int 0, .ref zC])), (zs, .inl (t 3, 180, .inl (fun _ => 0)))] H → va_D A [(z, .inr (12, [.int 0, .ref zw, .ref zm, .ref zc, .ref zv, .ref zt, .int 0, .int 0, .int 0, .int 0, .int 0, .long 0, .int 0, .int 0, .int 0, .int (-1), .ref zn, .ref zh, .ref zp, .ref ze, .ref zs, .ref zg, .ref zk, .ref za, .ref zd, .ref zf, .ref zo, .ref zE, .ref zq, .int 0, .int 0, .int 0, .int 0, .int 0, .int 0, .ref zC])), (zs, .inl (t 3, 180, .inl (fun _ => 0)))] → va_S A s.heap H locs → W p l e ({ frames := 0, cells := 0, slots := 0, locals := 0 }) s m args below meth c H locs 0 0 (MQ below ((QI G (fun r (u : Unit) => r = 0) (fun (u : Unit) => [])) A) args s 0 0 A) (F0 m 4 ls []) := by
    intro n
    induction n with
    | zero =>
      intro k hk H locs ls hl hP hD hS
      obtain rfl : k = 36 := by omega
      refine lv_iload_n hx hb dX12_sitters_4 rfl (lv_at hl 0 rfl) ?_
      refine lv_bipush (v := 36) hx hb dX12_sitters_5 (by decide) ?_
      refine lv_icmp_ge (tgt := 33) hx hb dX12_sitters_7 (by decide) (fun _ => ?_) (fun c_2 => absurd (by decide) c_2)
      refine lv_iload_n hx hb dX12_sitters_33 rfl (lv_at hl 1 rfl) ?_
      refine W.widen (k := 0) (n := 0) (by decide) (by decide) ?_
      exact rtI hx hb hr hlocks hS () (rfl) (hP.sub [] rfl) (hD.sub [] (by decide) rfl) dX12_sitters_34
    | succ n ih =>
      intro k hk H locs ls hl hP hD hS
      refine lv_iload_n hx hb dX12_sitters_4 rfl (lv_at hl 0 rfl) ?_
      refine lv_bipush (v := 36) hx hb dX12_sitters_5 (by decide) ?_
      refine lv_icmp_ge (tgt := 33) hx hb dX12_sitters_7 (by decide) (fun c_3 => absurd c_3 (show ¬ nI 36 ≤ nI k from nI_ge (by omega) (by decide))) (fun _ => ?_)
      refine lv_iload_n hx hb dX12_sitters_10 rfl (lv_at hl 1 rfl) ?_
      refine lv_aload_n hx hb dX12_sitters_11 rfl (lv_at hl 2 rfl) ?_
      refine gf hx hb hts hown hK hP 0 inT12 rfl rfl 20 (by decide) tw6_5 rfl dX12_sitters_12 ?_
      refine lv_iload_n hx hb dX12_sitters_15 rfl (lv_at hl 0 rfl) ?_
      refine ldZ hx hb hK hP 1 rfl (vp_in_nI (by omega) (by decide)) dX12_sitters_16 (v := 0) (rfl) ?_
      refine lv_if_eq (tgt := 24) hx hb dX12_sitters_17 (by decide) (fun _ => ?_) (fun c_4 => absurd (by decide) c_4)
      refine lv_iconst (v := 0) hx hb dX12_sitters_24 (by decide) ?_
      refine lv_iadd hx hb dX12_sitters_25 (tpi (v := 0) (by decide) ?_)
      refine lv_istore_n (lv' := [(1, .int 0), (2, .int (nI k)), (0, .ref z)]) hx hb dX12_sitters_26 rfl hl (by decide) rfl (fun ls hl => ?_)
      refine lv_iinc (v := (nI (k + 1))) (lv' := [(2, .int (nI (k + 1))), (1, .int 0), (0, .ref z)]) hx hb dX12_sitters_27 hl (k := 1) rfl (nI_1 k) (by decide) rfl (fun ls hl => ?_)
      refine lv_goto (tgt := 4) hx hb dX12_sitters_30 (by decide) ?_
      exact ih (k + 1) (by omega) H locs ls (lv_sub hl [0, 1, 2] rfl) (hP.sub [0, 1] rfl) (hD.sub [0, 1] (by decide) rfl) hS
  exact LP_1 36 0 (by omega) _ _ _ hl hP hD hS

set_option maxHeartbeats 4000000 in
set_option maxRecDepth 100000 in
theorem m_count (l : Launch) (G : va_G) (t : Nat → ClassId) (z : Nat) (zw : Nat) (zm : Nat) (zc : Nat) (zv : Nat) (zt : Nat) (zn : Nat) (zh : Nat) (zp : Nat) (ze : Nat) (zs : Nat) (zg : Nat) (zk : Nat) (za : Nat) (zd : Nat) (zf : Nat) (zo : Nat) (zE : Nat) (zq : Nat) (zC : Nat) (a0 : Int32) : Ct l G t yX12_count cX12_count 4 (some .int) ({ frames := 1, cells := 0, slots := 0, locals := 25 }) [.ref z, .int a0] [(z, .inr (12, [.int 0, .ref zw, .ref zm, .ref zc, .ref zv, .ref zt, .int 0, .int 0, .int 0, .int 0, .int 0, .long 0, .int 0, .int 0, .int 0, .int (-1), .ref zn, .ref zh, .ref zp, .ref ze, .ref zs, .ref zg, .ref zk, .ref za, .ref zd, .ref zf, .ref zo, .ref zE, .ref zq, .int 0, .int 0, .int 0, .int 0, .int 0, .int 0, .ref zC])), (zn, .inl (t 1, 5, .inl (fun _ => 0))), (zh, .inl (t 1, 30, .inl (fun _ => 0))), (zs, .inl (t 3, 180, .inl (fun _ => 0))), (zw, .inl (t 1, 4, .inl (upd (upd (upd (upd (fun _ => 0) 0 (-1)) 1 (-1)) 2 (-1)) 3 (-1))))] (QI G (fun r (u : Unit) => (r = 0 ∧ 0 ≤ a0.toInt ∧ a0.toInt ≤ 9) ∨ (r = (-1) ∧ ¬ (0 ≤ a0.toInt ∧ a0.toInt ≤ 9))) (fun (u : Unit) => [])) := by
  refine ent (by decide) (Nat.le_of_ble_eq_true rfl) ?_
  intro p e s m args below meth c hx hb hr hml hts hown hlocks hin A hA hK hO hP hD hS ls hl
  have hown : s.vm.findClass RX12 = some m.cls := hown
  have hl : lv_has ls 4 [(0, .ref z), (1, .int a0)] := hl
  have C0 : Cx p s m args c cX12_count 4 RX12 G t := ⟨hx, hb, hml, hown, hts, hK, hO⟩
  refine lv_aload_n hx hb dX12_count_0 rfl (lv_at hl 0 rfl) ?_
  refine lv_iconst (v := 0) hx hb dX12_count_1 (by decide) ?_
  refine pf hx hb hts hown hK hP hD hS 0 inT12 tyX12_ok nmX12 rfl rfl 0 (by decide) tw5_225 rfl rfl rfl (Nat.le_of_ble_eq_true rfl) dX12_count_2 (ws' := [(z, .inr (12, [.int 0, .ref zw, .ref zm, .ref zc, .ref zv, .ref zt, .int 0, .int 0, .int 0, .int 0, .int 0, .long 0, .int 0, .int 0, .int 0, .int (-1), .ref zn, .ref zh, .ref zp, .ref ze, .ref zs, .ref zg, .ref zk, .ref za, .ref zd, .ref zf, .ref zo, .ref zE, .ref zq, .int 0, .int 0, .int 0, .int 0, .int 0, .int 0, .ref zC])), (zn, .inl (t 1, 5, .inl (fun _ => 0))), (zh, .inl (t 1, 30, .inl (fun _ => 0))), (zs, .inl (t 3, 180, .inl (fun _ => 0))), (zw, .inl (t 1, 4, .inl (upd (upd (upd (upd (fun _ => 0) 0 (-1)) 1 (-1)) 2 (-1)) 3 (-1))))]) rfl (fun H locs hP hD hS => ?_)
  refine lv_iload_n hx hb dX12_count_5 rfl (lv_at hl 1 rfl) ?_
  refine lv_i2l (v := a0.toInt64) hx hb dX12_count_6 (rfl) ?_
  refine lv_lconst (v := 0) hx hb dX12_count_7 (by decide) ?_
  refine lv_ldc2 hx hb hown (hts _ tw7_95) dX12_count_8 ?_
  refine goI (rnS C0 (c_in l G t a0.toInt64 0 4) lkX12_79 ⟨by decide, by decide⟩ (hP.sub (ws' := []) [] rfl) (hD.sub (ws' := []) [] (by decide) rfl) rfl hl.1 (rest := []) rfl (Nat.le_of_ble_eq_true rfl) dX12_count_11 ⟨by decide, by decide⟩) hP hD hS hA [] [0, 1, 2, 3, 4] (wr := [(z, .inr (12, [.int 0, .ref zw, .ref zm, .ref zc, .ref zv, .ref zt, .int 0, .int 0, .int 0, .int 0, .int 0, .long 0, .int 0, .int 0, .int 0, .int (-1), .ref zn, .ref zh, .ref zp, .ref ze, .ref zs, .ref zg, .ref zk, .ref za, .ref zd, .ref zf, .ref zo, .ref zE, .ref zq, .int 0, .int 0, .int 0, .int 0, .int 0, .int 0, .ref zC])), (zn, .inl (t 1, 5, .inl (fun _ => 0))), (zh, .inl (t 1, 30, .inl (fun _ => 0))), (zs, .inl (t 3, 180, .inl (fun _ => 0))), (zw, .inl (t 1, 4, .inl (upd (upd (upd (upd (fun _ => 0) 0 (-1)) 1 (-1)) 2 (-1)) 3 (-1))))]) rfl rfl (by decide) (by decide) (fun r_1 u H locs h_2 hP hD hS => ?_)
  have hP : va_P G vwCl [(z, .inr (12, [.int 0, .ref zw, .ref zm, .ref zc, .ref zv, .ref zt, .int 0, .int 0, .int 0, .int 0, .int 0, .long 0, .int 0, .int 0, .int 0, .int (-1), .ref zn, .ref zh, .ref zp, .ref ze, .ref zs, .ref zg, .ref zk, .ref za, .ref zd, .ref zf, .ref zo, .ref zE, .ref zq, .int 0, .int 0, .int 0, .int 0, .int 0, .int 0, .ref zC])), (zn, .inl (t 1, 5, .inl (fun _ => 0))), (zh, .inl (t 1, 30, .inl (fun _ => 0))), (zs, .inl (t 3, 180, .inl (fun _ => 0))), (zw, .inl (t 1, 4, .inl (upd (upd (upd (upd (fun _ => 0) 0 (-1)) 1 (-1)) 2 (-1)) 3 (-1))))] H := hP
  have hD : va_D A [(z, .inr (12, [.int 0, .ref zw, .ref zm, .ref zc, .ref zv, .ref zt, .int 0, .int 0, .int 0, .int 0, .int 0, .long 0, .int 0, .int 0, .int 0, .int (-1), .ref zn, .ref zh, .ref zp, .ref ze, .ref zs, .ref zg, .ref zk, .ref za, .ref zd, .ref zf, .ref zo, .ref zE, .ref zq, .int 0, .int 0, .int 0, .int 0, .int 0, .int 0, .ref zC])), (zn, .inl (t 1, 5, .inl (fun _ => 0))), (zh, .inl (t 1, 30, .inl (fun _ => 0))), (zs, .inl (t 3, 180, .inl (fun _ => 0))), (zw, .inl (t 1, 4, .inl (upd (upd (upd (upd (fun _ => 0) 0 (-1)) 1 (-1)) 2 (-1)) 3 (-1))))] := hD
  refine W.widen (k := 0) (n := 0) (Nat.le_of_ble_eq_true rfl) (Nat.le_of_ble_eq_true rfl) ?_
  have h_2 : (r_1 = 1 ∧ 0 ≤ a0.toInt64 ∧ a0.toInt64 ≤ 4) ∨ (r_1 = 0 ∧ ¬ (0 ≤ a0.toInt64 ∧ a0.toInt64 ≤ 4)) := h_2
  rcases h_2 with ⟨rfl, f_3⟩ | ⟨rfl, f_3⟩
  · refine lv_if_eq (tgt := 24) hx hb dX12_count_14 (by decide) (fun c_4 => absurd c_4 (by decide)) (fun _ => ?_)
    refine lv_aload_n hx hb dX12_count_17 rfl (lv_at hl 0 rfl) ?_
    refine gf hx hb hts hown hK hP 0 inT12 rfl rfl 17 (by decide) tw6_2 rfl dX12_count_18 ?_
    refine lv_iload_n hx hb dX12_count_21 rfl (lv_at hl 1 rfl) ?_
    refine ldI hx hb hK hP 2 rfl (i_vin (by (try simp only [zlt, zle, zeq, zle64, z64, z0, z1, z2, z3, z4, z5, z6, z7, z8, z9, z60, zm1, y0, y2, y3, y4, ym1] at f_3); (try simp only [zlt, zle, zeq, zle64, z64, z0, z1, z2, z3, z4, z5, z6, z7, z8, z9, z60, zm1, y0, y2, y3, y4, ym1]) <;> omega) (by (try simp only [zlt, zle, zeq, zle64, z64, z0, z1, z2, z3, z4, z5, z6, z7, z8, z9, z60, zm1, y0, y2, y3, y4, ym1] at f_3); (try simp only [zlt, zle, zeq, zle64, z64, z0, z1, z2, z3, z4, z5, z6, z7, z8, z9, z60, zm1, y0, y2, y3, y4, ym1]) <;> omega)) dX12_count_22 (v := 0) (rfl) ?_
    refine W.widen (k := 0) (n := 0) (by decide) (by decide) ?_
    exact rtI hx hb hr hlocks hS () (by first | exact Or.inl ⟨rfl, by (try simp only [zlt, zle, zeq, zle64, z64, z0, z1, z2, z3, z4, z5, z6, z7, z8, z9, z60, zm1, y0, y2, y3, y4, ym1] at f_3); (try simp only [zlt, zle, zeq, zle64, z64, z0, z1, z2, z3, z4, z5, z6, z7, z8, z9, z60, zm1, y0, y2, y3, y4, ym1]) <;> omega⟩) (hP.sub [] rfl) (hD.sub [] (by decide) rfl) dX12_count_23
  · refine lv_if_eq (tgt := 24) hx hb dX12_count_14 (by decide) (fun _ => ?_) (fun c_5 => absurd (by decide) c_5)
    refine lv_iconst (v := 0) hx hb dX12_count_24 (by decide) ?_
    refine lv_istore_n (lv' := [(2, .int 0), (0, .ref z), (1, .int a0)]) hx hb dX12_count_25 rfl hl (by decide) rfl (fun ls hl => ?_)
    refine lv_iload_n hx hb dX12_count_26 rfl (lv_at hl 2 rfl) ?_
    by_cases g_6 : a0 = 5
    · subst g_6
      refine lv_tableIn (tgt := 60) hx hb dX12_count_27 (by decide) (by decide) rfl (by decide) ?_
      refine lv_aload_n hx hb dX12_count_60 rfl (lv_at hl 1 rfl) ?_
      refine goI (rnV C0 (c_sitters l G t z zw zm zc zv zt zn zh zp ze zs zg zk za zd zf zo zE zq zC) lkX12_357 ⟨by decide, by decide⟩ (hP.sub (ws' := [(z, .inr (12, [.int 0, .ref zw, .ref zm, .ref zc, .ref zv, .ref zt, .int 0, .int 0, .int 0, .int 0, .int 0, .long 0, .int 0, .int 0, .int 0, .int (-1), .ref zn, .ref zh, .ref zp, .ref ze, .ref zs, .ref zg, .ref zk, .ref za, .ref zd, .ref zf, .ref zo, .ref zE, .ref zq, .int 0, .int 0, .int 0, .int 0, .int 0, .int 0, .ref zC])), (zs, .inl (t 3, 180, .inl (fun _ => 0)))]) [0, 3] rfl) (hD.sub (ws' := [(z, .inr (12, [.int 0, .ref zw, .ref zm, .ref zc, .ref zv, .ref zt, .int 0, .int 0, .int 0, .int 0, .int 0, .long 0, .int 0, .int 0, .int 0, .int (-1), .ref zn, .ref zh, .ref zp, .ref ze, .ref zs, .ref zg, .ref zk, .ref za, .ref zd, .ref zf, .ref zo, .ref zE, .ref zq, .int 0, .int 0, .int 0, .int 0, .int 0, .int 0, .ref zC])), (zs, .inl (t 3, 180, .inl (fun _ => 0)))]) [0, 3] (by decide) rfl) 0 12 rfl rfl rfl rfl hl.1 (rest := []) rfl (Nat.le_of_ble_eq_true rfl) dX12_count_61 ⟨by decide, by decide⟩) hP hD hS hA [0, 3] [1, 2, 4] (wr := [(zn, .inl (t 1, 5, .inl (fun _ => 0))), (zh, .inl (t 1, 30, .inl (fun _ => 0))), (zw, .inl (t 1, 4, .inl (upd (upd (upd (upd (fun _ => 0) 0 (-1)) 1 (-1)) 2 (-1)) 3 (-1))))]) rfl rfl (by decide) (by decide) (fun r_7 u H locs h_8 hP hD hS => ?_)
      have hP : va_P G vwCl [(zn, .inl (t 1, 5, .inl (fun _ => 0))), (zh, .inl (t 1, 30, .inl (fun _ => 0))), (zw, .inl (t 1, 4, .inl (upd (upd (upd (upd (fun _ => 0) 0 (-1)) 1 (-1)) 2 (-1)) 3 (-1))))] H := hP
      have hD : va_D A [(zn, .inl (t 1, 5, .inl (fun _ => 0))), (zh, .inl (t 1, 30, .inl (fun _ => 0))), (zw, .inl (t 1, 4, .inl (upd (upd (upd (upd (fun _ => 0) 0 (-1)) 1 (-1)) 2 (-1)) 3 (-1))))] := hD
      refine W.widen (k := 0) (n := 0) (Nat.le_of_ble_eq_true rfl) (Nat.le_of_ble_eq_true rfl) ?_
      obtain rfl : r_7 = 0 := h_8
      refine W.widen (k := 0) (n := 0) (by decide) (by decide) ?_
      exact rtI hx hb hr hlocks hS () (by first | exact Or.inl ⟨rfl, by (try simp only [zlt, zle, zeq, zle64, z64, z0, z1, z2, z3, z4, z5, z6, z7, z8, z9, z60, zm1, y0, y2, y3, y4, ym1] at f_3); (try simp only [zlt, zle, zeq, zle64, z64, z0, z1, z2, z3, z4, z5, z6, z7, z8, z9, z60, zm1, y0, y2, y3, y4, ym1]) <;> omega⟩) (hP.sub [] rfl) (hD.sub [] (by decide) rfl) dX12_count_64
    by_cases g_9 : a0 = 6
    · subst g_9
      refine lv_tableIn (tgt := 65) hx hb dX12_count_27 (by decide) (by decide) rfl (by decide) ?_
      refine lv_aload_n hx hb dX12_count_65 rfl (lv_at hl 1 rfl) ?_
      refine gf hx hb hts hown hK hP 0 inT12 rfl rfl 17 (by decide) tw6_2 rfl dX12_count_66 ?_
      refine lv_iconst (v := 5) hx hb dX12_count_69 (by decide) ?_
      refine ldI hx hb hK hP 2 rfl (by unfold vp_in; decide) dX12_count_70 (v := 0) (rfl) ?_
      refine W.widen (k := 0) (n := 0) (by decide) (by decide) ?_
      exact rtI hx hb hr hlocks hS () (by first | exact Or.inl ⟨rfl, by (try simp only [zlt, zle, zeq, zle64, z64, z0, z1, z2, z3, z4, z5, z6, z7, z8, z9, z60, zm1, y0, y2, y3, y4, ym1] at f_3); (try simp only [zlt, zle, zeq, zle64, z64, z0, z1, z2, z3, z4, z5, z6, z7, z8, z9, z60, zm1, y0, y2, y3, y4, ym1]) <;> omega⟩) (hP.sub [] rfl) (hD.sub [] (by decide) rfl) dX12_count_71
    by_cases g_10 : a0 = 7
    · subst g_10
      refine lv_tableIn (tgt := 72) hx hb dX12_count_27 (by decide) (by decide) rfl (by decide) ?_
      refine lv_aload_n hx hb dX12_count_72 rfl (lv_at hl 1 rfl) ?_
      refine gf hx hb hts hown hK hP 0 inT12 rfl rfl 16 (by decide) tw6_1 rfl dX12_count_73 ?_
      refine lv_iconst (v := 0) hx hb dX12_count_76 (by decide) ?_
      refine ldI hx hb hK hP 1 rfl (by unfold vp_in; decide) dX12_count_77 (v := 0) (rfl) ?_
      refine W.widen (k := 0) (n := 0) (by decide) (by decide) ?_
      exact rtI hx hb hr hlocks hS () (by first | exact Or.inl ⟨rfl, by (try simp only [zlt, zle, zeq, zle64, z64, z0, z1, z2, z3, z4, z5, z6, z7, z8, z9, z60, zm1, y0, y2, y3, y4, ym1] at f_3); (try simp only [zlt, zle, zeq, zle64, z64, z0, z1, z2, z3, z4, z5, z6, z7, z8, z9, z60, zm1, y0, y2, y3, y4, ym1]) <;> omega⟩) (hP.sub [] rfl) (hD.sub [] (by decide) rfl) dX12_count_78
    by_cases g_11 : a0 = 8
    · subst g_11
      refine lv_tableIn (tgt := 79) hx hb dX12_count_27 (by decide) (by decide) rfl (by decide) ?_
      refine lv_aload_n hx hb dX12_count_79 rfl (lv_at hl 1 rfl) ?_
      refine gf hx hb hts hown hK hP 0 inT12 rfl rfl 6 (by decide) tw5_231 rfl dX12_count_80 ?_
      refine W.widen (k := 0) (n := 0) (by decide) (by decide) ?_
      exact rtI hx hb hr hlocks hS () (by first | exact Or.inl ⟨rfl, by (try simp only [zlt, zle, zeq, zle64, z64, z0, z1, z2, z3, z4, z5, z6, z7, z8, z9, z60, zm1, y0, y2, y3, y4, ym1] at f_3); (try simp only [zlt, zle, zeq, zle64, z64, z0, z1, z2, z3, z4, z5, z6, z7, z8, z9, z60, zm1, y0, y2, y3, y4, ym1]) <;> omega⟩) (hP.sub [] rfl) (hD.sub [] (by decide) rfl) dX12_count_83
    by_cases g_12 : a0 = 9
    · subst g_12
      refine lv_tableIn (tgt := 84) hx hb dX12_count_27 (by decide) (by decide) rfl (by decide) ?_
      refine lv_iconst (v := 0) hx hb dX12_count_84 (by decide) ?_
      refine lv_istore_n (lv' := [(3, .int 0), (2, .int 0), (0, .ref z), (1, .int 9)]) hx hb dX12_count_85 rfl hl (by decide) rfl (fun ls hl => ?_)
      refine lv_iload_n hx hb dX12_count_86 rfl (lv_at hl 0 rfl) ?_
      refine lv_iconst (v := 4) hx hb dX12_count_87 (by decide) ?_
      refine lv_icmp_ge (tgt := 115) hx hb dX12_count_88 (by decide) (fun c_13 => absurd c_13 (by decide)) (fun _ => ?_)
      refine lv_iload_n hx hb dX12_count_91 rfl (lv_at hl 1 rfl) ?_
      refine lv_aload_n hx hb dX12_count_92 rfl (lv_at hl 2 rfl) ?_
      refine gf hx hb hts hown hK hP 0 inT12 rfl rfl 1 (by decide) tw5_226 rfl dX12_count_93 ?_
      refine lv_iload_n hx hb dX12_count_96 rfl (lv_at hl 0 rfl) ?_
      refine ldI hx hb hK hP 4 rfl (by unfold vp_in; decide) dX12_count_97 (v := (-1)) (rfl) ?_
      refine lv_iconst (v := (-1)) hx hb dX12_count_98 (by decide) ?_
      refine lv_icmp_ne (tgt := 106) hx hb dX12_count_99 (by decide) (fun c_14 => absurd (by decide) c_14) (fun _ => ?_)
      refine lv_iconst (v := 0) hx hb dX12_count_102 (by decide) ?_
      refine lv_goto (tgt := 107) hx hb dX12_count_103 (by decide) ?_
      refine lv_iadd hx hb dX12_count_107 (tpi (v := 0) (by decide) ?_)
      refine lv_istore_n (lv' := [(2, .int 0), (3, .int 0), (0, .ref z), (1, .int 9)]) hx hb dX12_count_108 rfl hl (by decide) rfl (fun ls hl => ?_)
      refine lv_iinc (v := 1) (lv' := [(3, .int 1), (2, .int 0), (0, .ref z), (1, .int 9)]) hx hb dX12_count_109 hl (k := 1) rfl (by decide) (by decide) rfl (fun ls hl => ?_)
      refine lv_goto (tgt := 86) hx hb dX12_count_112 (by decide) ?_
      refine lv_iload_n hx hb dX12_count_86 rfl (lv_at hl 0 rfl) ?_
      refine lv_iconst (v := 4) hx hb dX12_count_87 (by decide) ?_
      refine lv_icmp_ge (tgt := 115) hx hb dX12_count_88 (by decide) (fun c_15 => absurd c_15 (by decide)) (fun _ => ?_)
      refine lv_iload_n hx hb dX12_count_91 rfl (lv_at hl 1 rfl) ?_
      refine lv_aload_n hx hb dX12_count_92 rfl (lv_at hl 2 rfl) ?_
      refine gf hx hb hts hown hK hP 0 inT12 rfl rfl 1 (by decide) tw5_226 rfl dX12_count_93 ?_
      refine lv_iload_n hx hb dX12_count_96 rfl (lv_at hl 0 rfl) ?_
      refine ldI hx hb hK hP 4 rfl (by unfold vp_in; decide) dX12_count_97 (v := (-1)) (rfl) ?_
      refine lv_iconst (v := (-1)) hx hb dX12_count_98 (by decide) ?_
      refine lv_icmp_ne (tgt := 106) hx hb dX12_count_99 (by decide) (fun c_16 => absurd (by decide) c_16) (fun _ => ?_)
      refine lv_iconst (v := 0) hx hb dX12_count_102 (by decide) ?_
      refine lv_goto (tgt := 107) hx hb dX12_count_103 (by decide) ?_
      refine lv_iadd hx hb dX12_count_107 (tpi (v := 0) (by decide) ?_)
      refine lv_istore_n (lv' := [(2, .int 0), (3, .int 1), (0, .ref z), (1, .int 9)]) hx hb dX12_count_108 rfl hl (by decide) rfl (fun ls hl => ?_)
      refine lv_iinc (v := 2) (lv' := [(3, .int 2), (2, .int 0), (0, .ref z), (1, .int 9)]) hx hb dX12_count_109 hl (k := 1) rfl (by decide) (by decide) rfl (fun ls hl => ?_)
      refine lv_goto (tgt := 86) hx hb dX12_count_112 (by decide) ?_
      refine lv_iload_n hx hb dX12_count_86 rfl (lv_at hl 0 rfl) ?_
      refine lv_iconst (v := 4) hx hb dX12_count_87 (by decide) ?_
      refine lv_icmp_ge (tgt := 115) hx hb dX12_count_88 (by decide) (fun c_17 => absurd c_17 (by decide)) (fun _ => ?_)
      refine lv_iload_n hx hb dX12_count_91 rfl (lv_at hl 1 rfl) ?_
      refine lv_aload_n hx hb dX12_count_92 rfl (lv_at hl 2 rfl) ?_
      refine gf hx hb hts hown hK hP 0 inT12 rfl rfl 1 (by decide) tw5_226 rfl dX12_count_93 ?_
      refine lv_iload_n hx hb dX12_count_96 rfl (lv_at hl 0 rfl) ?_
      refine ldI hx hb hK hP 4 rfl (by unfold vp_in; decide) dX12_count_97 (v := (-1)) (rfl) ?_
      refine lv_iconst (v := (-1)) hx hb dX12_count_98 (by decide) ?_
      refine lv_icmp_ne (tgt := 106) hx hb dX12_count_99 (by decide) (fun c_18 => absurd (by decide) c_18) (fun _ => ?_)
      refine lv_iconst (v := 0) hx hb dX12_count_102 (by decide) ?_
      refine lv_goto (tgt := 107) hx hb dX12_count_103 (by decide) ?_
      refine lv_iadd hx hb dX12_count_107 (tpi (v := 0) (by decide) ?_)
      refine lv_istore_n (lv' := [(2, .int 0), (3, .int 2), (0, .ref z), (1, .int 9)]) hx hb dX12_count_108 rfl hl (by decide) rfl (fun ls hl => ?_)
      refine lv_iinc (v := 3) (lv' := [(3, .int 3), (2, .int 0), (0, .ref z), (1, .int 9)]) hx hb dX12_count_109 hl (k := 1) rfl (by decide) (by decide) rfl (fun ls hl => ?_)
      refine lv_goto (tgt := 86) hx hb dX12_count_112 (by decide) ?_
      refine lv_iload_n hx hb dX12_count_86 rfl (lv_at hl 0 rfl) ?_
      refine lv_iconst (v := 4) hx hb dX12_count_87 (by decide) ?_
      refine lv_icmp_ge (tgt := 115) hx hb dX12_count_88 (by decide) (fun c_19 => absurd c_19 (by decide)) (fun _ => ?_)
      refine lv_iload_n hx hb dX12_count_91 rfl (lv_at hl 1 rfl) ?_
      refine lv_aload_n hx hb dX12_count_92 rfl (lv_at hl 2 rfl) ?_
      refine gf hx hb hts hown hK hP 0 inT12 rfl rfl 1 (by decide) tw5_226 rfl dX12_count_93 ?_
      refine lv_iload_n hx hb dX12_count_96 rfl (lv_at hl 0 rfl) ?_
      refine ldI hx hb hK hP 4 rfl (by unfold vp_in; decide) dX12_count_97 (v := (-1)) (rfl) ?_
      refine lv_iconst (v := (-1)) hx hb dX12_count_98 (by decide) ?_
      refine lv_icmp_ne (tgt := 106) hx hb dX12_count_99 (by decide) (fun c_20 => absurd (by decide) c_20) (fun _ => ?_)
      refine lv_iconst (v := 0) hx hb dX12_count_102 (by decide) ?_
      refine lv_goto (tgt := 107) hx hb dX12_count_103 (by decide) ?_
      refine lv_iadd hx hb dX12_count_107 (tpi (v := 0) (by decide) ?_)
      refine lv_istore_n (lv' := [(2, .int 0), (3, .int 3), (0, .ref z), (1, .int 9)]) hx hb dX12_count_108 rfl hl (by decide) rfl (fun ls hl => ?_)
      refine lv_iinc (v := 4) (lv' := [(3, .int 4), (2, .int 0), (0, .ref z), (1, .int 9)]) hx hb dX12_count_109 hl (k := 1) rfl (by decide) (by decide) rfl (fun ls hl => ?_)
      refine lv_goto (tgt := 86) hx hb dX12_count_112 (by decide) ?_
      refine lv_iload_n hx hb dX12_count_86 rfl (lv_at hl 0 rfl) ?_
      refine lv_iconst (v := 4) hx hb dX12_count_87 (by decide) ?_
      refine lv_icmp_ge (tgt := 115) hx hb dX12_count_88 (by decide) (fun _ => ?_) (fun c_21 => absurd (by decide) c_21)
      refine lv_iload_n hx hb dX12_count_115 rfl (lv_at hl 1 rfl) ?_
      refine W.widen (k := 0) (n := 0) (by decide) (by decide) ?_
      exact rtI hx hb hr hlocks hS () (by first | exact Or.inl ⟨rfl, by (try simp only [zlt, zle, zeq, zle64, z64, z0, z1, z2, z3, z4, z5, z6, z7, z8, z9, z60, zm1, y0, y2, y3, y4, ym1] at f_3); (try simp only [zlt, zle, zeq, zle64, z64, z0, z1, z2, z3, z4, z5, z6, z7, z8, z9, z60, zm1, y0, y2, y3, y4, ym1]) <;> omega⟩) (hP.sub [] rfl) (hD.sub [] (by decide) rfl) dX12_count_116
    refine lv_tableOut (tgt := 117) hx hb dX12_count_27 (by have ng_6 := lv_neT (a := 5) g_6 rfl; have ng_9 := lv_neT (a := 6) g_9 rfl; have ng_10 := lv_neT (a := 7) g_10 rfl; have ng_11 := lv_neT (a := 8) g_11 rfl; have ng_12 := lv_neT (a := 9) g_12 rfl; omega) (by decide) ?_
    refine lv_iconst (v := (-1)) hx hb dX12_count_117 (by decide) ?_
    refine W.widen (k := 0) (n := 0) (by decide) (by decide) ?_
    exact rtI hx hb hr hlocks hS () (by first | exact Or.inr (⟨rfl, by (try simp only [zlt, zle, zeq, zle64, z64, z0, z1, z2, z3, z4, z5, z6, z7, z8, z9, z60, zm1, y0, y2, y3, y4, ym1] at f_3); (try simp only [zlt, zle, zeq, zle64, z64, z0, z1, z2, z3, z4, z5, z6, z7, z8, z9, z60, zm1, y0, y2, y3, y4, ym1] at g_6); (try simp only [zlt, zle, zeq, zle64, z64, z0, z1, z2, z3, z4, z5, z6, z7, z8, z9, z60, zm1, y0, y2, y3, y4, ym1] at g_9); (try simp only [zlt, zle, zeq, zle64, z64, z0, z1, z2, z3, z4, z5, z6, z7, z8, z9, z60, zm1, y0, y2, y3, y4, ym1] at g_10); (try simp only [zlt, zle, zeq, zle64, z64, z0, z1, z2, z3, z4, z5, z6, z7, z8, z9, z60, zm1, y0, y2, y3, y4, ym1] at g_11); (try simp only [zlt, zle, zeq, zle64, z64, z0, z1, z2, z3, z4, z5, z6, z7, z8, z9, z60, zm1, y0, y2, y3, y4, ym1] at g_12); (try simp only [zlt, zle, zeq, zle64, z64, z0, z1, z2, z3, z4, z5, z6, z7, z8, z9, z60, zm1, y0, y2, y3, y4, ym1]) <;> omega⟩)) (hP.sub [] rfl) (hD.sub [] (by decide) rfl) dX12_count_118

set_option maxHeartbeats 4000000 in
set_option maxRecDepth 100000 in
theorem m_image (l : Launch) (G : va_G) (t : Nat → ClassId) (z : Nat) (zw : Nat) (zm : Nat) (zc : Nat) (zv : Nat) (zt : Nat) (zn : Nat) (zh : Nat) (zp : Nat) (ze : Nat) (zs : Nat) (zg : Nat) (zk : Nat) (za : Nat) (zd : Nat) (zf : Nat) (zo : Nat) (zE : Nat) (zq : Nat) (zC : Nat) (a0 : Int32) : Ct l G t yX12_image cX12_image 2 (some .int) ({ frames := 2, cells := 0, slots := 0, locals := 47 }) [.ref z, .int a0] [(z, .inr (12, [.int 0, .ref zw, .ref zm, .ref zc, .ref zv, .ref zt, .int 0, .int 0, .int 0, .int 0, .int 0, .long 0, .int 0, .int 0, .int 0, .int (-1), .ref zn, .ref zh, .ref zp, .ref ze, .ref zs, .ref zg, .ref zk, .ref za, .ref zd, .ref zf, .ref zo, .ref zE, .ref zq, .int 0, .int 0, .int 0, .int 0, .int 0, .int 0, .ref zC])), (zn, .inl (t 1, 5, .inl (fun _ => 0))), (zh, .inl (t 1, 30, .inl (fun _ => 0))), (zp, .inl (t 1, 180, .inl (fun _ => 0))), (ze, .inl (t 1, 140, .inl (fun _ => 0))), (zg, .inl (t 1, 800, .inl (fun _ => 0))), (zs, .inl (t 3, 180, .inl (fun _ => 0))), (zk, .inl (t 3, 3, .inl (fun _ => 0)))] (QI G (fun r (u : Unit) => (r = 0 ∧ 0 ≤ a0.toInt ∧ a0.toInt ≤ 2) ∨ (r = (-2) ∧ ¬ (0 ≤ a0.toInt ∧ a0.toInt ≤ 2))) (fun (u : Unit) => [])) := by
  refine ent (by decide) (Nat.le_of_ble_eq_true rfl) ?_
  intro p e s m args below meth c hx hb hr hml hts hown hlocks hin A hA hK hO hP hD hS ls hl
  have hown : s.vm.findClass RX12 = some m.cls := hown
  have hl : lv_has ls 2 [(0, .ref z), (1, .int a0)] := hl
  have C0 : Cx p s m args c cX12_image 2 RX12 G t := ⟨hx, hb, hml, hown, hts, hK, hO⟩
  refine lv_aload_n hx hb dX12_image_0 rfl (lv_at hl 0 rfl) ?_
  refine lv_iconst (v := 0) hx hb dX12_image_1 (by decide) ?_
  refine pf hx hb hts hown hK hP hD hS 0 inT12 tyX12_ok nmX12 rfl rfl 0 (by decide) tw5_225 rfl rfl rfl (Nat.le_of_ble_eq_true rfl) dX12_image_2 (ws' := [(z, .inr (12, [.int 0, .ref zw, .ref zm, .ref zc, .ref zv, .ref zt, .int 0, .int 0, .int 0, .int 0, .int 0, .long 0, .int 0, .int 0, .int 0, .int (-1), .ref zn, .ref zh, .ref zp, .ref ze, .ref zs, .ref zg, .ref zk, .ref za, .ref zd, .ref zf, .ref zo, .ref zE, .ref zq, .int 0, .int 0, .int 0, .int 0, .int 0, .int 0, .ref zC])), (zn, .inl (t 1, 5, .inl (fun _ => 0))), (zh, .inl (t 1, 30, .inl (fun _ => 0))), (zp, .inl (t 1, 180, .inl (fun _ => 0))), (ze, .inl (t 1, 140, .inl (fun _ => 0))), (zg, .inl (t 1, 800, .inl (fun _ => 0))), (zs, .inl (t 3, 180, .inl (fun _ => 0))), (zk, .inl (t 3, 3, .inl (fun _ => 0)))]) rfl (fun H locs hP hD hS => ?_)
  refine lv_iload_n hx hb dX12_image_5 rfl (lv_at hl 1 rfl) ?_
  refine lv_i2l (v := a0.toInt64) hx hb dX12_image_6 (rfl) ?_
  refine lv_lconst (v := 0) hx hb dX12_image_7 (by decide) ?_
  refine lv_ldc2 hx hb hown (hts _ tw8_210) dX12_image_8 ?_
  refine goI (rnS C0 (c_in l G t a0.toInt64 0 2) lkX12_79 ⟨by decide, by decide⟩ (hP.sub (ws' := []) [] rfl) (hD.sub (ws' := []) [] (by decide) rfl) rfl hl.1 (rest := []) rfl (Nat.le_of_ble_eq_true rfl) dX12_image_11 ⟨by decide, by decide⟩) hP hD hS hA [] [0, 1, 2, 3, 4, 5, 6, 7] (wr := [(z, .inr (12, [.int 0, .ref zw, .ref zm, .ref zc, .ref zv, .ref zt, .int 0, .int 0, .int 0, .int 0, .int 0, .long 0, .int 0, .int 0, .int 0, .int (-1), .ref zn, .ref zh, .ref zp, .ref ze, .ref zs, .ref zg, .ref zk, .ref za, .ref zd, .ref zf, .ref zo, .ref zE, .ref zq, .int 0, .int 0, .int 0, .int 0, .int 0, .int 0, .ref zC])), (zn, .inl (t 1, 5, .inl (fun _ => 0))), (zh, .inl (t 1, 30, .inl (fun _ => 0))), (zp, .inl (t 1, 180, .inl (fun _ => 0))), (ze, .inl (t 1, 140, .inl (fun _ => 0))), (zg, .inl (t 1, 800, .inl (fun _ => 0))), (zs, .inl (t 3, 180, .inl (fun _ => 0))), (zk, .inl (t 3, 3, .inl (fun _ => 0)))]) rfl rfl (by decide) (by decide) (fun r_1 u H locs h_2 hP hD hS => ?_)
  have hP : va_P G vwCl [(z, .inr (12, [.int 0, .ref zw, .ref zm, .ref zc, .ref zv, .ref zt, .int 0, .int 0, .int 0, .int 0, .int 0, .long 0, .int 0, .int 0, .int 0, .int (-1), .ref zn, .ref zh, .ref zp, .ref ze, .ref zs, .ref zg, .ref zk, .ref za, .ref zd, .ref zf, .ref zo, .ref zE, .ref zq, .int 0, .int 0, .int 0, .int 0, .int 0, .int 0, .ref zC])), (zn, .inl (t 1, 5, .inl (fun _ => 0))), (zh, .inl (t 1, 30, .inl (fun _ => 0))), (zp, .inl (t 1, 180, .inl (fun _ => 0))), (ze, .inl (t 1, 140, .inl (fun _ => 0))), (zg, .inl (t 1, 800, .inl (fun _ => 0))), (zs, .inl (t 3, 180, .inl (fun _ => 0))), (zk, .inl (t 3, 3, .inl (fun _ => 0)))] H := hP
  have hD : va_D A [(z, .inr (12, [.int 0, .ref zw, .ref zm, .ref zc, .ref zv, .ref zt, .int 0, .int 0, .int 0, .int 0, .int 0, .long 0, .int 0, .int 0, .int 0, .int (-1), .ref zn, .ref zh, .ref zp, .ref ze, .ref zs, .ref zg, .ref zk, .ref za, .ref zd, .ref zf, .ref zo, .ref zE, .ref zq, .int 0, .int 0, .int 0, .int 0, .int 0, .int 0, .ref zC])), (zn, .inl (t 1, 5, .inl (fun _ => 0))), (zh, .inl (t 1, 30, .inl (fun _ => 0))), (zp, .inl (t 1, 180, .inl (fun _ => 0))), (ze, .inl (t 1, 140, .inl (fun _ => 0))), (zg, .inl (t 1, 800, .inl (fun _ => 0))), (zs, .inl (t 3, 180, .inl (fun _ => 0))), (zk, .inl (t 3, 3, .inl (fun _ => 0)))] := hD
  refine W.widen (k := 0) (n := 0) (Nat.le_of_ble_eq_true rfl) (Nat.le_of_ble_eq_true rfl) ?_
  have h_2 : (r_1 = 1 ∧ 0 ≤ a0.toInt64 ∧ a0.toInt64 ≤ 2) ∨ (r_1 = 0 ∧ ¬ (0 ≤ a0.toInt64 ∧ a0.toInt64 ≤ 2)) := h_2
  rcases h_2 with ⟨rfl, f_3⟩ | ⟨rfl, f_3⟩
  · refine lv_if_ne (tgt := 20) hx hb dX12_image_14 (by decide) (fun _ => ?_) (fun c_4 => absurd c_4 (by decide))
    have g_5 : a0 = 0 ∨ a0 = 1 ∨ a0 = 2 := i_in3 (by (try simp only [zlt, zle, zeq, zle64, z64, z0, z1, z2, z3, z4, z5, z6, z7, z8, z9, z60, zm1, y0, y2, y3, y4, ym1] at f_3); (try simp only [zlt, zle, zeq, zle64, z64, z0, z1, z2, z3, z4, z5, z6, z7, z8, z9, z60, zm1, y0, y2, y3, y4, ym1]) <;> omega)
    rcases g_5 with rfl | rfl | rfl
    · refine lv_aload_n hx hb dX12_image_20 rfl (lv_at hl 0 rfl) ?_
      refine lv_iconst (v := 0) hx hb dX12_image_21 (by decide) ?_
      refine lv_iconst (v := 1) hx hb dX12_image_22 (by decide) ?_
      refine lv_iload_n hx hb dX12_image_23 rfl (lv_at hl 1 rfl) ?_
      refine lv_iadd hx hb dX12_image_24 (tpi (v := 1) (by decide) ?_)
      refine goV (rnV C0 (c_copyHall_0_1 l G t z zw zm zc zv zt zn zh zp ze zs zg zk za zd zf zo zE zq zC) lkX12_226 ⟨by decide, by decide⟩ (hP.sub (ws' := [(z, .inr (12, [.int 0, .ref zw, .ref zm, .ref zc, .ref zv, .ref zt, .int 0, .int 0, .int 0, .int 0, .int 0, .long 0, .int 0, .int 0, .int 0, .int (-1), .ref zn, .ref zh, .ref zp, .ref ze, .ref zs, .ref zg, .ref zk, .ref za, .ref zd, .ref zf, .ref zo, .ref zE, .ref zq, .int 0, .int 0, .int 0, .int 0, .int 0, .int 0, .ref zC])), (zn, .inl (t 1, 5, .inl (fun _ => 0))), (zh, .inl (t 1, 30, .inl (fun _ => 0))), (zp, .inl (t 1, 180, .inl (fun _ => 0))), (ze, .inl (t 1, 140, .inl (fun _ => 0))), (zg, .inl (t 1, 800, .inl (fun _ => 0))), (zs, .inl (t 3, 180, .inl (fun _ => 0)))]) [0, 1, 2, 3, 4, 5, 6] rfl) (hD.sub (ws' := [(z, .inr (12, [.int 0, .ref zw, .ref zm, .ref zc, .ref zv, .ref zt, .int 0, .int 0, .int 0, .int 0, .int 0, .long 0, .int 0, .int 0, .int 0, .int (-1), .ref zn, .ref zh, .ref zp, .ref ze, .ref zs, .ref zg, .ref zk, .ref za, .ref zd, .ref zf, .ref zo, .ref zE, .ref zq, .int 0, .int 0, .int 0, .int 0, .int 0, .int 0, .ref zC])), (zn, .inl (t 1, 5, .inl (fun _ => 0))), (zh, .inl (t 1, 30, .inl (fun _ => 0))), (zp, .inl (t 1, 180, .inl (fun _ => 0))), (ze, .inl (t 1, 140, .inl (fun _ => 0))), (zg, .inl (t 1, 800, .inl (fun _ => 0))), (zs, .inl (t 3, 180, .inl (fun _ => 0)))]) [0, 1, 2, 3, 4, 5, 6] (by decide) rfl) 0 12 rfl rfl rfl rfl hl.1 (rest := []) rfl (Nat.le_of_ble_eq_true rfl) dX12_image_25 ⟨by decide, by decide⟩) hP hD hS hA [0, 1, 2, 3, 4, 5, 6] [7] (wr := [(zk, .inl (t 3, 3, .inl (fun _ => 0)))]) rfl rfl (by decide) (by decide) (fun u H locs h_7 hP hD hS => ?_)
      have hP : va_P G vwCl [(zk, .inl (t 3, 3, .inl (fun _ => 0))), (z, .inr (12, [.int 0, .ref zw, .ref zm, .ref zc, .ref zv, .ref zt, .int 0, .int 0, .int 0, .int 0, .int 0, .long 0, .int 0, .int 0, .int 0, .int (-1), .ref zn, .ref zh, .ref zp, .ref ze, .ref zs, .ref zg, .ref zk, .ref za, .ref zd, .ref zf, .ref zo, .ref zE, .ref zq, .int 0, .int 0, .int 0, .int 0, .int 0, .int 0, .ref zC])), (zn, .inl (t 1, 5, .inl (fun _ => 0))), (zh, .inl (t 1, 30, .inl (fun _ => 0))), (zp, .inl (t 1, 180, .inl (fun _ => 0))), (ze, .inl (t 1, 140, .inl (fun _ => 0))), (zg, .inl (t 1, 800, .inl (fun _ => 0))), (zs, .inl (t 3, 180, .inl (fun _ => 0)))] H := hP
      have hD : va_D A [(zk, .inl (t 3, 3, .inl (fun _ => 0))), (z, .inr (12, [.int 0, .ref zw, .ref zm, .ref zc, .ref zv, .ref zt, .int 0, .int 0, .int 0, .int 0, .int 0, .long 0, .int 0, .int 0, .int 0, .int (-1), .ref zn, .ref zh, .ref zp, .ref ze, .ref zs, .ref zg, .ref zk, .ref za, .ref zd, .ref zf, .ref zo, .ref zE, .ref zq, .int 0, .int 0, .int 0, .int 0, .int 0, .int 0, .ref zC])), (zn, .inl (t 1, 5, .inl (fun _ => 0))), (zh, .inl (t 1, 30, .inl (fun _ => 0))), (zp, .inl (t 1, 180, .inl (fun _ => 0))), (ze, .inl (t 1, 140, .inl (fun _ => 0))), (zg, .inl (t 1, 800, .inl (fun _ => 0))), (zs, .inl (t 3, 180, .inl (fun _ => 0)))] := hD
      refine W.widen (k := 0) (n := 0) (Nat.le_of_ble_eq_true rfl) (Nat.le_of_ble_eq_true rfl) ?_
      refine lv_aload_n hx hb dX12_image_28 rfl (lv_at hl 0 rfl) ?_
      refine gf hx hb hts hown hK hP 1 inT12 rfl rfl 22 (by decide) tw6_7 rfl dX12_image_29 ?_
      refine lv_iload_n hx hb dX12_image_32 rfl (lv_at hl 1 rfl) ?_
      refine lv_iconst (v := 1) hx hb dX12_image_33 (by decide) ?_
      obtain ⟨f_8, ef_8⟩ : ∃ z : Nat → Int32, z = upd (fun _ => 0) (0 : Int32).toNatClampNeg (vp_nar .boolean 1) := ⟨_, rfl⟩
      refine stZ hx hb hK hP hD hS 0 rfl (by unfold vp_in; decide) dX12_image_34 (f' := f_8) (ef_8.symm) (ws' := [(zk, .inl (t 3, 3, .inl f_8)), (z, .inr (12, [.int 0, .ref zw, .ref zm, .ref zc, .ref zv, .ref zt, .int 0, .int 0, .int 0, .int 0, .int 0, .long 0, .int 0, .int 0, .int 0, .int (-1), .ref zn, .ref zh, .ref zp, .ref ze, .ref zs, .ref zg, .ref zk, .ref za, .ref zd, .ref zf, .ref zo, .ref zE, .ref zq, .int 0, .int 0, .int 0, .int 0, .int 0, .int 0, .ref zC])), (zn, .inl (t 1, 5, .inl (fun _ => 0))), (zh, .inl (t 1, 30, .inl (fun _ => 0))), (zp, .inl (t 1, 180, .inl (fun _ => 0))), (ze, .inl (t 1, 140, .inl (fun _ => 0))), (zg, .inl (t 1, 800, .inl (fun _ => 0))), (zs, .inl (t 3, 180, .inl (fun _ => 0)))]) rfl (fun H locs hP hD hS => ?_)
      refine lv_iconst (v := 0) hx hb dX12_image_35 (by decide) ?_
      refine W.widen (k := 0) (n := 0) (by decide) (by decide) ?_
      exact rtI hx hb hr hlocks hS () (by first | exact Or.inl ⟨rfl, by (try simp only [zlt, zle, zeq, zle64, z64, z0, z1, z2, z3, z4, z5, z6, z7, z8, z9, z60, zm1, y0, y2, y3, y4, ym1] at f_3); (try simp only [zlt, zle, zeq, zle64, z64, z0, z1, z2, z3, z4, z5, z6, z7, z8, z9, z60, zm1, y0, y2, y3, y4, ym1]) <;> omega⟩) (hP.sub [] rfl) (hD.sub [] (by decide) rfl) dX12_image_36
    · refine lv_aload_n hx hb dX12_image_20 rfl (lv_at hl 0 rfl) ?_
      refine lv_iconst (v := 0) hx hb dX12_image_21 (by decide) ?_
      refine lv_iconst (v := 1) hx hb dX12_image_22 (by decide) ?_
      refine lv_iload_n hx hb dX12_image_23 rfl (lv_at hl 1 rfl) ?_
      refine lv_iadd hx hb dX12_image_24 (tpi (v := 2) (by decide) ?_)
      refine goV (rnV C0 (c_copyHall_0_2 l G t z zw zm zc zv zt zn zh zp ze zs zg zk za zd zf zo zE zq zC) lkX12_226 ⟨by decide, by decide⟩ (hP.sub (ws' := [(z, .inr (12, [.int 0, .ref zw, .ref zm, .ref zc, .ref zv, .ref zt, .int 0, .int 0, .int 0, .int 0, .int 0, .long 0, .int 0, .int 0, .int 0, .int (-1), .ref zn, .ref zh, .ref zp, .ref ze, .ref zs, .ref zg, .ref zk, .ref za, .ref zd, .ref zf, .ref zo, .ref zE, .ref zq, .int 0, .int 0, .int 0, .int 0, .int 0, .int 0, .ref zC])), (zn, .inl (t 1, 5, .inl (fun _ => 0))), (zh, .inl (t 1, 30, .inl (fun _ => 0))), (zp, .inl (t 1, 180, .inl (fun _ => 0))), (ze, .inl (t 1, 140, .inl (fun _ => 0))), (zg, .inl (t 1, 800, .inl (fun _ => 0))), (zs, .inl (t 3, 180, .inl (fun _ => 0)))]) [0, 1, 2, 3, 4, 5, 6] rfl) (hD.sub (ws' := [(z, .inr (12, [.int 0, .ref zw, .ref zm, .ref zc, .ref zv, .ref zt, .int 0, .int 0, .int 0, .int 0, .int 0, .long 0, .int 0, .int 0, .int 0, .int (-1), .ref zn, .ref zh, .ref zp, .ref ze, .ref zs, .ref zg, .ref zk, .ref za, .ref zd, .ref zf, .ref zo, .ref zE, .ref zq, .int 0, .int 0, .int 0, .int 0, .int 0, .int 0, .ref zC])), (zn, .inl (t 1, 5, .inl (fun _ => 0))), (zh, .inl (t 1, 30, .inl (fun _ => 0))), (zp, .inl (t 1, 180, .inl (fun _ => 0))), (ze, .inl (t 1, 140, .inl (fun _ => 0))), (zg, .inl (t 1, 800, .inl (fun _ => 0))), (zs, .inl (t 3, 180, .inl (fun _ => 0)))]) [0, 1, 2, 3, 4, 5, 6] (by decide) rfl) 0 12 rfl rfl rfl rfl hl.1 (rest := []) rfl (Nat.le_of_ble_eq_true rfl) dX12_image_25 ⟨by decide, by decide⟩) hP hD hS hA [0, 1, 2, 3, 4, 5, 6] [7] (wr := [(zk, .inl (t 3, 3, .inl (fun _ => 0)))]) rfl rfl (by decide) (by decide) (fun u H locs h_10 hP hD hS => ?_)
      have hP : va_P G vwCl [(zk, .inl (t 3, 3, .inl (fun _ => 0))), (z, .inr (12, [.int 0, .ref zw, .ref zm, .ref zc, .ref zv, .ref zt, .int 0, .int 0, .int 0, .int 0, .int 0, .long 0, .int 0, .int 0, .int 0, .int (-1), .ref zn, .ref zh, .ref zp, .ref ze, .ref zs, .ref zg, .ref zk, .ref za, .ref zd, .ref zf, .ref zo, .ref zE, .ref zq, .int 0, .int 0, .int 0, .int 0, .int 0, .int 0, .ref zC])), (zn, .inl (t 1, 5, .inl (fun _ => 0))), (zh, .inl (t 1, 30, .inl (fun _ => 0))), (zp, .inl (t 1, 180, .inl (fun _ => 0))), (ze, .inl (t 1, 140, .inl (fun _ => 0))), (zg, .inl (t 1, 800, .inl (fun _ => 0))), (zs, .inl (t 3, 180, .inl (fun _ => 0)))] H := hP
      have hD : va_D A [(zk, .inl (t 3, 3, .inl (fun _ => 0))), (z, .inr (12, [.int 0, .ref zw, .ref zm, .ref zc, .ref zv, .ref zt, .int 0, .int 0, .int 0, .int 0, .int 0, .long 0, .int 0, .int 0, .int 0, .int (-1), .ref zn, .ref zh, .ref zp, .ref ze, .ref zs, .ref zg, .ref zk, .ref za, .ref zd, .ref zf, .ref zo, .ref zE, .ref zq, .int 0, .int 0, .int 0, .int 0, .int 0, .int 0, .ref zC])), (zn, .inl (t 1, 5, .inl (fun _ => 0))), (zh, .inl (t 1, 30, .inl (fun _ => 0))), (zp, .inl (t 1, 180, .inl (fun _ => 0))), (ze, .inl (t 1, 140, .inl (fun _ => 0))), (zg, .inl (t 1, 800, .inl (fun _ => 0))), (zs, .inl (t 3, 180, .inl (fun _ => 0)))] := hD
      refine W.widen (k := 0) (n := 0) (Nat.le_of_ble_eq_true rfl) (Nat.le_of_ble_eq_true rfl) ?_
      refine lv_aload_n hx hb dX12_image_28 rfl (lv_at hl 0 rfl) ?_
      refine gf hx hb hts hown hK hP 1 inT12 rfl rfl 22 (by decide) tw6_7 rfl dX12_image_29 ?_
      refine lv_iload_n hx hb dX12_image_32 rfl (lv_at hl 1 rfl) ?_
      refine lv_iconst (v := 1) hx hb dX12_image_33 (by decide) ?_
      obtain ⟨f_11, ef_11⟩ : ∃ z : Nat → Int32, z = upd (fun _ => 0) (1 : Int32).toNatClampNeg (vp_nar .boolean 1) := ⟨_, rfl⟩
      refine stZ hx hb hK hP hD hS 0 rfl (by unfold vp_in; decide) dX12_image_34 (f' := f_11) (ef_11.symm) (ws' := [(zk, .inl (t 3, 3, .inl f_11)), (z, .inr (12, [.int 0, .ref zw, .ref zm, .ref zc, .ref zv, .ref zt, .int 0, .int 0, .int 0, .int 0, .int 0, .long 0, .int 0, .int 0, .int 0, .int (-1), .ref zn, .ref zh, .ref zp, .ref ze, .ref zs, .ref zg, .ref zk, .ref za, .ref zd, .ref zf, .ref zo, .ref zE, .ref zq, .int 0, .int 0, .int 0, .int 0, .int 0, .int 0, .ref zC])), (zn, .inl (t 1, 5, .inl (fun _ => 0))), (zh, .inl (t 1, 30, .inl (fun _ => 0))), (zp, .inl (t 1, 180, .inl (fun _ => 0))), (ze, .inl (t 1, 140, .inl (fun _ => 0))), (zg, .inl (t 1, 800, .inl (fun _ => 0))), (zs, .inl (t 3, 180, .inl (fun _ => 0)))]) rfl (fun H locs hP hD hS => ?_)
      refine lv_iconst (v := 0) hx hb dX12_image_35 (by decide) ?_
      refine W.widen (k := 0) (n := 0) (by decide) (by decide) ?_
      exact rtI hx hb hr hlocks hS () (by first | exact Or.inl ⟨rfl, by (try simp only [zlt, zle, zeq, zle64, z64, z0, z1, z2, z3, z4, z5, z6, z7, z8, z9, z60, zm1, y0, y2, y3, y4, ym1] at f_3); (try simp only [zlt, zle, zeq, zle64, z64, z0, z1, z2, z3, z4, z5, z6, z7, z8, z9, z60, zm1, y0, y2, y3, y4, ym1]) <;> omega⟩) (hP.sub [] rfl) (hD.sub [] (by decide) rfl) dX12_image_36
    · refine lv_aload_n hx hb dX12_image_20 rfl (lv_at hl 0 rfl) ?_
      refine lv_iconst (v := 0) hx hb dX12_image_21 (by decide) ?_
      refine lv_iconst (v := 1) hx hb dX12_image_22 (by decide) ?_
      refine lv_iload_n hx hb dX12_image_23 rfl (lv_at hl 1 rfl) ?_
      refine lv_iadd hx hb dX12_image_24 (tpi (v := 3) (by decide) ?_)
      refine goV (rnV C0 (c_copyHall_0_3 l G t z zw zm zc zv zt zn zh zp ze zs zg zk za zd zf zo zE zq zC) lkX12_226 ⟨by decide, by decide⟩ (hP.sub (ws' := [(z, .inr (12, [.int 0, .ref zw, .ref zm, .ref zc, .ref zv, .ref zt, .int 0, .int 0, .int 0, .int 0, .int 0, .long 0, .int 0, .int 0, .int 0, .int (-1), .ref zn, .ref zh, .ref zp, .ref ze, .ref zs, .ref zg, .ref zk, .ref za, .ref zd, .ref zf, .ref zo, .ref zE, .ref zq, .int 0, .int 0, .int 0, .int 0, .int 0, .int 0, .ref zC])), (zn, .inl (t 1, 5, .inl (fun _ => 0))), (zh, .inl (t 1, 30, .inl (fun _ => 0))), (zp, .inl (t 1, 180, .inl (fun _ => 0))), (ze, .inl (t 1, 140, .inl (fun _ => 0))), (zg, .inl (t 1, 800, .inl (fun _ => 0))), (zs, .inl (t 3, 180, .inl (fun _ => 0)))]) [0, 1, 2, 3, 4, 5, 6] rfl) (hD.sub (ws' := [(z, .inr (12, [.int 0, .ref zw, .ref zm, .ref zc, .ref zv, .ref zt, .int 0, .int 0, .int 0, .int 0, .int 0, .long 0, .int 0, .int 0, .int 0, .int (-1), .ref zn, .ref zh, .ref zp, .ref ze, .ref zs, .ref zg, .ref zk, .ref za, .ref zd, .ref zf, .ref zo, .ref zE, .ref zq, .int 0, .int 0, .int 0, .int 0, .int 0, .int 0, .ref zC])), (zn, .inl (t 1, 5, .inl (fun _ => 0))), (zh, .inl (t 1, 30, .inl (fun _ => 0))), (zp, .inl (t 1, 180, .inl (fun _ => 0))), (ze, .inl (t 1, 140, .inl (fun _ => 0))), (zg, .inl (t 1, 800, .inl (fun _ => 0))), (zs, .inl (t 3, 180, .inl (fun _ => 0)))]) [0, 1, 2, 3, 4, 5, 6] (by decide) rfl) 0 12 rfl rfl rfl rfl hl.1 (rest := []) rfl (Nat.le_of_ble_eq_true rfl) dX12_image_25 ⟨by decide, by decide⟩) hP hD hS hA [0, 1, 2, 3, 4, 5, 6] [7] (wr := [(zk, .inl (t 3, 3, .inl (fun _ => 0)))]) rfl rfl (by decide) (by decide) (fun u H locs h_13 hP hD hS => ?_)
      have hP : va_P G vwCl [(zk, .inl (t 3, 3, .inl (fun _ => 0))), (z, .inr (12, [.int 0, .ref zw, .ref zm, .ref zc, .ref zv, .ref zt, .int 0, .int 0, .int 0, .int 0, .int 0, .long 0, .int 0, .int 0, .int 0, .int (-1), .ref zn, .ref zh, .ref zp, .ref ze, .ref zs, .ref zg, .ref zk, .ref za, .ref zd, .ref zf, .ref zo, .ref zE, .ref zq, .int 0, .int 0, .int 0, .int 0, .int 0, .int 0, .ref zC])), (zn, .inl (t 1, 5, .inl (fun _ => 0))), (zh, .inl (t 1, 30, .inl (fun _ => 0))), (zp, .inl (t 1, 180, .inl (fun _ => 0))), (ze, .inl (t 1, 140, .inl (fun _ => 0))), (zg, .inl (t 1, 800, .inl (fun _ => 0))), (zs, .inl (t 3, 180, .inl (fun _ => 0)))] H := hP
      have hD : va_D A [(zk, .inl (t 3, 3, .inl (fun _ => 0))), (z, .inr (12, [.int 0, .ref zw, .ref zm, .ref zc, .ref zv, .ref zt, .int 0, .int 0, .int 0, .int 0, .int 0, .long 0, .int 0, .int 0, .int 0, .int (-1), .ref zn, .ref zh, .ref zp, .ref ze, .ref zs, .ref zg, .ref zk, .ref za, .ref zd, .ref zf, .ref zo, .ref zE, .ref zq, .int 0, .int 0, .int 0, .int 0, .int 0, .int 0, .ref zC])), (zn, .inl (t 1, 5, .inl (fun _ => 0))), (zh, .inl (t 1, 30, .inl (fun _ => 0))), (zp, .inl (t 1, 180, .inl (fun _ => 0))), (ze, .inl (t 1, 140, .inl (fun _ => 0))), (zg, .inl (t 1, 800, .inl (fun _ => 0))), (zs, .inl (t 3, 180, .inl (fun _ => 0)))] := hD
      refine W.widen (k := 0) (n := 0) (Nat.le_of_ble_eq_true rfl) (Nat.le_of_ble_eq_true rfl) ?_
      refine lv_aload_n hx hb dX12_image_28 rfl (lv_at hl 0 rfl) ?_
      refine gf hx hb hts hown hK hP 1 inT12 rfl rfl 22 (by decide) tw6_7 rfl dX12_image_29 ?_
      refine lv_iload_n hx hb dX12_image_32 rfl (lv_at hl 1 rfl) ?_
      refine lv_iconst (v := 1) hx hb dX12_image_33 (by decide) ?_
      obtain ⟨f_14, ef_14⟩ : ∃ z : Nat → Int32, z = upd (fun _ => 0) (2 : Int32).toNatClampNeg (vp_nar .boolean 1) := ⟨_, rfl⟩
      refine stZ hx hb hK hP hD hS 0 rfl (by unfold vp_in; decide) dX12_image_34 (f' := f_14) (ef_14.symm) (ws' := [(zk, .inl (t 3, 3, .inl f_14)), (z, .inr (12, [.int 0, .ref zw, .ref zm, .ref zc, .ref zv, .ref zt, .int 0, .int 0, .int 0, .int 0, .int 0, .long 0, .int 0, .int 0, .int 0, .int (-1), .ref zn, .ref zh, .ref zp, .ref ze, .ref zs, .ref zg, .ref zk, .ref za, .ref zd, .ref zf, .ref zo, .ref zE, .ref zq, .int 0, .int 0, .int 0, .int 0, .int 0, .int 0, .ref zC])), (zn, .inl (t 1, 5, .inl (fun _ => 0))), (zh, .inl (t 1, 30, .inl (fun _ => 0))), (zp, .inl (t 1, 180, .inl (fun _ => 0))), (ze, .inl (t 1, 140, .inl (fun _ => 0))), (zg, .inl (t 1, 800, .inl (fun _ => 0))), (zs, .inl (t 3, 180, .inl (fun _ => 0)))]) rfl (fun H locs hP hD hS => ?_)
      refine lv_iconst (v := 0) hx hb dX12_image_35 (by decide) ?_
      refine W.widen (k := 0) (n := 0) (by decide) (by decide) ?_
      exact rtI hx hb hr hlocks hS () (by first | exact Or.inl ⟨rfl, by (try simp only [zlt, zle, zeq, zle64, z64, z0, z1, z2, z3, z4, z5, z6, z7, z8, z9, z60, zm1, y0, y2, y3, y4, ym1] at f_3); (try simp only [zlt, zle, zeq, zle64, z64, z0, z1, z2, z3, z4, z5, z6, z7, z8, z9, z60, zm1, y0, y2, y3, y4, ym1]) <;> omega⟩) (hP.sub [] rfl) (hD.sub [] (by decide) rfl) dX12_image_36
  · refine lv_if_ne (tgt := 20) hx hb dX12_image_14 (by decide) (fun c_15 => absurd (by decide) c_15) (fun _ => ?_)
    refine lv_bipush (v := (-2)) hx hb dX12_image_17 (by decide) ?_
    refine W.widen (k := 0) (n := 0) (by decide) (by decide) ?_
    exact rtI hx hb hr hlocks hS () (by first | exact Or.inr (⟨rfl, by (try simp only [zlt, zle, zeq, zle64, z64, z0, z1, z2, z3, z4, z5, z6, z7, z8, z9, z60, zm1, y0, y2, y3, y4, ym1] at f_3); (try simp only [zlt, zle, zeq, zle64, z64, z0, z1, z2, z3, z4, z5, z6, z7, z8, z9, z60, zm1, y0, y2, y3, y4, ym1]) <;> omega⟩)) (hP.sub [] rfl) (hD.sub [] (by decide) rfl) dX12_image_19

set_option maxHeartbeats 4000000 in
set_option maxRecDepth 100000 in
theorem m_back (l : Launch) (G : va_G) (t : Nat → ClassId) (z : Nat) (zw : Nat) (zm : Nat) (zc : Nat) (zv : Nat) (zt : Nat) (zn : Nat) (zh : Nat) (zp : Nat) (ze : Nat) (zs : Nat) (zg : Nat) (zk : Nat) (za : Nat) (zd : Nat) (zf : Nat) (zo : Nat) (zE : Nat) (zq : Nat) (zC : Nat) (a0 : Int32) : Ct l G t yX12_back cX12_back 2 (some .int) ({ frames := 1, cells := 0, slots := 0, locals := 25 }) [.ref z, .int a0] [(z, .inr (12, [.int 0, .ref zw, .ref zm, .ref zc, .ref zv, .ref zt, .int 0, .int 0, .int 0, .int 0, .int 0, .long 0, .int 0, .int 0, .int 0, .int (-1), .ref zn, .ref zh, .ref zp, .ref ze, .ref zs, .ref zg, .ref zk, .ref za, .ref zd, .ref zf, .ref zo, .ref zE, .ref zq, .int 0, .int 0, .int 0, .int 0, .int 0, .int 0, .ref zC])), (zk, .inl (t 3, 3, .inl (fun _ => 0)))] (QI G (fun r (u : Unit) => (r = (-6) ∧ 0 ≤ a0.toInt ∧ a0.toInt ≤ 2) ∨ (r = (-2) ∧ ¬ (0 ≤ a0.toInt ∧ a0.toInt ≤ 2))) (fun (u : Unit) => [])) := by
  refine ent (by decide) (Nat.le_of_ble_eq_true rfl) ?_
  intro p e s m args below meth c hx hb hr hml hts hown hlocks hin A hA hK hO hP hD hS ls hl
  have hown : s.vm.findClass RX12 = some m.cls := hown
  have hl : lv_has ls 2 [(0, .ref z), (1, .int a0)] := hl
  have C0 : Cx p s m args c cX12_back 2 RX12 G t := ⟨hx, hb, hml, hown, hts, hK, hO⟩
  refine lv_aload_n hx hb dX12_back_0 rfl (lv_at hl 0 rfl) ?_
  refine lv_iconst (v := 0) hx hb dX12_back_1 (by decide) ?_
  refine pf hx hb hts hown hK hP hD hS 0 inT12 tyX12_ok nmX12 rfl rfl 0 (by decide) tw5_225 rfl rfl rfl (Nat.le_of_ble_eq_true rfl) dX12_back_2 (ws' := [(z, .inr (12, [.int 0, .ref zw, .ref zm, .ref zc, .ref zv, .ref zt, .int 0, .int 0, .int 0, .int 0, .int 0, .long 0, .int 0, .int 0, .int 0, .int (-1), .ref zn, .ref zh, .ref zp, .ref ze, .ref zs, .ref zg, .ref zk, .ref za, .ref zd, .ref zf, .ref zo, .ref zE, .ref zq, .int 0, .int 0, .int 0, .int 0, .int 0, .int 0, .ref zC])), (zk, .inl (t 3, 3, .inl (fun _ => 0)))]) rfl (fun H locs hP hD hS => ?_)
  refine lv_iload_n hx hb dX12_back_5 rfl (lv_at hl 1 rfl) ?_
  refine lv_i2l (v := a0.toInt64) hx hb dX12_back_6 (rfl) ?_
  refine lv_lconst (v := 0) hx hb dX12_back_7 (by decide) ?_
  refine lv_ldc2 hx hb hown (hts _ tw8_210) dX12_back_8 ?_
  refine goI (rnS C0 (c_in l G t a0.toInt64 0 2) lkX12_79 ⟨by decide, by decide⟩ (hP.sub (ws' := []) [] rfl) (hD.sub (ws' := []) [] (by decide) rfl) rfl hl.1 (rest := []) rfl (Nat.le_of_ble_eq_true rfl) dX12_back_11 ⟨by decide, by decide⟩) hP hD hS hA [] [0, 1] (wr := [(z, .inr (12, [.int 0, .ref zw, .ref zm, .ref zc, .ref zv, .ref zt, .int 0, .int 0, .int 0, .int 0, .int 0, .long 0, .int 0, .int 0, .int 0, .int (-1), .ref zn, .ref zh, .ref zp, .ref ze, .ref zs, .ref zg, .ref zk, .ref za, .ref zd, .ref zf, .ref zo, .ref zE, .ref zq, .int 0, .int 0, .int 0, .int 0, .int 0, .int 0, .ref zC])), (zk, .inl (t 3, 3, .inl (fun _ => 0)))]) rfl rfl (by decide) (by decide) (fun r_1 u H locs h_2 hP hD hS => ?_)
  have hP : va_P G vwCl [(z, .inr (12, [.int 0, .ref zw, .ref zm, .ref zc, .ref zv, .ref zt, .int 0, .int 0, .int 0, .int 0, .int 0, .long 0, .int 0, .int 0, .int 0, .int (-1), .ref zn, .ref zh, .ref zp, .ref ze, .ref zs, .ref zg, .ref zk, .ref za, .ref zd, .ref zf, .ref zo, .ref zE, .ref zq, .int 0, .int 0, .int 0, .int 0, .int 0, .int 0, .ref zC])), (zk, .inl (t 3, 3, .inl (fun _ => 0)))] H := hP
  have hD : va_D A [(z, .inr (12, [.int 0, .ref zw, .ref zm, .ref zc, .ref zv, .ref zt, .int 0, .int 0, .int 0, .int 0, .int 0, .long 0, .int 0, .int 0, .int 0, .int (-1), .ref zn, .ref zh, .ref zp, .ref ze, .ref zs, .ref zg, .ref zk, .ref za, .ref zd, .ref zf, .ref zo, .ref zE, .ref zq, .int 0, .int 0, .int 0, .int 0, .int 0, .int 0, .ref zC])), (zk, .inl (t 3, 3, .inl (fun _ => 0)))] := hD
  refine W.widen (k := 0) (n := 0) (Nat.le_of_ble_eq_true rfl) (Nat.le_of_ble_eq_true rfl) ?_
  have h_2 : (r_1 = 1 ∧ 0 ≤ a0.toInt64 ∧ a0.toInt64 ≤ 2) ∨ (r_1 = 0 ∧ ¬ (0 ≤ a0.toInt64 ∧ a0.toInt64 ≤ 2)) := h_2
  rcases h_2 with ⟨rfl, f_3⟩ | ⟨rfl, f_3⟩
  · refine lv_if_ne (tgt := 20) hx hb dX12_back_14 (by decide) (fun _ => ?_) (fun c_4 => absurd c_4 (by decide))
    have g_5 : a0 = 0 ∨ a0 = 1 ∨ a0 = 2 := i_in3 (by (try simp only [zlt, zle, zeq, zle64, z64, z0, z1, z2, z3, z4, z5, z6, z7, z8, z9, z60, zm1, y0, y2, y3, y4, ym1] at f_3); (try simp only [zlt, zle, zeq, zle64, z64, z0, z1, z2, z3, z4, z5, z6, z7, z8, z9, z60, zm1, y0, y2, y3, y4, ym1]) <;> omega)
    rcases g_5 with rfl | rfl | rfl
    · refine lv_aload_n hx hb dX12_back_20 rfl (lv_at hl 0 rfl) ?_
      refine gf hx hb hts hown hK hP 0 inT12 rfl rfl 22 (by decide) tw6_7 rfl dX12_back_21 ?_
      refine lv_iload_n hx hb dX12_back_24 rfl (lv_at hl 1 rfl) ?_
      refine ldZ hx hb hK hP 1 rfl (by unfold vp_in; decide) dX12_back_25 (v := 0) (rfl) ?_
      refine lv_if_ne (tgt := 32) hx hb dX12_back_26 (by decide) (fun c_6 => absurd (by decide) c_6) (fun _ => ?_)
      refine lv_bipush (v := (-6)) hx hb dX12_back_29 (by decide) ?_
      refine W.widen (k := 0) (n := 0) (by decide) (by decide) ?_
      exact rtI hx hb hr hlocks hS () (by first | exact Or.inl ⟨rfl, by (try simp only [zlt, zle, zeq, zle64, z64, z0, z1, z2, z3, z4, z5, z6, z7, z8, z9, z60, zm1, y0, y2, y3, y4, ym1] at f_3); (try simp only [zlt, zle, zeq, zle64, z64, z0, z1, z2, z3, z4, z5, z6, z7, z8, z9, z60, zm1, y0, y2, y3, y4, ym1]) <;> omega⟩) (hP.sub [] rfl) (hD.sub [] (by decide) rfl) dX12_back_31
    · refine lv_aload_n hx hb dX12_back_20 rfl (lv_at hl 0 rfl) ?_
      refine gf hx hb hts hown hK hP 0 inT12 rfl rfl 22 (by decide) tw6_7 rfl dX12_back_21 ?_
      refine lv_iload_n hx hb dX12_back_24 rfl (lv_at hl 1 rfl) ?_
      refine ldZ hx hb hK hP 1 rfl (by unfold vp_in; decide) dX12_back_25 (v := 0) (rfl) ?_
      refine lv_if_ne (tgt := 32) hx hb dX12_back_26 (by decide) (fun c_7 => absurd (by decide) c_7) (fun _ => ?_)
      refine lv_bipush (v := (-6)) hx hb dX12_back_29 (by decide) ?_
      refine W.widen (k := 0) (n := 0) (by decide) (by decide) ?_
      exact rtI hx hb hr hlocks hS () (by first | exact Or.inl ⟨rfl, by (try simp only [zlt, zle, zeq, zle64, z64, z0, z1, z2, z3, z4, z5, z6, z7, z8, z9, z60, zm1, y0, y2, y3, y4, ym1] at f_3); (try simp only [zlt, zle, zeq, zle64, z64, z0, z1, z2, z3, z4, z5, z6, z7, z8, z9, z60, zm1, y0, y2, y3, y4, ym1]) <;> omega⟩) (hP.sub [] rfl) (hD.sub [] (by decide) rfl) dX12_back_31
    · refine lv_aload_n hx hb dX12_back_20 rfl (lv_at hl 0 rfl) ?_
      refine gf hx hb hts hown hK hP 0 inT12 rfl rfl 22 (by decide) tw6_7 rfl dX12_back_21 ?_
      refine lv_iload_n hx hb dX12_back_24 rfl (lv_at hl 1 rfl) ?_
      refine ldZ hx hb hK hP 1 rfl (by unfold vp_in; decide) dX12_back_25 (v := 0) (rfl) ?_
      refine lv_if_ne (tgt := 32) hx hb dX12_back_26 (by decide) (fun c_8 => absurd (by decide) c_8) (fun _ => ?_)
      refine lv_bipush (v := (-6)) hx hb dX12_back_29 (by decide) ?_
      refine W.widen (k := 0) (n := 0) (by decide) (by decide) ?_
      exact rtI hx hb hr hlocks hS () (by first | exact Or.inl ⟨rfl, by (try simp only [zlt, zle, zeq, zle64, z64, z0, z1, z2, z3, z4, z5, z6, z7, z8, z9, z60, zm1, y0, y2, y3, y4, ym1] at f_3); (try simp only [zlt, zle, zeq, zle64, z64, z0, z1, z2, z3, z4, z5, z6, z7, z8, z9, z60, zm1, y0, y2, y3, y4, ym1]) <;> omega⟩) (hP.sub [] rfl) (hD.sub [] (by decide) rfl) dX12_back_31
  · refine lv_if_ne (tgt := 20) hx hb dX12_back_14 (by decide) (fun c_9 => absurd (by decide) c_9) (fun _ => ?_)
    refine lv_bipush (v := (-2)) hx hb dX12_back_17 (by decide) ?_
    refine W.widen (k := 0) (n := 0) (by decide) (by decide) ?_
    exact rtI hx hb hr hlocks hS () (by first | exact Or.inr (⟨rfl, by (try simp only [zlt, zle, zeq, zle64, z64, z0, z1, z2, z3, z4, z5, z6, z7, z8, z9, z60, zm1, y0, y2, y3, y4, ym1] at f_3); (try simp only [zlt, zle, zeq, zle64, z64, z0, z1, z2, z3, z4, z5, z6, z7, z8, z9, z60, zm1, y0, y2, y3, y4, ym1]) <;> omega⟩)) (hP.sub [] rfl) (hD.sub [] (by decide) rfl) dX12_back_19

set_option maxHeartbeats 4000000 in
set_option maxRecDepth 100000 in
theorem m_row (l : Launch) (G : va_G) (t : Nat → ClassId) (z : Nat) (zw : Nat) (zm : Nat) (zc : Nat) (zv : Nat) (zt : Nat) (zn : Nat) (zh : Nat) (zp : Nat) (ze : Nat) (zs : Nat) (zg : Nat) (zk : Nat) (za : Nat) (zd : Nat) (zf : Nat) (zo : Nat) (zE : Nat) (zq : Nat) (zC : Nat) (a0 : Int32) (b0 : Int32) (c0 : Int32) : Ct l G t yX12_row cX12_row 5 (some .int) ({ frames := 2, cells := 0, slots := 0, locals := 45 }) [.ref z, .int a0, .int b0, .int c0] [(z, .inr (12, [.int 0, .ref zw, .ref zm, .ref zc, .ref zv, .ref zt, .int 0, .int 0, .int 0, .int 0, .int 0, .long 0, .int 0, .int 0, .int 0, .int (-1), .ref zn, .ref zh, .ref zp, .ref ze, .ref zs, .ref zg, .ref zk, .ref za, .ref zd, .ref zf, .ref zo, .ref zE, .ref zq, .int 0, .int 0, .int 0, .int 0, .int 0, .int 0, .ref zC])), (zw, .inl (t 1, 4, .inl (upd (upd (upd (upd (fun _ => 0) 0 (-1)) 1 (-1)) 2 (-1)) 3 (-1)))), (zm, .inl (t 1, 4, .inl (fun _ => 0))), (zc, .inl (t 2, 240, .inr (.inl (fun _ => 0))))] (QI G (fun r (u : Unit) => (r = (-2) ∧ (¬ (0 ≤ a0.toInt ∧ a0.toInt ≤ 3) ∨ ¬ (0 ≤ b0.toInt ∧ b0.toInt ≤ 3) ∨ 60 < c0.toInt)) ∨ (r = (-3) ∧ ((0 ≤ a0.toInt ∧ a0.toInt ≤ 3) ∧ (0 ≤ b0.toInt ∧ b0.toInt ≤ 3) ∧ c0.toInt < 0)) ∨ (r = 0 ∧ ((0 ≤ a0.toInt ∧ a0.toInt ≤ 3) ∧ (0 ≤ b0.toInt ∧ b0.toInt ≤ 3) ∧ 0 ≤ c0.toInt ∧ c0.toInt ≤ 60))) (fun (u : Unit) => [])) := by
  refine ent (by decide) (Nat.le_of_ble_eq_true rfl) ?_
  intro p e s m args below meth c hx hb hr hml hts hown hlocks hin A hA hK hO hP hD hS ls hl
  have hown : s.vm.findClass RX12 = some m.cls := hown
  have hl : lv_has ls 5 [(0, .ref z), (1, .int a0), (2, .int b0), (3, .int c0)] := hl
  have C0 : Cx p s m args c cX12_row 5 RX12 G t := ⟨hx, hb, hml, hown, hts, hK, hO⟩
  refine lv_aload_n hx hb dX12_row_0 rfl (lv_at hl 0 rfl) ?_
  refine lv_iconst (v := 0) hx hb dX12_row_1 (by decide) ?_
  refine pf hx hb hts hown hK hP hD hS 0 inT12 tyX12_ok nmX12 rfl rfl 0 (by decide) tw5_225 rfl rfl rfl (Nat.le_of_ble_eq_true rfl) dX12_row_2 (ws' := [(z, .inr (12, [.int 0, .ref zw, .ref zm, .ref zc, .ref zv, .ref zt, .int 0, .int 0, .int 0, .int 0, .int 0, .long 0, .int 0, .int 0, .int 0, .int (-1), .ref zn, .ref zh, .ref zp, .ref ze, .ref zs, .ref zg, .ref zk, .ref za, .ref zd, .ref zf, .ref zo, .ref zE, .ref zq, .int 0, .int 0, .int 0, .int 0, .int 0, .int 0, .ref zC])), (zw, .inl (t 1, 4, .inl (upd (upd (upd (upd (fun _ => 0) 0 (-1)) 1 (-1)) 2 (-1)) 3 (-1)))), (zm, .inl (t 1, 4, .inl (fun _ => 0))), (zc, .inl (t 2, 240, .inr (.inl (fun _ => 0))))]) rfl (fun H locs hP hD hS => ?_)
  refine lv_iload_n hx hb dX12_row_5 rfl (lv_at hl 1 rfl) ?_
  refine goI (rnS C0 (c_misSlot l G t a0) lkX12_83 ⟨by decide, by decide⟩ (hP.sub (ws' := []) [] rfl) (hD.sub (ws' := []) [] (by decide) rfl) rfl hl.1 (rest := []) rfl (Nat.le_of_ble_eq_true rfl) dX12_row_6 ⟨by decide, by decide⟩) hP hD hS hA [] [0, 1, 2, 3] (wr := [(z, .inr (12, [.int 0, .ref zw, .ref zm, .ref zc, .ref zv, .ref zt, .int 0, .int 0, .int 0, .int 0, .int 0, .long 0, .int 0, .int 0, .int 0, .int (-1), .ref zn, .ref zh, .ref zp, .ref ze, .ref zs, .ref zg, .ref zk, .ref za, .ref zd, .ref zf, .ref zo, .ref zE, .ref zq, .int 0, .int 0, .int 0, .int 0, .int 0, .int 0, .ref zC])), (zw, .inl (t 1, 4, .inl (upd (upd (upd (upd (fun _ => 0) 0 (-1)) 1 (-1)) 2 (-1)) 3 (-1)))), (zm, .inl (t 1, 4, .inl (fun _ => 0))), (zc, .inl (t 2, 240, .inr (.inl (fun _ => 0))))]) rfl rfl (by decide) (by decide) (fun r_1 u H locs h_2 hP hD hS => ?_)
  have hP : va_P G vwCl [(z, .inr (12, [.int 0, .ref zw, .ref zm, .ref zc, .ref zv, .ref zt, .int 0, .int 0, .int 0, .int 0, .int 0, .long 0, .int 0, .int 0, .int 0, .int (-1), .ref zn, .ref zh, .ref zp, .ref ze, .ref zs, .ref zg, .ref zk, .ref za, .ref zd, .ref zf, .ref zo, .ref zE, .ref zq, .int 0, .int 0, .int 0, .int 0, .int 0, .int 0, .ref zC])), (zw, .inl (t 1, 4, .inl (upd (upd (upd (upd (fun _ => 0) 0 (-1)) 1 (-1)) 2 (-1)) 3 (-1)))), (zm, .inl (t 1, 4, .inl (fun _ => 0))), (zc, .inl (t 2, 240, .inr (.inl (fun _ => 0))))] H := hP
  have hD : va_D A [(z, .inr (12, [.int 0, .ref zw, .ref zm, .ref zc, .ref zv, .ref zt, .int 0, .int 0, .int 0, .int 0, .int 0, .long 0, .int 0, .int 0, .int 0, .int (-1), .ref zn, .ref zh, .ref zp, .ref ze, .ref zs, .ref zg, .ref zk, .ref za, .ref zd, .ref zf, .ref zo, .ref zE, .ref zq, .int 0, .int 0, .int 0, .int 0, .int 0, .int 0, .ref zC])), (zw, .inl (t 1, 4, .inl (upd (upd (upd (upd (fun _ => 0) 0 (-1)) 1 (-1)) 2 (-1)) 3 (-1)))), (zm, .inl (t 1, 4, .inl (fun _ => 0))), (zc, .inl (t 2, 240, .inr (.inl (fun _ => 0))))] := hD
  refine W.widen (k := 0) (n := 0) (Nat.le_of_ble_eq_true rfl) (Nat.le_of_ble_eq_true rfl) ?_
  have h_2 : (r_1 = 1 ∧ 0 ≤ a0.toInt ∧ a0.toInt ≤ 3) ∨ (r_1 = 0 ∧ ¬ (0 ≤ a0.toInt ∧ a0.toInt ≤ 3)) := h_2
  rcases h_2 with ⟨rfl, f_3⟩ | ⟨rfl, f_3⟩
  · refine lv_if_eq (tgt := 30) hx hb dX12_row_9 (by decide) (fun c_4 => absurd c_4 (by decide)) (fun _ => ?_)
    refine lv_iload_n hx hb dX12_row_12 rfl (lv_at hl 2 rfl) ?_
    refine lv_i2l (v := b0.toInt64) hx hb dX12_row_13 (rfl) ?_
    refine lv_lconst (v := 0) hx hb dX12_row_14 (by decide) ?_
    refine lv_ldc2 hx hb hown (hts _ tw6_101) dX12_row_15 ?_
    refine goI (rnS C0 (c_in l G t b0.toInt64 0 3) lkX12_79 ⟨by decide, by decide⟩ (hP.sub (ws' := []) [] rfl) (hD.sub (ws' := []) [] (by decide) rfl) rfl hl.1 (rest := []) rfl (Nat.le_of_ble_eq_true rfl) dX12_row_18 ⟨by decide, by decide⟩) hP hD hS hA [] [0, 1, 2, 3] (wr := [(z, .inr (12, [.int 0, .ref zw, .ref zm, .ref zc, .ref zv, .ref zt, .int 0, .int 0, .int 0, .int 0, .int 0, .long 0, .int 0, .int 0, .int 0, .int (-1), .ref zn, .ref zh, .ref zp, .ref ze, .ref zs, .ref zg, .ref zk, .ref za, .ref zd, .ref zf, .ref zo, .ref zE, .ref zq, .int 0, .int 0, .int 0, .int 0, .int 0, .int 0, .ref zC])), (zw, .inl (t 1, 4, .inl (upd (upd (upd (upd (fun _ => 0) 0 (-1)) 1 (-1)) 2 (-1)) 3 (-1)))), (zm, .inl (t 1, 4, .inl (fun _ => 0))), (zc, .inl (t 2, 240, .inr (.inl (fun _ => 0))))]) rfl rfl (by decide) (by decide) (fun r_5 u H locs h_6 hP hD hS => ?_)
    have hP : va_P G vwCl [(z, .inr (12, [.int 0, .ref zw, .ref zm, .ref zc, .ref zv, .ref zt, .int 0, .int 0, .int 0, .int 0, .int 0, .long 0, .int 0, .int 0, .int 0, .int (-1), .ref zn, .ref zh, .ref zp, .ref ze, .ref zs, .ref zg, .ref zk, .ref za, .ref zd, .ref zf, .ref zo, .ref zE, .ref zq, .int 0, .int 0, .int 0, .int 0, .int 0, .int 0, .ref zC])), (zw, .inl (t 1, 4, .inl (upd (upd (upd (upd (fun _ => 0) 0 (-1)) 1 (-1)) 2 (-1)) 3 (-1)))), (zm, .inl (t 1, 4, .inl (fun _ => 0))), (zc, .inl (t 2, 240, .inr (.inl (fun _ => 0))))] H := hP
    have hD : va_D A [(z, .inr (12, [.int 0, .ref zw, .ref zm, .ref zc, .ref zv, .ref zt, .int 0, .int 0, .int 0, .int 0, .int 0, .long 0, .int 0, .int 0, .int 0, .int (-1), .ref zn, .ref zh, .ref zp, .ref ze, .ref zs, .ref zg, .ref zk, .ref za, .ref zd, .ref zf, .ref zo, .ref zE, .ref zq, .int 0, .int 0, .int 0, .int 0, .int 0, .int 0, .ref zC])), (zw, .inl (t 1, 4, .inl (upd (upd (upd (upd (fun _ => 0) 0 (-1)) 1 (-1)) 2 (-1)) 3 (-1)))), (zm, .inl (t 1, 4, .inl (fun _ => 0))), (zc, .inl (t 2, 240, .inr (.inl (fun _ => 0))))] := hD
    refine W.widen (k := 0) (n := 0) (Nat.le_of_ble_eq_true rfl) (Nat.le_of_ble_eq_true rfl) ?_
    have h_6 : (r_5 = 1 ∧ 0 ≤ b0.toInt64 ∧ b0.toInt64 ≤ 3) ∨ (r_5 = 0 ∧ ¬ (0 ≤ b0.toInt64 ∧ b0.toInt64 ≤ 3)) := h_6
    rcases h_6 with ⟨rfl, f_7⟩ | ⟨rfl, f_7⟩
    · refine lv_if_eq (tgt := 30) hx hb dX12_row_21 (by decide) (fun c_8 => absurd c_8 (by decide)) (fun _ => ?_)
      refine lv_iload_n hx hb dX12_row_24 rfl (lv_at hl 3 rfl) ?_
      refine lv_bipush (v := 60) hx hb dX12_row_25 (by decide) ?_
      refine lv_icmp_le (tgt := 33) hx hb dX12_row_27 (by decide) (fun c_9 => ?_) (fun c_9 => ?_)
      · refine lv_iload_n hx hb dX12_row_33 rfl (lv_at hl 3 rfl) ?_
        refine lv_if_ge (tgt := 40) hx hb dX12_row_34 (by decide) (fun c_10 => ?_) (fun c_10 => ?_)
        · have g_11 : a0 = 0 ∨ a0 = 1 ∨ a0 = 2 ∨ a0 = 3 := i_in4 f_3
          rcases g_11 with rfl | rfl | rfl | rfl
          · refine lv_aload_n hx hb dX12_row_40 rfl (lv_at hl 0 rfl) ?_
            refine gf hx hb hts hown hK hP 0 inT12 rfl rfl 1 (by decide) tw5_226 rfl dX12_row_41 ?_
            refine lv_iload_n hx hb dX12_row_44 rfl (lv_at hl 1 rfl) ?_
            refine lv_iload_n hx hb dX12_row_45 rfl (lv_at hl 2 rfl) ?_
            refine stI hx hb hK hP hD hS 1 rfl (by unfold vp_in; decide) dX12_row_46 (f' := (upd (upd (upd (upd (upd (fun _ => 0) 0 (-1)) 1 (-1)) 2 (-1)) 3 (-1)) 0 b0)) (rfl) (ws' := [(z, .inr (12, [.int 0, .ref zw, .ref zm, .ref zc, .ref zv, .ref zt, .int 0, .int 0, .int 0, .int 0, .int 0, .long 0, .int 0, .int 0, .int 0, .int (-1), .ref zn, .ref zh, .ref zp, .ref ze, .ref zs, .ref zg, .ref zk, .ref za, .ref zd, .ref zf, .ref zo, .ref zE, .ref zq, .int 0, .int 0, .int 0, .int 0, .int 0, .int 0, .ref zC])), (zw, .inl (t 1, 4, .inl (upd (upd (upd (upd (upd (fun _ => 0) 0 (-1)) 1 (-1)) 2 (-1)) 3 (-1)) 0 b0))), (zm, .inl (t 1, 4, .inl (fun _ => 0))), (zc, .inl (t 2, 240, .inr (.inl (fun _ => 0))))]) rfl (fun H locs hP hD hS => ?_)
            refine lv_aload_n hx hb dX12_row_47 rfl (lv_at hl 0 rfl) ?_
            refine gf hx hb hts hown hK hP 0 inT12 rfl rfl 2 (by decide) tw5_227 rfl dX12_row_48 ?_
            refine lv_iload_n hx hb dX12_row_51 rfl (lv_at hl 1 rfl) ?_
            refine lv_iload_n hx hb dX12_row_52 rfl (lv_at hl 3 rfl) ?_
            refine stI hx hb hK hP hD hS 2 rfl (by unfold vp_in; decide) dX12_row_53 (f' := (upd (fun _ => 0) 0 c0)) (rfl) (ws' := [(z, .inr (12, [.int 0, .ref zw, .ref zm, .ref zc, .ref zv, .ref zt, .int 0, .int 0, .int 0, .int 0, .int 0, .long 0, .int 0, .int 0, .int 0, .int (-1), .ref zn, .ref zh, .ref zp, .ref ze, .ref zs, .ref zg, .ref zk, .ref za, .ref zd, .ref zf, .ref zo, .ref zE, .ref zq, .int 0, .int 0, .int 0, .int 0, .int 0, .int 0, .ref zC])), (zw, .inl (t 1, 4, .inl (upd (upd (upd (upd (upd (fun _ => 0) 0 (-1)) 1 (-1)) 2 (-1)) 3 (-1)) 0 b0))), (zm, .inl (t 1, 4, .inl (upd (fun _ => 0) 0 c0))), (zc, .inl (t 2, 240, .inr (.inl (fun _ => 0))))]) rfl (fun H locs hP hD hS => ?_)
            obtain ⟨nn, hnn, rfl⟩ := i_nat60 (k := c0) c_10 c_9
            refine lv_iconst (v := 0) hx hb dX12_row_54 (by decide) ?_
            refine lv_istore (lv' := [(4, .int 0), (0, .ref z), (1, .int 0), (2, .int b0), (3, .int (nI nn))]) hx hb dX12_row_55 hl (by decide) rfl (fun ls hl => ?_)
            have LP_12 : ∀ (n k : Nat), k + n = nn → ∀ (H : Heap) (locs : List Loc) (ls : Array Slot), lv_has ls 5 [(4, .int (nI k)), (0, .ref z), (1, .int 0), (2, .int b0), (3, .int (nI nn))] → va_P G vwCl [(z, .inr (12, [.int 0, .ref zw, .ref zm, .ref zc, .ref zv, .ref zt, .int 0, .int 0, .int 0, .int 0, .int 0, .long 0, .int 0, .int 0, .int 0, .int (-1), .ref zn, .ref zh, .ref zp, .ref ze, .ref zs, .ref zg, .ref zk, .ref za, .ref zd, .ref zf, .ref zo, .ref zE, .ref zq, .int 0, .int 0, .int 0, .int 0, .int 0, .int 0, .ref zC])), (zw, .inl (t 1, 4, .inl (upd (upd (upd (upd (upd (fun _ => 0) 0 (-1)) 1 (-1)) 2 (-1)) 3 (-1)) 0 b0))), (zm, .inl (t 1, 4, .inl (upd (fun _ => 0) 0 (nI nn)))), (zc, .inl (t 2, 240, .inr (.inl (fun _ => 0))))] H → va_D A [(z, .inr (12, [.int 0, .ref zw, .ref zm, .ref zc, .ref zv, .ref zt, .int 0, .int 0, .int 0, .int 0, .int 0, .long 0, .int 0, .int 0, .int 0, .int (-1), .ref zn, .ref zh, .ref zp, .ref ze, .ref zs, .ref zg, .ref zk, .ref za, .ref zd, .ref zf, .ref zo, .ref zE, .ref zq, .int 0, .int 0, .int 0, .int 0, .int 0, .int 0, .ref zC])), (zw, .inl (t 1, 4, .inl (upd (upd (upd (upd (upd (fun _ => 0) 0 (-1)) 1 (-1)) 2 (-1)) 3 (-1)) 0 b0))), (zm, .inl (t 1, 4, .inl (upd (fun _ => 0) 0 (nI nn)))), (zc, .inl (t 2, 240, .inr (.inl (fun _ => 0))))] → va_S A s.heap H locs → W p l e ({ frames := 2, cells := 0, slots := 0, locals := 45 }) s m args below meth c H locs 0 0 (MQ below ((QI G (fun r (u : Unit) => (r = (-2) ∧ (¬ (0 ≤ (0 : Int32).toInt ∧ (0 : Int32).toInt ≤ 3) ∨ ¬ (0 ≤ b0.toInt ∧ b0.toInt ≤ 3) ∨ 60 < (nI nn).toInt)) ∨ (r = (-3) ∧ ((0 ≤ (0 : Int32).toInt ∧ (0 : Int32).toInt ≤ 3) ∧ (0 ≤ b0.toInt ∧ b0.toInt ≤ 3) ∧ (nI nn).toInt < 0)) ∨ (r = 0 ∧ ((0 ≤ (0 : Int32).toInt ∧ (0 : Int32).toInt ≤ 3) ∧ (0 ≤ b0.toInt ∧ b0.toInt ≤ 3) ∧ 0 ≤ (nI nn).toInt ∧ (nI nn).toInt ≤ 60))) (fun (u : Unit) => [])) A) args s 0 0 A) (F0 m 57 ls []) := by
              intro n
              induction n with
              | zero =>
                intro k hk H locs ls hl hP hD hS
                have hk0 : nn = k := by omega
                subst hk0
                refine lv_iload hx hb dX12_row_57 (lv_at hl 0 rfl) ?_
                refine lv_iload_n hx hb dX12_row_59 rfl (lv_at hl 4 rfl) ?_
                refine lv_icmp_ge (tgt := 82) hx hb dX12_row_60 (by decide) (fun _ => ?_) (fun c_13 => absurd (Int32.le_refl _) c_13)
                refine lv_iconst (v := 0) hx hb dX12_row_82 (by decide) ?_
                refine W.widen (k := 0) (n := 0) (by decide) (by decide) ?_
                exact rtI hx hb hr hlocks hS () (by first | exact Or.inr (Or.inr (⟨rfl, by (try simp only [zlt, zle, zeq, zle64, z64, z0, z1, z2, z3, z4, z5, z6, z7, z8, z9, z60, zm1, y0, y2, y3, y4, ym1] at f_3); (try simp only [zlt, zle, zeq, zle64, z64, z0, z1, z2, z3, z4, z5, z6, z7, z8, z9, z60, zm1, y0, y2, y3, y4, ym1] at f_7); (try simp only [zlt, zle, zeq, zle64, z64, z0, z1, z2, z3, z4, z5, z6, z7, z8, z9, z60, zm1, y0, y2, y3, y4, ym1] at c_9); (try simp only [zlt, zle, zeq, zle64, z64, z0, z1, z2, z3, z4, z5, z6, z7, z8, z9, z60, zm1, y0, y2, y3, y4, ym1] at c_10); (try simp only [zlt, zle, zeq, zle64, z64, z0, z1, z2, z3, z4, z5, z6, z7, z8, z9, z60, zm1, y0, y2, y3, y4, ym1]) <;> omega⟩))) (hP.sub [] rfl) (hD.sub [] (by decide) rfl) dX12_row_83
              | succ n ih =>
                intro k hk H locs ls hl hP hD hS
                refine lv_iload hx hb dX12_row_57 (lv_at hl 0 rfl) ?_
                refine lv_iload_n hx hb dX12_row_59 rfl (lv_at hl 4 rfl) ?_
                refine lv_icmp_ge (tgt := 82) hx hb dX12_row_60 (by decide) (fun c_14 => absurd c_14 (nI_ge (by omega) (by omega))) (fun _ => ?_)
                refine lv_aload_n hx hb dX12_row_63 rfl (lv_at hl 1 rfl) ?_
                refine gf hx hb hts hown hK hP 0 inT12 rfl rfl 3 (by decide) tw5_228 rfl dX12_row_64 ?_
                refine lv_bipush (v := 60) hx hb dX12_row_67 (by decide) ?_
                refine lv_iload_n hx hb dX12_row_69 rfl (lv_at hl 2 rfl) ?_
                refine lv_imul hx hb dX12_row_70 (tpi (v := 0) (by decide) ?_)
                refine lv_iload hx hb dX12_row_71 (lv_at hl 0 rfl) ?_
                refine lv_iadd hx hb dX12_row_73 (tpi (v := (nI (0 + k))) (show nI 0 + nI k = nI (0 + k) from nI_add 0 k) ?_)
                refine lv_lconst (v := 0) hx hb dX12_row_74 (by decide) ?_
                refine stL hx hb hK hP hD hS 3 rfl (vp_in_nI (by omega) (by decide)) dX12_row_75 (f' := (fun _ => 0)) (upd_zL _) (ws' := [(z, .inr (12, [.int 0, .ref zw, .ref zm, .ref zc, .ref zv, .ref zt, .int 0, .int 0, .int 0, .int 0, .int 0, .long 0, .int 0, .int 0, .int 0, .int (-1), .ref zn, .ref zh, .ref zp, .ref ze, .ref zs, .ref zg, .ref zk, .ref za, .ref zd, .ref zf, .ref zo, .ref zE, .ref zq, .int 0, .int 0, .int 0, .int 0, .int 0, .int 0, .ref zC])), (zw, .inl (t 1, 4, .inl (upd (upd (upd (upd (upd (fun _ => 0) 0 (-1)) 1 (-1)) 2 (-1)) 3 (-1)) 0 b0))), (zm, .inl (t 1, 4, .inl (upd (fun _ => 0) 0 (nI nn)))), (zc, .inl (t 2, 240, .inr (.inl (fun _ => 0))))]) rfl (fun H locs hP hD hS => ?_)
                refine lv_iinc (v := (nI (k + 1))) (lv' := [(4, .int (nI (k + 1))), (0, .ref z), (1, .int 0), (2, .int b0), (3, .int (nI nn))]) hx hb dX12_row_76 hl (k := 0) rfl (nI_1 k) (by decide) rfl (fun ls hl => ?_)
                refine lv_goto (tgt := 57) hx hb dX12_row_79 (by decide) ?_
                exact ih (k + 1) (by omega) H locs ls (lv_sub hl [0, 1, 2, 3, 4] rfl) (hP.sub [0, 1, 2, 3] rfl) (hD.sub [0, 1, 2, 3] (by decide) rfl) hS
            exact LP_12 nn 0 (by omega) _ _ _ hl hP hD hS
          · refine lv_aload_n hx hb dX12_row_40 rfl (lv_at hl 0 rfl) ?_
            refine gf hx hb hts hown hK hP 0 inT12 rfl rfl 1 (by decide) tw5_226 rfl dX12_row_41 ?_
            refine lv_iload_n hx hb dX12_row_44 rfl (lv_at hl 1 rfl) ?_
            refine lv_iload_n hx hb dX12_row_45 rfl (lv_at hl 2 rfl) ?_
            refine stI hx hb hK hP hD hS 1 rfl (by unfold vp_in; decide) dX12_row_46 (f' := (upd (upd (upd (upd (upd (fun _ => 0) 0 (-1)) 1 (-1)) 2 (-1)) 3 (-1)) 1 b0)) (rfl) (ws' := [(z, .inr (12, [.int 0, .ref zw, .ref zm, .ref zc, .ref zv, .ref zt, .int 0, .int 0, .int 0, .int 0, .int 0, .long 0, .int 0, .int 0, .int 0, .int (-1), .ref zn, .ref zh, .ref zp, .ref ze, .ref zs, .ref zg, .ref zk, .ref za, .ref zd, .ref zf, .ref zo, .ref zE, .ref zq, .int 0, .int 0, .int 0, .int 0, .int 0, .int 0, .ref zC])), (zw, .inl (t 1, 4, .inl (upd (upd (upd (upd (upd (fun _ => 0) 0 (-1)) 1 (-1)) 2 (-1)) 3 (-1)) 1 b0))), (zm, .inl (t 1, 4, .inl (fun _ => 0))), (zc, .inl (t 2, 240, .inr (.inl (fun _ => 0))))]) rfl (fun H locs hP hD hS => ?_)
            refine lv_aload_n hx hb dX12_row_47 rfl (lv_at hl 0 rfl) ?_
            refine gf hx hb hts hown hK hP 0 inT12 rfl rfl 2 (by decide) tw5_227 rfl dX12_row_48 ?_
            refine lv_iload_n hx hb dX12_row_51 rfl (lv_at hl 1 rfl) ?_
            refine lv_iload_n hx hb dX12_row_52 rfl (lv_at hl 3 rfl) ?_
            refine stI hx hb hK hP hD hS 2 rfl (by unfold vp_in; decide) dX12_row_53 (f' := (upd (fun _ => 0) 1 c0)) (rfl) (ws' := [(z, .inr (12, [.int 0, .ref zw, .ref zm, .ref zc, .ref zv, .ref zt, .int 0, .int 0, .int 0, .int 0, .int 0, .long 0, .int 0, .int 0, .int 0, .int (-1), .ref zn, .ref zh, .ref zp, .ref ze, .ref zs, .ref zg, .ref zk, .ref za, .ref zd, .ref zf, .ref zo, .ref zE, .ref zq, .int 0, .int 0, .int 0, .int 0, .int 0, .int 0, .ref zC])), (zw, .inl (t 1, 4, .inl (upd (upd (upd (upd (upd (fun _ => 0) 0 (-1)) 1 (-1)) 2 (-1)) 3 (-1)) 1 b0))), (zm, .inl (t 1, 4, .inl (upd (fun _ => 0) 1 c0))), (zc, .inl (t 2, 240, .inr (.inl (fun _ => 0))))]) rfl (fun H locs hP hD hS => ?_)
            obtain ⟨nn, hnn, rfl⟩ := i_nat60 (k := c0) c_10 c_9
            refine lv_iconst (v := 0) hx hb dX12_row_54 (by decide) ?_
            refine lv_istore (lv' := [(4, .int 0), (0, .ref z), (1, .int 1), (2, .int b0), (3, .int (nI nn))]) hx hb dX12_row_55 hl (by decide) rfl (fun ls hl => ?_)
            have LP_15 : ∀ (n k : Nat), k + n = nn → ∀ (H : Heap) (locs : List Loc) (ls : Array Slot), lv_has ls 5 [(4, .int (nI k)), (0, .ref z), (1, .int 1), (2, .int b0), (3, .int (nI nn))] → va_P G vwCl [(z, .inr (12, [.int 0, .ref zw, .ref zm, .ref zc, .ref zv, .ref zt, .int 0, .int 0, .int 0, .int 0, .int 0, .long 0, .int 0, .int 0, .int 0, .int (-1), .ref zn, .ref zh, .ref zp, .ref ze, .ref zs, .ref zg, .ref zk, .ref za, .ref zd, .ref zf, .ref zo, .ref zE, .ref zq, .int 0, .int 0, .int 0, .int 0, .int 0, .int 0, .ref zC])), (zw, .inl (t 1, 4, .inl (upd (upd (upd (upd (upd (fun _ => 0) 0 (-1)) 1 (-1)) 2 (-1)) 3 (-1)) 1 b0))), (zm, .inl (t 1, 4, .inl (upd (fun _ => 0) 1 (nI nn)))), (zc, .inl (t 2, 240, .inr (.inl (fun _ => 0))))] H → va_D A [(z, .inr (12, [.int 0, .ref zw, .ref zm, .ref zc, .ref zv, .ref zt, .int 0, .int 0, .int 0, .int 0, .int 0, .long 0, .int 0, .int 0, .int 0, .int (-1), .ref zn, .ref zh, .ref zp, .ref ze, .ref zs, .ref zg, .ref zk, .ref za, .ref zd, .ref zf, .ref zo, .ref zE, .ref zq, .int 0, .int 0, .int 0, .int 0, .int 0, .int 0, .ref zC])), (zw, .inl (t 1, 4, .inl (upd (upd (upd (upd (upd (fun _ => 0) 0 (-1)) 1 (-1)) 2 (-1)) 3 (-1)) 1 b0))), (zm, .inl (t 1, 4, .inl (upd (fun _ => 0) 1 (nI nn)))), (zc, .inl (t 2, 240, .inr (.inl (fun _ => 0))))] → va_S A s.heap H locs → W p l e ({ frames := 2, cells := 0, slots := 0, locals := 45 }) s m args below meth c H locs 0 0 (MQ below ((QI G (fun r (u : Unit) => (r = (-2) ∧ (¬ (0 ≤ (1 : Int32).toInt ∧ (1 : Int32).toInt ≤ 3) ∨ ¬ (0 ≤ b0.toInt ∧ b0.toInt ≤ 3) ∨ 60 < (nI nn).toInt)) ∨ (r = (-3) ∧ ((0 ≤ (1 : Int32).toInt ∧ (1 : Int32).toInt ≤ 3) ∧ (0 ≤ b0.toInt ∧ b0.toInt ≤ 3) ∧ (nI nn).toInt < 0)) ∨ (r = 0 ∧ ((0 ≤ (1 : Int32).toInt ∧ (1 : Int32).toInt ≤ 3) ∧ (0 ≤ b0.toInt ∧ b0.toInt ≤ 3) ∧ 0 ≤ (nI nn).toInt ∧ (nI nn).toInt ≤ 60))) (fun (u : Unit) => [])) A) args s 0 0 A) (F0 m 57 ls []) := by
              intro n
              induction n with
              | zero =>
                intro k hk H locs ls hl hP hD hS
                have hk0 : nn = k := by omega
                subst hk0
                refine lv_iload hx hb dX12_row_57 (lv_at hl 0 rfl) ?_
                refine lv_iload_n hx hb dX12_row_59 rfl (lv_at hl 4 rfl) ?_
                refine lv_icmp_ge (tgt := 82) hx hb dX12_row_60 (by decide) (fun _ => ?_) (fun c_16 => absurd (Int32.le_refl _) c_16)
                refine lv_iconst (v := 0) hx hb dX12_row_82 (by decide) ?_
                refine W.widen (k := 0) (n := 0) (by decide) (by decide) ?_
                exact rtI hx hb hr hlocks hS () (by first | exact Or.inr (Or.inr (⟨rfl, by (try simp only [zlt, zle, zeq, zle64, z64, z0, z1, z2, z3, z4, z5, z6, z7, z8, z9, z60, zm1, y0, y2, y3, y4, ym1] at f_3); (try simp only [zlt, zle, zeq, zle64, z64, z0, z1, z2, z3, z4, z5, z6, z7, z8, z9, z60, zm1, y0, y2, y3, y4, ym1] at f_7); (try simp only [zlt, zle, zeq, zle64, z64, z0, z1, z2, z3, z4, z5, z6, z7, z8, z9, z60, zm1, y0, y2, y3, y4, ym1] at c_9); (try simp only [zlt, zle, zeq, zle64, z64, z0, z1, z2, z3, z4, z5, z6, z7, z8, z9, z60, zm1, y0, y2, y3, y4, ym1] at c_10); (try simp only [zlt, zle, zeq, zle64, z64, z0, z1, z2, z3, z4, z5, z6, z7, z8, z9, z60, zm1, y0, y2, y3, y4, ym1]) <;> omega⟩))) (hP.sub [] rfl) (hD.sub [] (by decide) rfl) dX12_row_83
              | succ n ih =>
                intro k hk H locs ls hl hP hD hS
                refine lv_iload hx hb dX12_row_57 (lv_at hl 0 rfl) ?_
                refine lv_iload_n hx hb dX12_row_59 rfl (lv_at hl 4 rfl) ?_
                refine lv_icmp_ge (tgt := 82) hx hb dX12_row_60 (by decide) (fun c_17 => absurd c_17 (nI_ge (by omega) (by omega))) (fun _ => ?_)
                refine lv_aload_n hx hb dX12_row_63 rfl (lv_at hl 1 rfl) ?_
                refine gf hx hb hts hown hK hP 0 inT12 rfl rfl 3 (by decide) tw5_228 rfl dX12_row_64 ?_
                refine lv_bipush (v := 60) hx hb dX12_row_67 (by decide) ?_
                refine lv_iload_n hx hb dX12_row_69 rfl (lv_at hl 2 rfl) ?_
                refine lv_imul hx hb dX12_row_70 (tpi (v := 60) (by decide) ?_)
                refine lv_iload hx hb dX12_row_71 (lv_at hl 0 rfl) ?_
                refine lv_iadd hx hb dX12_row_73 (tpi (v := (nI (60 + k))) (show nI 60 + nI k = nI (60 + k) from nI_add 60 k) ?_)
                refine lv_lconst (v := 0) hx hb dX12_row_74 (by decide) ?_
                refine stL hx hb hK hP hD hS 3 rfl (vp_in_nI (by omega) (by decide)) dX12_row_75 (f' := (fun _ => 0)) (upd_zL _) (ws' := [(z, .inr (12, [.int 0, .ref zw, .ref zm, .ref zc, .ref zv, .ref zt, .int 0, .int 0, .int 0, .int 0, .int 0, .long 0, .int 0, .int 0, .int 0, .int (-1), .ref zn, .ref zh, .ref zp, .ref ze, .ref zs, .ref zg, .ref zk, .ref za, .ref zd, .ref zf, .ref zo, .ref zE, .ref zq, .int 0, .int 0, .int 0, .int 0, .int 0, .int 0, .ref zC])), (zw, .inl (t 1, 4, .inl (upd (upd (upd (upd (upd (fun _ => 0) 0 (-1)) 1 (-1)) 2 (-1)) 3 (-1)) 1 b0))), (zm, .inl (t 1, 4, .inl (upd (fun _ => 0) 1 (nI nn)))), (zc, .inl (t 2, 240, .inr (.inl (fun _ => 0))))]) rfl (fun H locs hP hD hS => ?_)
                refine lv_iinc (v := (nI (k + 1))) (lv' := [(4, .int (nI (k + 1))), (0, .ref z), (1, .int 1), (2, .int b0), (3, .int (nI nn))]) hx hb dX12_row_76 hl (k := 0) rfl (nI_1 k) (by decide) rfl (fun ls hl => ?_)
                refine lv_goto (tgt := 57) hx hb dX12_row_79 (by decide) ?_
                exact ih (k + 1) (by omega) H locs ls (lv_sub hl [0, 1, 2, 3, 4] rfl) (hP.sub [0, 1, 2, 3] rfl) (hD.sub [0, 1, 2, 3] (by decide) rfl) hS
            exact LP_15 nn 0 (by omega) _ _ _ hl hP hD hS
          · refine lv_aload_n hx hb dX12_row_40 rfl (lv_at hl 0 rfl) ?_
            refine gf hx hb hts hown hK hP 0 inT12 rfl rfl 1 (by decide) tw5_226 rfl dX12_row_41 ?_
            refine lv_iload_n hx hb dX12_row_44 rfl (lv_at hl 1 rfl) ?_
            refine lv_iload_n hx hb dX12_row_45 rfl (lv_at hl 2 rfl) ?_
            refine stI hx hb hK hP hD hS 1 rfl (by unfold vp_in; decide) dX12_row_46 (f' := (upd (upd (upd (upd (upd (fun _ => 0) 0 (-1)) 1 (-1)) 2 (-1)) 3 (-1)) 2 b0)) (rfl) (ws' := [(z, .inr (12, [.int 0, .ref zw, .ref zm, .ref zc, .ref zv, .ref zt, .int 0, .int 0, .int 0, .int 0, .int 0, .long 0, .int 0, .int 0, .int 0, .int (-1), .ref zn, .ref zh, .ref zp, .ref ze, .ref zs, .ref zg, .ref zk, .ref za, .ref zd, .ref zf, .ref zo, .ref zE, .ref zq, .int 0, .int 0, .int 0, .int 0, .int 0, .int 0, .ref zC])), (zw, .inl (t 1, 4, .inl (upd (upd (upd (upd (upd (fun _ => 0) 0 (-1)) 1 (-1)) 2 (-1)) 3 (-1)) 2 b0))), (zm, .inl (t 1, 4, .inl (fun _ => 0))), (zc, .inl (t 2, 240, .inr (.inl (fun _ => 0))))]) rfl (fun H locs hP hD hS => ?_)
            refine lv_aload_n hx hb dX12_row_47 rfl (lv_at hl 0 rfl) ?_
            refine gf hx hb hts hown hK hP 0 inT12 rfl rfl 2 (by decide) tw5_227 rfl dX12_row_48 ?_
            refine lv_iload_n hx hb dX12_row_51 rfl (lv_at hl 1 rfl) ?_
            refine lv_iload_n hx hb dX12_row_52 rfl (lv_at hl 3 rfl) ?_
            refine stI hx hb hK hP hD hS 2 rfl (by unfold vp_in; decide) dX12_row_53 (f' := (upd (fun _ => 0) 2 c0)) (rfl) (ws' := [(z, .inr (12, [.int 0, .ref zw, .ref zm, .ref zc, .ref zv, .ref zt, .int 0, .int 0, .int 0, .int 0, .int 0, .long 0, .int 0, .int 0, .int 0, .int (-1), .ref zn, .ref zh, .ref zp, .ref ze, .ref zs, .ref zg, .ref zk, .ref za, .ref zd, .ref zf, .ref zo, .ref zE, .ref zq, .int 0, .int 0, .int 0, .int 0, .int 0, .int 0, .ref zC])), (zw, .inl (t 1, 4, .inl (upd (upd (upd (upd (upd (fun _ => 0) 0 (-1)) 1 (-1)) 2 (-1)) 3 (-1)) 2 b0))), (zm, .inl (t 1, 4, .inl (upd (fun _ => 0) 2 c0))), (zc, .inl (t 2, 240, .inr (.inl (fun _ => 0))))]) rfl (fun H locs hP hD hS => ?_)
            obtain ⟨nn, hnn, rfl⟩ := i_nat60 (k := c0) c_10 c_9
            refine lv_iconst (v := 0) hx hb dX12_row_54 (by decide) ?_
            refine lv_istore (lv' := [(4, .int 0), (0, .ref z), (1, .int 2), (2, .int b0), (3, .int (nI nn))]) hx hb dX12_row_55 hl (by decide) rfl (fun ls hl => ?_)
            have LP_18 : ∀ (n k : Nat), k + n = nn → ∀ (H : Heap) (locs : List Loc) (ls : Array Slot), lv_has ls 5 [(4, .int (nI k)), (0, .ref z), (1, .int 2), (2, .int b0), (3, .int (nI nn))] → va_P G vwCl [(z, .inr (12, [.int 0, .ref zw, .ref zm, .ref zc, .ref zv, .ref zt, .int 0, .int 0, .int 0, .int 0, .int 0, .long 0, .int 0, .int 0, .int 0, .int (-1), .ref zn, .ref zh, .ref zp, .ref ze, .ref zs, .ref zg, .ref zk, .ref za, .ref zd, .ref zf, .ref zo, .ref zE, .ref zq, .int 0, .int 0, .int 0, .int 0, .int 0, .int 0, .ref zC])), (zw, .inl (t 1, 4, .inl (upd (upd (upd (upd (upd (fun _ => 0) 0 (-1)) 1 (-1)) 2 (-1)) 3 (-1)) 2 b0))), (zm, .inl (t 1, 4, .inl (upd (fun _ => 0) 2 (nI nn)))), (zc, .inl (t 2, 240, .inr (.inl (fun _ => 0))))] H → va_D A [(z, .inr (12, [.int 0, .ref zw, .ref zm, .ref zc, .ref zv, .ref zt, .int 0, .int 0, .int 0, .int 0, .int 0, .long 0, .int 0, .int 0, .int 0, .int (-1), .ref zn, .ref zh, .ref zp, .ref ze, .ref zs, .ref zg, .ref zk, .ref za, .ref zd, .ref zf, .ref zo, .ref zE, .ref zq, .int 0, .int 0, .int 0, .int 0, .int 0, .int 0, .ref zC])), (zw, .inl (t 1, 4, .inl (upd (upd (upd (upd (upd (fun _ => 0) 0 (-1)) 1 (-1)) 2 (-1)) 3 (-1)) 2 b0))), (zm, .inl (t 1, 4, .inl (upd (fun _ => 0) 2 (nI nn)))), (zc, .inl (t 2, 240, .inr (.inl (fun _ => 0))))] → va_S A s.heap H locs → W p l e ({ frames := 2, cells := 0, slots := 0, locals := 45 }) s m args below meth c H locs 0 0 (MQ below ((QI G (fun r (u : Unit) => (r = (-2) ∧ (¬ (0 ≤ (2 : Int32).toInt ∧ (2 : Int32).toInt ≤ 3) ∨ ¬ (0 ≤ b0.toInt ∧ b0.toInt ≤ 3) ∨ 60 < (nI nn).toInt)) ∨ (r = (-3) ∧ ((0 ≤ (2 : Int32).toInt ∧ (2 : Int32).toInt ≤ 3) ∧ (0 ≤ b0.toInt ∧ b0.toInt ≤ 3) ∧ (nI nn).toInt < 0)) ∨ (r = 0 ∧ ((0 ≤ (2 : Int32).toInt ∧ (2 : Int32).toInt ≤ 3) ∧ (0 ≤ b0.toInt ∧ b0.toInt ≤ 3) ∧ 0 ≤ (nI nn).toInt ∧ (nI nn).toInt ≤ 60))) (fun (u : Unit) => [])) A) args s 0 0 A) (F0 m 57 ls []) := by
              intro n
              induction n with
              | zero =>
                intro k hk H locs ls hl hP hD hS
                have hk0 : nn = k := by omega
                subst hk0
                refine lv_iload hx hb dX12_row_57 (lv_at hl 0 rfl) ?_
                refine lv_iload_n hx hb dX12_row_59 rfl (lv_at hl 4 rfl) ?_
                refine lv_icmp_ge (tgt := 82) hx hb dX12_row_60 (by decide) (fun _ => ?_) (fun c_19 => absurd (Int32.le_refl _) c_19)
                refine lv_iconst (v := 0) hx hb dX12_row_82 (by decide) ?_
                refine W.widen (k := 0) (n := 0) (by decide) (by decide) ?_
                exact rtI hx hb hr hlocks hS () (by first | exact Or.inr (Or.inr (⟨rfl, by (try simp only [zlt, zle, zeq, zle64, z64, z0, z1, z2, z3, z4, z5, z6, z7, z8, z9, z60, zm1, y0, y2, y3, y4, ym1] at f_3); (try simp only [zlt, zle, zeq, zle64, z64, z0, z1, z2, z3, z4, z5, z6, z7, z8, z9, z60, zm1, y0, y2, y3, y4, ym1] at f_7); (try simp only [zlt, zle, zeq, zle64, z64, z0, z1, z2, z3, z4, z5, z6, z7, z8, z9, z60, zm1, y0, y2, y3, y4, ym1] at c_9); (try simp only [zlt, zle, zeq, zle64, z64, z0, z1, z2, z3, z4, z5, z6, z7, z8, z9, z60, zm1, y0, y2, y3, y4, ym1] at c_10); (try simp only [zlt, zle, zeq, zle64, z64, z0, z1, z2, z3, z4, z5, z6, z7, z8, z9, z60, zm1, y0, y2, y3, y4, ym1]) <;> omega⟩))) (hP.sub [] rfl) (hD.sub [] (by decide) rfl) dX12_row_83
              | succ n ih =>
                intro k hk H locs ls hl hP hD hS
                refine lv_iload hx hb dX12_row_57 (lv_at hl 0 rfl) ?_
                refine lv_iload_n hx hb dX12_row_59 rfl (lv_at hl 4 rfl) ?_
                refine lv_icmp_ge (tgt := 82) hx hb dX12_row_60 (by decide) (fun c_20 => absurd c_20 (nI_ge (by omega) (by omega))) (fun _ => ?_)
                refine lv_aload_n hx hb dX12_row_63 rfl (lv_at hl 1 rfl) ?_
                refine gf hx hb hts hown hK hP 0 inT12 rfl rfl 3 (by decide) tw5_228 rfl dX12_row_64 ?_
                refine lv_bipush (v := 60) hx hb dX12_row_67 (by decide) ?_
                refine lv_iload_n hx hb dX12_row_69 rfl (lv_at hl 2 rfl) ?_
                refine lv_imul hx hb dX12_row_70 (tpi (v := 120) (by decide) ?_)
                refine lv_iload hx hb dX12_row_71 (lv_at hl 0 rfl) ?_
                refine lv_iadd hx hb dX12_row_73 (tpi (v := (nI (120 + k))) (show nI 120 + nI k = nI (120 + k) from nI_add 120 k) ?_)
                refine lv_lconst (v := 0) hx hb dX12_row_74 (by decide) ?_
                refine stL hx hb hK hP hD hS 3 rfl (vp_in_nI (by omega) (by decide)) dX12_row_75 (f' := (fun _ => 0)) (upd_zL _) (ws' := [(z, .inr (12, [.int 0, .ref zw, .ref zm, .ref zc, .ref zv, .ref zt, .int 0, .int 0, .int 0, .int 0, .int 0, .long 0, .int 0, .int 0, .int 0, .int (-1), .ref zn, .ref zh, .ref zp, .ref ze, .ref zs, .ref zg, .ref zk, .ref za, .ref zd, .ref zf, .ref zo, .ref zE, .ref zq, .int 0, .int 0, .int 0, .int 0, .int 0, .int 0, .ref zC])), (zw, .inl (t 1, 4, .inl (upd (upd (upd (upd (upd (fun _ => 0) 0 (-1)) 1 (-1)) 2 (-1)) 3 (-1)) 2 b0))), (zm, .inl (t 1, 4, .inl (upd (fun _ => 0) 2 (nI nn)))), (zc, .inl (t 2, 240, .inr (.inl (fun _ => 0))))]) rfl (fun H locs hP hD hS => ?_)
                refine lv_iinc (v := (nI (k + 1))) (lv' := [(4, .int (nI (k + 1))), (0, .ref z), (1, .int 2), (2, .int b0), (3, .int (nI nn))]) hx hb dX12_row_76 hl (k := 0) rfl (nI_1 k) (by decide) rfl (fun ls hl => ?_)
                refine lv_goto (tgt := 57) hx hb dX12_row_79 (by decide) ?_
                exact ih (k + 1) (by omega) H locs ls (lv_sub hl [0, 1, 2, 3, 4] rfl) (hP.sub [0, 1, 2, 3] rfl) (hD.sub [0, 1, 2, 3] (by decide) rfl) hS
            exact LP_18 nn 0 (by omega) _ _ _ hl hP hD hS
          · refine lv_aload_n hx hb dX12_row_40 rfl (lv_at hl 0 rfl) ?_
            refine gf hx hb hts hown hK hP 0 inT12 rfl rfl 1 (by decide) tw5_226 rfl dX12_row_41 ?_
            refine lv_iload_n hx hb dX12_row_44 rfl (lv_at hl 1 rfl) ?_
            refine lv_iload_n hx hb dX12_row_45 rfl (lv_at hl 2 rfl) ?_
            refine stI hx hb hK hP hD hS 1 rfl (by unfold vp_in; decide) dX12_row_46 (f' := (upd (upd (upd (upd (upd (fun _ => 0) 0 (-1)) 1 (-1)) 2 (-1)) 3 (-1)) 3 b0)) (rfl) (ws' := [(z, .inr (12, [.int 0, .ref zw, .ref zm, .ref zc, .ref zv, .ref zt, .int 0, .int 0, .int 0, .int 0, .int 0, .long 0, .int 0, .int 0, .int 0, .int (-1), .ref zn, .ref zh, .ref zp, .ref ze, .ref zs, .ref zg, .ref zk, .ref za, .ref zd, .ref zf, .ref zo, .ref zE, .ref zq, .int 0, .int 0, .int 0, .int 0, .int 0, .int 0, .ref zC])), (zw, .inl (t 1, 4, .inl (upd (upd (upd (upd (upd (fun _ => 0) 0 (-1)) 1 (-1)) 2 (-1)) 3 (-1)) 3 b0))), (zm, .inl (t 1, 4, .inl (fun _ => 0))), (zc, .inl (t 2, 240, .inr (.inl (fun _ => 0))))]) rfl (fun H locs hP hD hS => ?_)
            refine lv_aload_n hx hb dX12_row_47 rfl (lv_at hl 0 rfl) ?_
            refine gf hx hb hts hown hK hP 0 inT12 rfl rfl 2 (by decide) tw5_227 rfl dX12_row_48 ?_
            refine lv_iload_n hx hb dX12_row_51 rfl (lv_at hl 1 rfl) ?_
            refine lv_iload_n hx hb dX12_row_52 rfl (lv_at hl 3 rfl) ?_
            refine stI hx hb hK hP hD hS 2 rfl (by unfold vp_in; decide) dX12_row_53 (f' := (upd (fun _ => 0) 3 c0)) (rfl) (ws' := [(z, .inr (12, [.int 0, .ref zw, .ref zm, .ref zc, .ref zv, .ref zt, .int 0, .int 0, .int 0, .int 0, .int 0, .long 0, .int 0, .int 0, .int 0, .int (-1), .ref zn, .ref zh, .ref zp, .ref ze, .ref zs, .ref zg, .ref zk, .ref za, .ref zd, .ref zf, .ref zo, .ref zE, .ref zq, .int 0, .int 0, .int 0, .int 0, .int 0, .int 0, .ref zC])), (zw, .inl (t 1, 4, .inl (upd (upd (upd (upd (upd (fun _ => 0) 0 (-1)) 1 (-1)) 2 (-1)) 3 (-1)) 3 b0))), (zm, .inl (t 1, 4, .inl (upd (fun _ => 0) 3 c0))), (zc, .inl (t 2, 240, .inr (.inl (fun _ => 0))))]) rfl (fun H locs hP hD hS => ?_)
            obtain ⟨nn, hnn, rfl⟩ := i_nat60 (k := c0) c_10 c_9
            refine lv_iconst (v := 0) hx hb dX12_row_54 (by decide) ?_
            refine lv_istore (lv' := [(4, .int 0), (0, .ref z), (1, .int 3), (2, .int b0), (3, .int (nI nn))]) hx hb dX12_row_55 hl (by decide) rfl (fun ls hl => ?_)
            have LP_21 : ∀ (n k : Nat), k + n = nn → ∀ (H : Heap) (locs : List Loc) (ls : Array Slot), lv_has ls 5 [(4, .int (nI k)), (0, .ref z), (1, .int 3), (2, .int b0), (3, .int (nI nn))] → va_P G vwCl [(z, .inr (12, [.int 0, .ref zw, .ref zm, .ref zc, .ref zv, .ref zt, .int 0, .int 0, .int 0, .int 0, .int 0, .long 0, .int 0, .int 0, .int 0, .int (-1), .ref zn, .ref zh, .ref zp, .ref ze, .ref zs, .ref zg, .ref zk, .ref za, .ref zd, .ref zf, .ref zo, .ref zE, .ref zq, .int 0, .int 0, .int 0, .int 0, .int 0, .int 0, .ref zC])), (zw, .inl (t 1, 4, .inl (upd (upd (upd (upd (upd (fun _ => 0) 0 (-1)) 1 (-1)) 2 (-1)) 3 (-1)) 3 b0))), (zm, .inl (t 1, 4, .inl (upd (fun _ => 0) 3 (nI nn)))), (zc, .inl (t 2, 240, .inr (.inl (fun _ => 0))))] H → va_D A [(z, .inr (12, [.int 0, .ref zw, .ref zm, .ref zc, .ref zv, .ref zt, .int 0, .int 0, .int 0, .int 0, .int 0, .long 0, .int 0, .int 0, .int 0, .int (-1), .ref zn, .ref zh, .ref zp, .ref ze, .ref zs, .ref zg, .ref zk, .ref za, .ref zd, .ref zf, .ref zo, .ref zE, .ref zq, .int 0, .int 0, .int 0, .int 0, .int 0, .int 0, .ref zC])), (zw, .inl (t 1, 4, .inl (upd (upd (upd (upd (upd (fun _ => 0) 0 (-1)) 1 (-1)) 2 (-1)) 3 (-1)) 3 b0))), (zm, .inl (t 1, 4, .inl (upd (fun _ => 0) 3 (nI nn)))), (zc, .inl (t 2, 240, .inr (.inl (fun _ => 0))))] → va_S A s.heap H locs → W p l e ({ frames := 2, cells := 0, slots := 0, locals := 45 }) s m args below meth c H locs 0 0 (MQ below ((QI G (fun r (u : Unit) => (r = (-2) ∧ (¬ (0 ≤ (3 : Int32).toInt ∧ (3 : Int32).toInt ≤ 3) ∨ ¬ (0 ≤ b0.toInt ∧ b0.toInt ≤ 3) ∨ 60 < (nI nn).toInt)) ∨ (r = (-3) ∧ ((0 ≤ (3 : Int32).toInt ∧ (3 : Int32).toInt ≤ 3) ∧ (0 ≤ b0.toInt ∧ b0.toInt ≤ 3) ∧ (nI nn).toInt < 0)) ∨ (r = 0 ∧ ((0 ≤ (3 : Int32).toInt ∧ (3 : Int32).toInt ≤ 3) ∧ (0 ≤ b0.toInt ∧ b0.toInt ≤ 3) ∧ 0 ≤ (nI nn).toInt ∧ (nI nn).toInt ≤ 60))) (fun (u : Unit) => [])) A) args s 0 0 A) (F0 m 57 ls []) := by
              intro n
              induction n with
              | zero =>
                intro k hk H locs ls hl hP hD hS
                have hk0 : nn = k := by omega
                subst hk0
                refine lv_iload hx hb dX12_row_57 (lv_at hl 0 rfl) ?_
                refine lv_iload_n hx hb dX12_row_59 rfl (lv_at hl 4 rfl) ?_
                refine lv_icmp_ge (tgt := 82) hx hb dX12_row_60 (by decide) (fun _ => ?_) (fun c_22 => absurd (Int32.le_refl _) c_22)
                refine lv_iconst (v := 0) hx hb dX12_row_82 (by decide) ?_
                refine W.widen (k := 0) (n := 0) (by decide) (by decide) ?_
                exact rtI hx hb hr hlocks hS () (by first | exact Or.inr (Or.inr (⟨rfl, by (try simp only [zlt, zle, zeq, zle64, z64, z0, z1, z2, z3, z4, z5, z6, z7, z8, z9, z60, zm1, y0, y2, y3, y4, ym1] at f_3); (try simp only [zlt, zle, zeq, zle64, z64, z0, z1, z2, z3, z4, z5, z6, z7, z8, z9, z60, zm1, y0, y2, y3, y4, ym1] at f_7); (try simp only [zlt, zle, zeq, zle64, z64, z0, z1, z2, z3, z4, z5, z6, z7, z8, z9, z60, zm1, y0, y2, y3, y4, ym1] at c_9); (try simp only [zlt, zle, zeq, zle64, z64, z0, z1, z2, z3, z4, z5, z6, z7, z8, z9, z60, zm1, y0, y2, y3, y4, ym1] at c_10); (try simp only [zlt, zle, zeq, zle64, z64, z0, z1, z2, z3, z4, z5, z6, z7, z8, z9, z60, zm1, y0, y2, y3, y4, ym1]) <;> omega⟩))) (hP.sub [] rfl) (hD.sub [] (by decide) rfl) dX12_row_83
              | succ n ih =>
                intro k hk H locs ls hl hP hD hS
                refine lv_iload hx hb dX12_row_57 (lv_at hl 0 rfl) ?_
                refine lv_iload_n hx hb dX12_row_59 rfl (lv_at hl 4 rfl) ?_
                refine lv_icmp_ge (tgt := 82) hx hb dX12_row_60 (by decide) (fun c_23 => absurd c_23 (nI_ge (by omega) (by omega))) (fun _ => ?_)
                refine lv_aload_n hx hb dX12_row_63 rfl (lv_at hl 1 rfl) ?_
                refine gf hx hb hts hown hK hP 0 inT12 rfl rfl 3 (by decide) tw5_228 rfl dX12_row_64 ?_
                refine lv_bipush (v := 60) hx hb dX12_row_67 (by decide) ?_
                refine lv_iload_n hx hb dX12_row_69 rfl (lv_at hl 2 rfl) ?_
                refine lv_imul hx hb dX12_row_70 (tpi (v := 180) (by decide) ?_)
                refine lv_iload hx hb dX12_row_71 (lv_at hl 0 rfl) ?_
                refine lv_iadd hx hb dX12_row_73 (tpi (v := (nI (180 + k))) (show nI 180 + nI k = nI (180 + k) from nI_add 180 k) ?_)
                refine lv_lconst (v := 0) hx hb dX12_row_74 (by decide) ?_
                refine stL hx hb hK hP hD hS 3 rfl (vp_in_nI (by omega) (by decide)) dX12_row_75 (f' := (fun _ => 0)) (upd_zL _) (ws' := [(z, .inr (12, [.int 0, .ref zw, .ref zm, .ref zc, .ref zv, .ref zt, .int 0, .int 0, .int 0, .int 0, .int 0, .long 0, .int 0, .int 0, .int 0, .int (-1), .ref zn, .ref zh, .ref zp, .ref ze, .ref zs, .ref zg, .ref zk, .ref za, .ref zd, .ref zf, .ref zo, .ref zE, .ref zq, .int 0, .int 0, .int 0, .int 0, .int 0, .int 0, .ref zC])), (zw, .inl (t 1, 4, .inl (upd (upd (upd (upd (upd (fun _ => 0) 0 (-1)) 1 (-1)) 2 (-1)) 3 (-1)) 3 b0))), (zm, .inl (t 1, 4, .inl (upd (fun _ => 0) 3 (nI nn)))), (zc, .inl (t 2, 240, .inr (.inl (fun _ => 0))))]) rfl (fun H locs hP hD hS => ?_)
                refine lv_iinc (v := (nI (k + 1))) (lv' := [(4, .int (nI (k + 1))), (0, .ref z), (1, .int 3), (2, .int b0), (3, .int (nI nn))]) hx hb dX12_row_76 hl (k := 0) rfl (nI_1 k) (by decide) rfl (fun ls hl => ?_)
                refine lv_goto (tgt := 57) hx hb dX12_row_79 (by decide) ?_
                exact ih (k + 1) (by omega) H locs ls (lv_sub hl [0, 1, 2, 3, 4] rfl) (hP.sub [0, 1, 2, 3] rfl) (hD.sub [0, 1, 2, 3] (by decide) rfl) hS
            exact LP_21 nn 0 (by omega) _ _ _ hl hP hD hS
        · refine lv_bipush (v := (-3)) hx hb dX12_row_37 (by decide) ?_
          refine W.widen (k := 0) (n := 0) (by decide) (by decide) ?_
          exact rtI hx hb hr hlocks hS () (by first | exact Or.inr (Or.inl ⟨rfl, by (try simp only [zlt, zle, zeq, zle64, z64, z0, z1, z2, z3, z4, z5, z6, z7, z8, z9, z60, zm1, y0, y2, y3, y4, ym1] at f_3); (try simp only [zlt, zle, zeq, zle64, z64, z0, z1, z2, z3, z4, z5, z6, z7, z8, z9, z60, zm1, y0, y2, y3, y4, ym1] at f_7); (try simp only [zlt, zle, zeq, zle64, z64, z0, z1, z2, z3, z4, z5, z6, z7, z8, z9, z60, zm1, y0, y2, y3, y4, ym1] at c_9); (try simp only [zlt, zle, zeq, zle64, z64, z0, z1, z2, z3, z4, z5, z6, z7, z8, z9, z60, zm1, y0, y2, y3, y4, ym1] at c_10); (try simp only [zlt, zle, zeq, zle64, z64, z0, z1, z2, z3, z4, z5, z6, z7, z8, z9, z60, zm1, y0, y2, y3, y4, ym1]) <;> omega⟩)) (hP.sub [] rfl) (hD.sub [] (by decide) rfl) dX12_row_39
      · refine lv_bipush (v := (-2)) hx hb dX12_row_30 (by decide) ?_
        refine W.widen (k := 0) (n := 0) (by decide) (by decide) ?_
        exact rtI hx hb hr hlocks hS () (by first | exact Or.inl ⟨rfl, by (try simp only [zlt, zle, zeq, zle64, z64, z0, z1, z2, z3, z4, z5, z6, z7, z8, z9, z60, zm1, y0, y2, y3, y4, ym1] at f_3); (try simp only [zlt, zle, zeq, zle64, z64, z0, z1, z2, z3, z4, z5, z6, z7, z8, z9, z60, zm1, y0, y2, y3, y4, ym1] at f_7); (try simp only [zlt, zle, zeq, zle64, z64, z0, z1, z2, z3, z4, z5, z6, z7, z8, z9, z60, zm1, y0, y2, y3, y4, ym1] at c_9); (try simp only [zlt, zle, zeq, zle64, z64, z0, z1, z2, z3, z4, z5, z6, z7, z8, z9, z60, zm1, y0, y2, y3, y4, ym1]) <;> omega⟩) (hP.sub [] rfl) (hD.sub [] (by decide) rfl) dX12_row_32
    · refine lv_if_eq (tgt := 30) hx hb dX12_row_21 (by decide) (fun _ => ?_) (fun c_24 => absurd (by decide) c_24)
      refine lv_bipush (v := (-2)) hx hb dX12_row_30 (by decide) ?_
      refine W.widen (k := 0) (n := 0) (by decide) (by decide) ?_
      exact rtI hx hb hr hlocks hS () (by first | exact Or.inl ⟨rfl, by (try simp only [zlt, zle, zeq, zle64, z64, z0, z1, z2, z3, z4, z5, z6, z7, z8, z9, z60, zm1, y0, y2, y3, y4, ym1] at f_3); (try simp only [zlt, zle, zeq, zle64, z64, z0, z1, z2, z3, z4, z5, z6, z7, z8, z9, z60, zm1, y0, y2, y3, y4, ym1] at f_7); (try simp only [zlt, zle, zeq, zle64, z64, z0, z1, z2, z3, z4, z5, z6, z7, z8, z9, z60, zm1, y0, y2, y3, y4, ym1]) <;> omega⟩) (hP.sub [] rfl) (hD.sub [] (by decide) rfl) dX12_row_32
  · refine lv_if_eq (tgt := 30) hx hb dX12_row_9 (by decide) (fun _ => ?_) (fun c_25 => absurd (by decide) c_25)
    refine lv_bipush (v := (-2)) hx hb dX12_row_30 (by decide) ?_
    refine W.widen (k := 0) (n := 0) (by decide) (by decide) ?_
    exact rtI hx hb hr hlocks hS () (by first | exact Or.inl ⟨rfl, by (try simp only [zlt, zle, zeq, zle64, z64, z0, z1, z2, z3, z4, z5, z6, z7, z8, z9, z60, zm1, y0, y2, y3, y4, ym1] at f_3); (try simp only [zlt, zle, zeq, zle64, z64, z0, z1, z2, z3, z4, z5, z6, z7, z8, z9, z60, zm1, y0, y2, y3, y4, ym1]) <;> omega⟩) (hP.sub [] rfl) (hD.sub [] (by decide) rfl) dX12_row_32

set_option maxHeartbeats 4000000 in
set_option maxRecDepth 100000 in
theorem m_write (l : Launch) (G : va_G) (t : Nat → ClassId) (z : Nat) (zw : Nat) (zm : Nat) (zc : Nat) (zv : Nat) (zt : Nat) (zn : Nat) (zh : Nat) (zp : Nat) (ze : Nat) (zs : Nat) (zg : Nat) (zk : Nat) (za : Nat) (zd : Nat) (zf : Nat) (zo : Nat) (zE : Nat) (zq : Nat) (zC : Nat) (a0 : Int32) (b0 : Int32) (v0 : Int64) : Ct l G t yX12_write cX12_write 5 (some .int) ({ frames := 2, cells := 0, slots := 0, locals := 45 }) [.ref z, .int a0, .int b0, .long v0] [(z, .inr (12, [.int 0, .ref zw, .ref zm, .ref zc, .ref zv, .ref zt, .int 0, .int 0, .int 0, .int 0, .int 0, .long 0, .int 0, .int 0, .int 0, .int (-1), .ref zn, .ref zh, .ref zp, .ref ze, .ref zs, .ref zg, .ref zk, .ref za, .ref zd, .ref zf, .ref zo, .ref zE, .ref zq, .int 0, .int 0, .int 0, .int 0, .int 0, .int 0, .ref zC])), (zw, .inl (t 1, 4, .inl (upd (upd (upd (upd (fun _ => 0) 0 (-1)) 1 (-1)) 2 (-1)) 3 (-1))))] (QI G (fun r (u : Unit) => (r = (-2) ∧ ¬ (0 ≤ a0.toInt ∧ a0.toInt ≤ 3)) ∨ (r = (-6) ∧ (0 ≤ a0.toInt ∧ a0.toInt ≤ 3))) (fun (u : Unit) => [])) := by
  refine ent (by decide) (Nat.le_of_ble_eq_true rfl) ?_
  intro p e s m args below meth c hx hb hr hml hts hown hlocks hin A hA hK hO hP hD hS ls hl
  have hown : s.vm.findClass RX12 = some m.cls := hown
  have hl : lv_has ls 5 [(0, .ref z), (1, .int a0), (2, .int b0), (3, .long v0)] := hl
  have C0 : Cx p s m args c cX12_write 5 RX12 G t := ⟨hx, hb, hml, hown, hts, hK, hO⟩
  refine lv_aload_n hx hb dX12_write_0 rfl (lv_at hl 0 rfl) ?_
  refine lv_iconst (v := 0) hx hb dX12_write_1 (by decide) ?_
  refine pf hx hb hts hown hK hP hD hS 0 inT12 tyX12_ok nmX12 rfl rfl 0 (by decide) tw5_225 rfl rfl rfl (Nat.le_of_ble_eq_true rfl) dX12_write_2 (ws' := [(z, .inr (12, [.int 0, .ref zw, .ref zm, .ref zc, .ref zv, .ref zt, .int 0, .int 0, .int 0, .int 0, .int 0, .long 0, .int 0, .int 0, .int 0, .int (-1), .ref zn, .ref zh, .ref zp, .ref ze, .ref zs, .ref zg, .ref zk, .ref za, .ref zd, .ref zf, .ref zo, .ref zE, .ref zq, .int 0, .int 0, .int 0, .int 0, .int 0, .int 0, .ref zC])), (zw, .inl (t 1, 4, .inl (upd (upd (upd (upd (fun _ => 0) 0 (-1)) 1 (-1)) 2 (-1)) 3 (-1))))]) rfl (fun H locs hP hD hS => ?_)
  refine lv_iload_n hx hb dX12_write_5 rfl (lv_at hl 1 rfl) ?_
  refine goI (rnS C0 (c_misSlot l G t a0) lkX12_83 ⟨by decide, by decide⟩ (hP.sub (ws' := []) [] rfl) (hD.sub (ws' := []) [] (by decide) rfl) rfl hl.1 (rest := []) rfl (Nat.le_of_ble_eq_true rfl) dX12_write_6 ⟨by decide, by decide⟩) hP hD hS hA [] [0, 1] (wr := [(z, .inr (12, [.int 0, .ref zw, .ref zm, .ref zc, .ref zv, .ref zt, .int 0, .int 0, .int 0, .int 0, .int 0, .long 0, .int 0, .int 0, .int 0, .int (-1), .ref zn, .ref zh, .ref zp, .ref ze, .ref zs, .ref zg, .ref zk, .ref za, .ref zd, .ref zf, .ref zo, .ref zE, .ref zq, .int 0, .int 0, .int 0, .int 0, .int 0, .int 0, .ref zC])), (zw, .inl (t 1, 4, .inl (upd (upd (upd (upd (fun _ => 0) 0 (-1)) 1 (-1)) 2 (-1)) 3 (-1))))]) rfl rfl (by decide) (by decide) (fun r_1 u H locs h_2 hP hD hS => ?_)
  have hP : va_P G vwCl [(z, .inr (12, [.int 0, .ref zw, .ref zm, .ref zc, .ref zv, .ref zt, .int 0, .int 0, .int 0, .int 0, .int 0, .long 0, .int 0, .int 0, .int 0, .int (-1), .ref zn, .ref zh, .ref zp, .ref ze, .ref zs, .ref zg, .ref zk, .ref za, .ref zd, .ref zf, .ref zo, .ref zE, .ref zq, .int 0, .int 0, .int 0, .int 0, .int 0, .int 0, .ref zC])), (zw, .inl (t 1, 4, .inl (upd (upd (upd (upd (fun _ => 0) 0 (-1)) 1 (-1)) 2 (-1)) 3 (-1))))] H := hP
  have hD : va_D A [(z, .inr (12, [.int 0, .ref zw, .ref zm, .ref zc, .ref zv, .ref zt, .int 0, .int 0, .int 0, .int 0, .int 0, .long 0, .int 0, .int 0, .int 0, .int (-1), .ref zn, .ref zh, .ref zp, .ref ze, .ref zs, .ref zg, .ref zk, .ref za, .ref zd, .ref zf, .ref zo, .ref zE, .ref zq, .int 0, .int 0, .int 0, .int 0, .int 0, .int 0, .ref zC])), (zw, .inl (t 1, 4, .inl (upd (upd (upd (upd (fun _ => 0) 0 (-1)) 1 (-1)) 2 (-1)) 3 (-1))))] := hD
  refine W.widen (k := 0) (n := 0) (Nat.le_of_ble_eq_true rfl) (Nat.le_of_ble_eq_true rfl) ?_
  have h_2 : (r_1 = 1 ∧ 0 ≤ a0.toInt ∧ a0.toInt ≤ 3) ∨ (r_1 = 0 ∧ ¬ (0 ≤ a0.toInt ∧ a0.toInt ≤ 3)) := h_2
  rcases h_2 with ⟨rfl, f_3⟩ | ⟨rfl, f_3⟩
  · refine lv_if_ne (tgt := 15) hx hb dX12_write_9 (by decide) (fun _ => ?_) (fun c_4 => absurd c_4 (by decide))
    have g_5 : a0 = 0 ∨ a0 = 1 ∨ a0 = 2 ∨ a0 = 3 := i_in4 f_3
    rcases g_5 with rfl | rfl | rfl | rfl
    · refine lv_aload_n hx hb dX12_write_15 rfl (lv_at hl 0 rfl) ?_
      refine gf hx hb hts hown hK hP 0 inT12 rfl rfl 1 (by decide) tw5_226 rfl dX12_write_16 ?_
      refine lv_iload_n hx hb dX12_write_19 rfl (lv_at hl 1 rfl) ?_
      refine ldI hx hb hK hP 1 rfl (by unfold vp_in; decide) dX12_write_20 (v := (-1)) (rfl) ?_
      refine lv_iconst (v := (-1)) hx hb dX12_write_21 (by decide) ?_
      refine lv_icmp_ne (tgt := 28) hx hb dX12_write_22 (by decide) (fun c_6 => absurd (by decide) c_6) (fun _ => ?_)
      refine lv_bipush (v := (-6)) hx hb dX12_write_25 (by decide) ?_
      refine W.widen (k := 0) (n := 0) (by decide) (by decide) ?_
      exact rtI hx hb hr hlocks hS () (by first | exact Or.inr (⟨rfl, by (try simp only [zlt, zle, zeq, zle64, z64, z0, z1, z2, z3, z4, z5, z6, z7, z8, z9, z60, zm1, y0, y2, y3, y4, ym1] at f_3); (try simp only [zlt, zle, zeq, zle64, z64, z0, z1, z2, z3, z4, z5, z6, z7, z8, z9, z60, zm1, y0, y2, y3, y4, ym1]) <;> omega⟩)) (hP.sub [] rfl) (hD.sub [] (by decide) rfl) dX12_write_27
    · refine lv_aload_n hx hb dX12_write_15 rfl (lv_at hl 0 rfl) ?_
      refine gf hx hb hts hown hK hP 0 inT12 rfl rfl 1 (by decide) tw5_226 rfl dX12_write_16 ?_
      refine lv_iload_n hx hb dX12_write_19 rfl (lv_at hl 1 rfl) ?_
      refine ldI hx hb hK hP 1 rfl (by unfold vp_in; decide) dX12_write_20 (v := (-1)) (rfl) ?_
      refine lv_iconst (v := (-1)) hx hb dX12_write_21 (by decide) ?_
      refine lv_icmp_ne (tgt := 28) hx hb dX12_write_22 (by decide) (fun c_7 => absurd (by decide) c_7) (fun _ => ?_)
      refine lv_bipush (v := (-6)) hx hb dX12_write_25 (by decide) ?_
      refine W.widen (k := 0) (n := 0) (by decide) (by decide) ?_
      exact rtI hx hb hr hlocks hS () (by first | exact Or.inr (⟨rfl, by (try simp only [zlt, zle, zeq, zle64, z64, z0, z1, z2, z3, z4, z5, z6, z7, z8, z9, z60, zm1, y0, y2, y3, y4, ym1] at f_3); (try simp only [zlt, zle, zeq, zle64, z64, z0, z1, z2, z3, z4, z5, z6, z7, z8, z9, z60, zm1, y0, y2, y3, y4, ym1]) <;> omega⟩)) (hP.sub [] rfl) (hD.sub [] (by decide) rfl) dX12_write_27
    · refine lv_aload_n hx hb dX12_write_15 rfl (lv_at hl 0 rfl) ?_
      refine gf hx hb hts hown hK hP 0 inT12 rfl rfl 1 (by decide) tw5_226 rfl dX12_write_16 ?_
      refine lv_iload_n hx hb dX12_write_19 rfl (lv_at hl 1 rfl) ?_
      refine ldI hx hb hK hP 1 rfl (by unfold vp_in; decide) dX12_write_20 (v := (-1)) (rfl) ?_
      refine lv_iconst (v := (-1)) hx hb dX12_write_21 (by decide) ?_
      refine lv_icmp_ne (tgt := 28) hx hb dX12_write_22 (by decide) (fun c_8 => absurd (by decide) c_8) (fun _ => ?_)
      refine lv_bipush (v := (-6)) hx hb dX12_write_25 (by decide) ?_
      refine W.widen (k := 0) (n := 0) (by decide) (by decide) ?_
      exact rtI hx hb hr hlocks hS () (by first | exact Or.inr (⟨rfl, by (try simp only [zlt, zle, zeq, zle64, z64, z0, z1, z2, z3, z4, z5, z6, z7, z8, z9, z60, zm1, y0, y2, y3, y4, ym1] at f_3); (try simp only [zlt, zle, zeq, zle64, z64, z0, z1, z2, z3, z4, z5, z6, z7, z8, z9, z60, zm1, y0, y2, y3, y4, ym1]) <;> omega⟩)) (hP.sub [] rfl) (hD.sub [] (by decide) rfl) dX12_write_27
    · refine lv_aload_n hx hb dX12_write_15 rfl (lv_at hl 0 rfl) ?_
      refine gf hx hb hts hown hK hP 0 inT12 rfl rfl 1 (by decide) tw5_226 rfl dX12_write_16 ?_
      refine lv_iload_n hx hb dX12_write_19 rfl (lv_at hl 1 rfl) ?_
      refine ldI hx hb hK hP 1 rfl (by unfold vp_in; decide) dX12_write_20 (v := (-1)) (rfl) ?_
      refine lv_iconst (v := (-1)) hx hb dX12_write_21 (by decide) ?_
      refine lv_icmp_ne (tgt := 28) hx hb dX12_write_22 (by decide) (fun c_9 => absurd (by decide) c_9) (fun _ => ?_)
      refine lv_bipush (v := (-6)) hx hb dX12_write_25 (by decide) ?_
      refine W.widen (k := 0) (n := 0) (by decide) (by decide) ?_
      exact rtI hx hb hr hlocks hS () (by first | exact Or.inr (⟨rfl, by (try simp only [zlt, zle, zeq, zle64, z64, z0, z1, z2, z3, z4, z5, z6, z7, z8, z9, z60, zm1, y0, y2, y3, y4, ym1] at f_3); (try simp only [zlt, zle, zeq, zle64, z64, z0, z1, z2, z3, z4, z5, z6, z7, z8, z9, z60, zm1, y0, y2, y3, y4, ym1]) <;> omega⟩)) (hP.sub [] rfl) (hD.sub [] (by decide) rfl) dX12_write_27
  · refine lv_if_ne (tgt := 15) hx hb dX12_write_9 (by decide) (fun c_10 => absurd (by decide) c_10) (fun _ => ?_)
    refine lv_bipush (v := (-2)) hx hb dX12_write_12 (by decide) ?_
    refine W.widen (k := 0) (n := 0) (by decide) (by decide) ?_
    exact rtI hx hb hr hlocks hS () (by first | exact Or.inl ⟨rfl, by (try simp only [zlt, zle, zeq, zle64, z64, z0, z1, z2, z3, z4, z5, z6, z7, z8, z9, z60, zm1, y0, y2, y3, y4, ym1] at f_3); (try simp only [zlt, zle, zeq, zle64, z64, z0, z1, z2, z3, z4, z5, z6, z7, z8, z9, z60, zm1, y0, y2, y3, y4, ym1]) <;> omega⟩) (hP.sub [] rfl) (hD.sub [] (by decide) rfl) dX12_write_14

set_option maxHeartbeats 4000000 in
set_option maxRecDepth 100000 in
theorem m_paste (l : Launch) (G : va_G) (t : Nat → ClassId) (z : Nat) (zw : Nat) (zm : Nat) (zc : Nat) (zv : Nat) (zt : Nat) (zn : Nat) (zh : Nat) (zp : Nat) (ze : Nat) (zs : Nat) (zg : Nat) (zk : Nat) (za : Nat) (zd : Nat) (zf : Nat) (zo : Nat) (zE : Nat) (zq : Nat) (zC : Nat) (a0 : Int32) (b0 : Int32) (c0 : Int32) (d0 : Int32) (e0 : Int32) : Ct l G t yX12_paste cX12_paste 7 (some .int) ({ frames := 2, cells := 0, slots := 0, locals := 45 }) [.ref z, .int a0, .int b0, .int c0, .int d0, .int e0] [(z, .inr (12, [.int 0, .ref zw, .ref zm, .ref zc, .ref zv, .ref zt, .int 0, .int 0, .int 0, .int 0, .int 0, .long 0, .int 0, .int 0, .int 0, .int (-1), .ref zn, .ref zh, .ref zp, .ref ze, .ref zs, .ref zg, .ref zk, .ref za, .ref zd, .ref zf, .ref zo, .ref zE, .ref zq, .int 0, .int 0, .int 0, .int 0, .int 0, .int 0, .ref zC])), (zw, .inl (t 1, 4, .inl (upd (upd (upd (upd (fun _ => 0) 0 (-1)) 1 (-1)) 2 (-1)) 3 (-1))))] (QI G (fun r (u : Unit) => (r = (-2) ∧ (¬ (0 ≤ a0.toInt ∧ a0.toInt ≤ 3) ∨ ¬ (0 ≤ c0.toInt ∧ c0.toInt ≤ 3))) ∨ (r = (-6) ∧ ((0 ≤ a0.toInt ∧ a0.toInt ≤ 3) ∧ (0 ≤ c0.toInt ∧ c0.toInt ≤ 3)))) (fun (u : Unit) => [])) := by
  refine ent (by decide) (Nat.le_of_ble_eq_true rfl) ?_
  intro p e s m args below meth c hx hb hr hml hts hown hlocks hin A hA hK hO hP hD hS ls hl
  have hown : s.vm.findClass RX12 = some m.cls := hown
  have hl : lv_has ls 7 [(0, .ref z), (1, .int a0), (2, .int b0), (3, .int c0), (4, .int d0), (5, .int e0)] := hl
  have C0 : Cx p s m args c cX12_paste 7 RX12 G t := ⟨hx, hb, hml, hown, hts, hK, hO⟩
  refine lv_aload_n hx hb dX12_paste_0 rfl (lv_at hl 0 rfl) ?_
  refine lv_iconst (v := 0) hx hb dX12_paste_1 (by decide) ?_
  refine pf hx hb hts hown hK hP hD hS 0 inT12 tyX12_ok nmX12 rfl rfl 0 (by decide) tw5_225 rfl rfl rfl (Nat.le_of_ble_eq_true rfl) dX12_paste_2 (ws' := [(z, .inr (12, [.int 0, .ref zw, .ref zm, .ref zc, .ref zv, .ref zt, .int 0, .int 0, .int 0, .int 0, .int 0, .long 0, .int 0, .int 0, .int 0, .int (-1), .ref zn, .ref zh, .ref zp, .ref ze, .ref zs, .ref zg, .ref zk, .ref za, .ref zd, .ref zf, .ref zo, .ref zE, .ref zq, .int 0, .int 0, .int 0, .int 0, .int 0, .int 0, .ref zC])), (zw, .inl (t 1, 4, .inl (upd (upd (upd (upd (fun _ => 0) 0 (-1)) 1 (-1)) 2 (-1)) 3 (-1))))]) rfl (fun H locs hP hD hS => ?_)
  refine lv_iload_n hx hb dX12_paste_5 rfl (lv_at hl 1 rfl) ?_
  refine goI (rnS C0 (c_misSlot l G t a0) lkX12_83 ⟨by decide, by decide⟩ (hP.sub (ws' := []) [] rfl) (hD.sub (ws' := []) [] (by decide) rfl) rfl hl.1 (rest := []) rfl (Nat.le_of_ble_eq_true rfl) dX12_paste_6 ⟨by decide, by decide⟩) hP hD hS hA [] [0, 1] (wr := [(z, .inr (12, [.int 0, .ref zw, .ref zm, .ref zc, .ref zv, .ref zt, .int 0, .int 0, .int 0, .int 0, .int 0, .long 0, .int 0, .int 0, .int 0, .int (-1), .ref zn, .ref zh, .ref zp, .ref ze, .ref zs, .ref zg, .ref zk, .ref za, .ref zd, .ref zf, .ref zo, .ref zE, .ref zq, .int 0, .int 0, .int 0, .int 0, .int 0, .int 0, .ref zC])), (zw, .inl (t 1, 4, .inl (upd (upd (upd (upd (fun _ => 0) 0 (-1)) 1 (-1)) 2 (-1)) 3 (-1))))]) rfl rfl (by decide) (by decide) (fun r_1 u H locs h_2 hP hD hS => ?_)
  have hP : va_P G vwCl [(z, .inr (12, [.int 0, .ref zw, .ref zm, .ref zc, .ref zv, .ref zt, .int 0, .int 0, .int 0, .int 0, .int 0, .long 0, .int 0, .int 0, .int 0, .int (-1), .ref zn, .ref zh, .ref zp, .ref ze, .ref zs, .ref zg, .ref zk, .ref za, .ref zd, .ref zf, .ref zo, .ref zE, .ref zq, .int 0, .int 0, .int 0, .int 0, .int 0, .int 0, .ref zC])), (zw, .inl (t 1, 4, .inl (upd (upd (upd (upd (fun _ => 0) 0 (-1)) 1 (-1)) 2 (-1)) 3 (-1))))] H := hP
  have hD : va_D A [(z, .inr (12, [.int 0, .ref zw, .ref zm, .ref zc, .ref zv, .ref zt, .int 0, .int 0, .int 0, .int 0, .int 0, .long 0, .int 0, .int 0, .int 0, .int (-1), .ref zn, .ref zh, .ref zp, .ref ze, .ref zs, .ref zg, .ref zk, .ref za, .ref zd, .ref zf, .ref zo, .ref zE, .ref zq, .int 0, .int 0, .int 0, .int 0, .int 0, .int 0, .ref zC])), (zw, .inl (t 1, 4, .inl (upd (upd (upd (upd (fun _ => 0) 0 (-1)) 1 (-1)) 2 (-1)) 3 (-1))))] := hD
  refine W.widen (k := 0) (n := 0) (Nat.le_of_ble_eq_true rfl) (Nat.le_of_ble_eq_true rfl) ?_
  have h_2 : (r_1 = 1 ∧ 0 ≤ a0.toInt ∧ a0.toInt ≤ 3) ∨ (r_1 = 0 ∧ ¬ (0 ≤ a0.toInt ∧ a0.toInt ≤ 3)) := h_2
  rcases h_2 with ⟨rfl, f_3⟩ | ⟨rfl, f_3⟩
  · refine lv_if_eq (tgt := 19) hx hb dX12_paste_9 (by decide) (fun c_4 => absurd c_4 (by decide)) (fun _ => ?_)
    refine lv_iload_n hx hb dX12_paste_12 rfl (lv_at hl 3 rfl) ?_
    refine goI (rnS C0 (c_misSlot l G t c0) lkX12_83 ⟨by decide, by decide⟩ (hP.sub (ws' := []) [] rfl) (hD.sub (ws' := []) [] (by decide) rfl) rfl hl.1 (rest := []) rfl (Nat.le_of_ble_eq_true rfl) dX12_paste_13 ⟨by decide, by decide⟩) hP hD hS hA [] [0, 1] (wr := [(z, .inr (12, [.int 0, .ref zw, .ref zm, .ref zc, .ref zv, .ref zt, .int 0, .int 0, .int 0, .int 0, .int 0, .long 0, .int 0, .int 0, .int 0, .int (-1), .ref zn, .ref zh, .ref zp, .ref ze, .ref zs, .ref zg, .ref zk, .ref za, .ref zd, .ref zf, .ref zo, .ref zE, .ref zq, .int 0, .int 0, .int 0, .int 0, .int 0, .int 0, .ref zC])), (zw, .inl (t 1, 4, .inl (upd (upd (upd (upd (fun _ => 0) 0 (-1)) 1 (-1)) 2 (-1)) 3 (-1))))]) rfl rfl (by decide) (by decide) (fun r_5 u H locs h_6 hP hD hS => ?_)
    have hP : va_P G vwCl [(z, .inr (12, [.int 0, .ref zw, .ref zm, .ref zc, .ref zv, .ref zt, .int 0, .int 0, .int 0, .int 0, .int 0, .long 0, .int 0, .int 0, .int 0, .int (-1), .ref zn, .ref zh, .ref zp, .ref ze, .ref zs, .ref zg, .ref zk, .ref za, .ref zd, .ref zf, .ref zo, .ref zE, .ref zq, .int 0, .int 0, .int 0, .int 0, .int 0, .int 0, .ref zC])), (zw, .inl (t 1, 4, .inl (upd (upd (upd (upd (fun _ => 0) 0 (-1)) 1 (-1)) 2 (-1)) 3 (-1))))] H := hP
    have hD : va_D A [(z, .inr (12, [.int 0, .ref zw, .ref zm, .ref zc, .ref zv, .ref zt, .int 0, .int 0, .int 0, .int 0, .int 0, .long 0, .int 0, .int 0, .int 0, .int (-1), .ref zn, .ref zh, .ref zp, .ref ze, .ref zs, .ref zg, .ref zk, .ref za, .ref zd, .ref zf, .ref zo, .ref zE, .ref zq, .int 0, .int 0, .int 0, .int 0, .int 0, .int 0, .ref zC])), (zw, .inl (t 1, 4, .inl (upd (upd (upd (upd (fun _ => 0) 0 (-1)) 1 (-1)) 2 (-1)) 3 (-1))))] := hD
    refine W.widen (k := 0) (n := 0) (Nat.le_of_ble_eq_true rfl) (Nat.le_of_ble_eq_true rfl) ?_
    have h_6 : (r_5 = 1 ∧ 0 ≤ c0.toInt ∧ c0.toInt ≤ 3) ∨ (r_5 = 0 ∧ ¬ (0 ≤ c0.toInt ∧ c0.toInt ≤ 3)) := h_6
    rcases h_6 with ⟨rfl, f_7⟩ | ⟨rfl, f_7⟩
    · refine lv_if_ne (tgt := 22) hx hb dX12_paste_16 (by decide) (fun _ => ?_) (fun c_8 => absurd c_8 (by decide))
      have g_9 : a0 = 0 ∨ a0 = 1 ∨ a0 = 2 ∨ a0 = 3 := i_in4 f_3
      rcases g_9 with rfl | rfl | rfl | rfl
      · refine lv_aload_n hx hb dX12_paste_22 rfl (lv_at hl 0 rfl) ?_
        refine gf hx hb hts hown hK hP 0 inT12 rfl rfl 1 (by decide) tw5_226 rfl dX12_paste_23 ?_
        refine lv_iload_n hx hb dX12_paste_26 rfl (lv_at hl 1 rfl) ?_
        refine ldI hx hb hK hP 1 rfl (by unfold vp_in; decide) dX12_paste_27 (v := (-1)) (rfl) ?_
        refine lv_iconst (v := (-1)) hx hb dX12_paste_28 (by decide) ?_
        refine lv_icmp_eq (tgt := 42) hx hb dX12_paste_29 (by decide) (fun _ => ?_) (fun c_10 => absurd (by decide) c_10)
        refine lv_bipush (v := (-6)) hx hb dX12_paste_42 (by decide) ?_
        refine W.widen (k := 0) (n := 0) (by decide) (by decide) ?_
        exact rtI hx hb hr hlocks hS () (by first | exact Or.inr (⟨rfl, by (try simp only [zlt, zle, zeq, zle64, z64, z0, z1, z2, z3, z4, z5, z6, z7, z8, z9, z60, zm1, y0, y2, y3, y4, ym1] at f_3); (try simp only [zlt, zle, zeq, zle64, z64, z0, z1, z2, z3, z4, z5, z6, z7, z8, z9, z60, zm1, y0, y2, y3, y4, ym1] at f_7); (try simp only [zlt, zle, zeq, zle64, z64, z0, z1, z2, z3, z4, z5, z6, z7, z8, z9, z60, zm1, y0, y2, y3, y4, ym1]) <;> omega⟩)) (hP.sub [] rfl) (hD.sub [] (by decide) rfl) dX12_paste_44
      · refine lv_aload_n hx hb dX12_paste_22 rfl (lv_at hl 0 rfl) ?_
        refine gf hx hb hts hown hK hP 0 inT12 rfl rfl 1 (by decide) tw5_226 rfl dX12_paste_23 ?_
        refine lv_iload_n hx hb dX12_paste_26 rfl (lv_at hl 1 rfl) ?_
        refine ldI hx hb hK hP 1 rfl (by unfold vp_in; decide) dX12_paste_27 (v := (-1)) (rfl) ?_
        refine lv_iconst (v := (-1)) hx hb dX12_paste_28 (by decide) ?_
        refine lv_icmp_eq (tgt := 42) hx hb dX12_paste_29 (by decide) (fun _ => ?_) (fun c_11 => absurd (by decide) c_11)
        refine lv_bipush (v := (-6)) hx hb dX12_paste_42 (by decide) ?_
        refine W.widen (k := 0) (n := 0) (by decide) (by decide) ?_
        exact rtI hx hb hr hlocks hS () (by first | exact Or.inr (⟨rfl, by (try simp only [zlt, zle, zeq, zle64, z64, z0, z1, z2, z3, z4, z5, z6, z7, z8, z9, z60, zm1, y0, y2, y3, y4, ym1] at f_3); (try simp only [zlt, zle, zeq, zle64, z64, z0, z1, z2, z3, z4, z5, z6, z7, z8, z9, z60, zm1, y0, y2, y3, y4, ym1] at f_7); (try simp only [zlt, zle, zeq, zle64, z64, z0, z1, z2, z3, z4, z5, z6, z7, z8, z9, z60, zm1, y0, y2, y3, y4, ym1]) <;> omega⟩)) (hP.sub [] rfl) (hD.sub [] (by decide) rfl) dX12_paste_44
      · refine lv_aload_n hx hb dX12_paste_22 rfl (lv_at hl 0 rfl) ?_
        refine gf hx hb hts hown hK hP 0 inT12 rfl rfl 1 (by decide) tw5_226 rfl dX12_paste_23 ?_
        refine lv_iload_n hx hb dX12_paste_26 rfl (lv_at hl 1 rfl) ?_
        refine ldI hx hb hK hP 1 rfl (by unfold vp_in; decide) dX12_paste_27 (v := (-1)) (rfl) ?_
        refine lv_iconst (v := (-1)) hx hb dX12_paste_28 (by decide) ?_
        refine lv_icmp_eq (tgt := 42) hx hb dX12_paste_29 (by decide) (fun _ => ?_) (fun c_12 => absurd (by decide) c_12)
        refine lv_bipush (v := (-6)) hx hb dX12_paste_42 (by decide) ?_
        refine W.widen (k := 0) (n := 0) (by decide) (by decide) ?_
        exact rtI hx hb hr hlocks hS () (by first | exact Or.inr (⟨rfl, by (try simp only [zlt, zle, zeq, zle64, z64, z0, z1, z2, z3, z4, z5, z6, z7, z8, z9, z60, zm1, y0, y2, y3, y4, ym1] at f_3); (try simp only [zlt, zle, zeq, zle64, z64, z0, z1, z2, z3, z4, z5, z6, z7, z8, z9, z60, zm1, y0, y2, y3, y4, ym1] at f_7); (try simp only [zlt, zle, zeq, zle64, z64, z0, z1, z2, z3, z4, z5, z6, z7, z8, z9, z60, zm1, y0, y2, y3, y4, ym1]) <;> omega⟩)) (hP.sub [] rfl) (hD.sub [] (by decide) rfl) dX12_paste_44
      · refine lv_aload_n hx hb dX12_paste_22 rfl (lv_at hl 0 rfl) ?_
        refine gf hx hb hts hown hK hP 0 inT12 rfl rfl 1 (by decide) tw5_226 rfl dX12_paste_23 ?_
        refine lv_iload_n hx hb dX12_paste_26 rfl (lv_at hl 1 rfl) ?_
        refine ldI hx hb hK hP 1 rfl (by unfold vp_in; decide) dX12_paste_27 (v := (-1)) (rfl) ?_
        refine lv_iconst (v := (-1)) hx hb dX12_paste_28 (by decide) ?_
        refine lv_icmp_eq (tgt := 42) hx hb dX12_paste_29 (by decide) (fun _ => ?_) (fun c_13 => absurd (by decide) c_13)
        refine lv_bipush (v := (-6)) hx hb dX12_paste_42 (by decide) ?_
        refine W.widen (k := 0) (n := 0) (by decide) (by decide) ?_
        exact rtI hx hb hr hlocks hS () (by first | exact Or.inr (⟨rfl, by (try simp only [zlt, zle, zeq, zle64, z64, z0, z1, z2, z3, z4, z5, z6, z7, z8, z9, z60, zm1, y0, y2, y3, y4, ym1] at f_3); (try simp only [zlt, zle, zeq, zle64, z64, z0, z1, z2, z3, z4, z5, z6, z7, z8, z9, z60, zm1, y0, y2, y3, y4, ym1] at f_7); (try simp only [zlt, zle, zeq, zle64, z64, z0, z1, z2, z3, z4, z5, z6, z7, z8, z9, z60, zm1, y0, y2, y3, y4, ym1]) <;> omega⟩)) (hP.sub [] rfl) (hD.sub [] (by decide) rfl) dX12_paste_44
    · refine lv_if_ne (tgt := 22) hx hb dX12_paste_16 (by decide) (fun c_14 => absurd (by decide) c_14) (fun _ => ?_)
      refine lv_bipush (v := (-2)) hx hb dX12_paste_19 (by decide) ?_
      refine W.widen (k := 0) (n := 0) (by decide) (by decide) ?_
      exact rtI hx hb hr hlocks hS () (by first | exact Or.inl ⟨rfl, by (try simp only [zlt, zle, zeq, zle64, z64, z0, z1, z2, z3, z4, z5, z6, z7, z8, z9, z60, zm1, y0, y2, y3, y4, ym1] at f_3); (try simp only [zlt, zle, zeq, zle64, z64, z0, z1, z2, z3, z4, z5, z6, z7, z8, z9, z60, zm1, y0, y2, y3, y4, ym1] at f_7); (try simp only [zlt, zle, zeq, zle64, z64, z0, z1, z2, z3, z4, z5, z6, z7, z8, z9, z60, zm1, y0, y2, y3, y4, ym1]) <;> omega⟩) (hP.sub [] rfl) (hD.sub [] (by decide) rfl) dX12_paste_21
  · refine lv_if_eq (tgt := 19) hx hb dX12_paste_9 (by decide) (fun _ => ?_) (fun c_15 => absurd (by decide) c_15)
    refine lv_bipush (v := (-2)) hx hb dX12_paste_19 (by decide) ?_
    refine W.widen (k := 0) (n := 0) (by decide) (by decide) ?_
    exact rtI hx hb hr hlocks hS () (by first | exact Or.inl ⟨rfl, by (try simp only [zlt, zle, zeq, zle64, z64, z0, z1, z2, z3, z4, z5, z6, z7, z8, z9, z60, zm1, y0, y2, y3, y4, ym1] at f_3); (try simp only [zlt, zle, zeq, zle64, z64, z0, z1, z2, z3, z4, z5, z6, z7, z8, z9, z60, zm1, y0, y2, y3, y4, ym1]) <;> omega⟩) (hP.sub [] rfl) (hD.sub [] (by decide) rfl) dX12_paste_21

set_option maxHeartbeats 8000000 in
set_option maxRecDepth 100000 in
theorem law_loop {p : Program} {l : Launch} {e : Env} {s : State} {m : MethodId} {below : List Frame} {meth : Method} {c : Code} {b L : Nat} {xs : Nat → Int32} (hL : L ≤ 3072) (CL : lw_At p s m meth c b L xs) {A : Nat → Prop} (hA : ∀ q : Nat, s.heap.size ≤ q → A q) (hbA : ¬ A b) (hAs : ∀ q : Nat, A q → s.heap.size ≤ q) {G : va_G} {t : Nat → ClassId} (hK : tyK G t s) (hO : nestOK s) : ∀ (n : Nat) (x z : Nat) (aX : Nat → Nat) (iX : Nat → Int32) (lX : Nat → Int64) (fX : Nat → Nat → Int32) (gX : Nat → Nat → Int64) (aM : Nat → Nat) (iM : Nat → Int32) (lM : Nat → Int64) (fM : Nat → Nat → Int32) (gM : Nat → Nat → Int64) (H : Heap) (locs : List Loc) (ls : Array Slot) (i : Int32), InvX iX fX → InvM iM fM → RelS iX fX fM → lv_has ls 4 [(3, .int i), (2, .ref z), (1, .ref x), (0, .ref b)] → va_P G vwCl (wX t x aX iX lX fX gX ++ wM t z aM iM lM fM gM) H → va_D A (wX t x aX iX lX fX gX ++ wM t z aM iM lM fM gM) → va_S A s.heap H locs → 0 ≤ i.toInt → Int.toNat ((L : Int) - i.toInt) = n → W p l e room_1 s m #[Value.ref b] below meth c H locs 600000 7302250 (lw_Z below #[Value.ref b] s) (F0 m 18 ls []) := by
  obtain ⟨hx, hb, hr, hml, hown, hts0, hX, hbl, hlocks, hgv⟩ := id CL
  have hown : s.vm.findClass RL = some m.cls := hown
  have hts : ∀ w ∈ TB, w.before #[Value.ref b] s = true := fun w h => hts0 w (tb_lw h)
  intro n
  induction n using Nat.strongRecOn with
  | ind n ih =>
  intro x z aX iX lX fX gX aM iM lM fM gM H locs ls i hI hJ hR hl hP hD hS hi hn
  have := zrng i
  refine lv_iload_n hx hb dL_law_18 rfl (lv_at hl 0 rfl) ?_
  refine lv_aload_n hx hb dL_law_19 rfl (lv_at hl 3 rfl) ?_
  refine slZ hx hb hX hbl hbA hS hL dL_law_20 (fun y ey => ?_)
  refine lv_bipush (v := 6) hx hb dL_law_21 (by decide) ?_
  refine sbZ hx hb dL_law_23 y.toInt 6 rfl rfl (by clear hI hJ hR; omega) (fun v zv => ?_)
  refine bI_gt (tgt := 2151) hx hb dL_law_24 (by decide) i.toInt v.toInt rfl rfl (fun c1 => ?_) (fun c1 => ?_)
  · refine lv_iconst (v := 1) hx hb dL_law_2151 (by decide) ?_
    refine va_forget (fun q hq => hAs _ (hS.2.2 q hq)) ?_
    exact lw_ret hx hb hr hlocks dL_law_2152
  · have hN : Nx p l e s m below meth c b A G t x z i := by
      clear hI hJ hR
      intro aX iX lX fX gX aM iM lM fM gM hI hJ hR H locs ls hl hP hD hS
      refine incZ hx hb dL_law_2145 hl (k := 0) rfl i.toInt rfl (by clear hI hJ hR; omega) (by decide) (fun v2 z2 ls hl => ?_)
      refine lv_goto (tgt := 18) hx hb dL_law_2148 (by decide) ?_
      exact ih (Int.toNat ((L : Int) - v2.toInt)) (by clear hI hJ hR; omega) x z aX iX lX fX gX aM iM lM fM gM H locs ls v2 hI hJ hR (lv_sub hl [0, 1, 2, 3] rfl) hP hD hS (by clear hI hJ hR; omega) rfl
    refine lv_aload_n hx hb dL_law_27 rfl (lv_at hl 3 rfl) ?_
    refine lv_iload_n hx hb dL_law_28 rfl (lv_at hl 0 rfl) ?_
    refine scr hx hb hX hbl hbA hS i.toInt rfl (by clear hI hJ hR; omega) dL_law_29 (fun y2 e2 => ?_)
    refine lv_bipush (v := 63) hx hb dL_law_30 (by decide) ?_
    refine lv_iand hx hb dL_law_32 ?_
    obtain ⟨j, hj, ej⟩ := pk_andE y2 (m := 63) 6 (by decide)
    rw [ej]
    exact law_pick hL CL hA hbA hAs hK hO hI hJ hR hP hD hS hl ⟨hi, by clear hI hJ hR; omega⟩ hN j hj

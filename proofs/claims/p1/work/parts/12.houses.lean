set_option maxHeartbeats 4000000 in
set_option maxRecDepth 100000 in
theorem c_X11_findHouses (l : Launch) (D : va_G) (cy : Nat → ClassId) (sz : Nat) (x : Nat) (b : Nat) (im : Nat) (la : Nat) (cu : Nat) (wa : Nat) (pa : Nat) (dr : Nat) (su : Nat) (mk : Nat) (vi : Nat) (re : Nat) (rd : Nat) (so : Nat) (fw : Nat) (wo : Nat) (gi : Nat) (to : Nat) (ro : Nat) (sl : Nat) (li : Nat) (ca : Nat) (ho : Nat) (ta : Nat) (hc : Nat)  : Met l yX11_findHouses (tl_w yX11_findHouses cX11_findHouses 2 none) ({ frames := 1, cells := 0, slots := 0, locals := 23 }) (va_Pc [.ref x] (tl_P D cy [(x, .inr (11, [.ref b, .ref im, .ref la, .ref cu, .ref wa, .ref pa, .ref dr, .ref su, .ref mk, .ref vi, .ref re, .ref rd, .ref so, .ref fw, .ref wo, .ref gi])), (b, .inr (0, [.int 0, .ref to, .ref ro, .ref sl, .ref li, .ref ca, .ref ho, .ref ta, .int 0])), (ho, .inr (6, [.int 8, .ref hc, .int 0])), (fw, .inl (cy 0, 8, .inl (fun _ => 0)))] sz)) (va_Qv (fun (u : Nat → Int32) => ∀ j : Nat, j < 8 → u j = 400) (tl_B D (va_A [(x, .inr (11, [.ref b, .ref im, .ref la, .ref cu, .ref wa, .ref pa, .ref dr, .ref su, .ref mk, .ref vi, .ref re, .ref rd, .ref so, .ref fw, .ref wo, .ref gi])), (b, .inr (0, [.int 0, .ref to, .ref ro, .ref sl, .ref li, .ref ca, .ref ho, .ref ta, .int 0])), (ho, .inr (6, [.int 8, .ref hc, .int 0])), (fw, .inl (cy 0, 8, .inl (fun _ => 0)))] sz) (fun u : Nat → Int32 => [(x, .inr (11, [.ref b, .ref im, .ref la, .ref cu, .ref wa, .ref pa, .ref dr, .ref su, .ref mk, .ref vi, .ref re, .ref rd, .ref so, .ref fw, .ref wo, .ref gi])), (b, .inr (0, [.int 0, .ref to, .ref ro, .ref sl, .ref li, .ref ca, .ref ho, .ref ta, .int 0])), (ho, .inr (6, [.int 8, .ref hc, .int 0])), (fw, .inl (cy 0, 8, .inl u))])) (va_A [(x, .inr (11, [.ref b, .ref im, .ref la, .ref cu, .ref wa, .ref pa, .ref dr, .ref su, .ref mk, .ref vi, .ref re, .ref rd, .ref so, .ref fw, .ref wo, .ref gi])), (b, .inr (0, [.int 0, .ref to, .ref ro, .ref sl, .ref li, .ref ca, .ref ho, .ref ta, .int 0])), (ho, .inr (6, [.int 8, .ref hc, .int 0])), (fw, .inl (cy 0, 8, .inl (fun _ => 0)))] sz)) 0 0 (va_A [(x, .inr (11, [.ref b, .ref im, .ref la, .ref cu, .ref wa, .ref pa, .ref dr, .ref su, .ref mk, .ref vi, .ref re, .ref rd, .ref so, .ref fw, .ref wo, .ref gi])), (b, .inr (0, [.int 0, .ref to, .ref ro, .ref sl, .ref li, .ref ca, .ref ho, .ref ta, .int 0])), (ho, .inr (6, [.int 8, .ref hc, .int 0])), (fw, .inl (cy 0, 8, .inl (fun _ => 0)))] sz) := by
  refine Met.ofW (cc := cX11_findHouses) (maxL := 2) (ret := none) (by decide) rfl ?_
  intro p e s m args below meth c s₁ B hml hv
  obtain ⟨rfl, hsz, hP, hK, hD0, hN⟩ := hv
  have hx := B.exec
  have hb := B.bytes
  have hr := B.returns
  have hta := tl_hta (atoms_spec (ws := tl_w yX11_findHouses cX11_findHouses 2 none) B.pre)
  have hown : s.vm.findClass RX11 = some m.cls := findClass_of_methodNamed B.named
  have hlocks := B.notSynchronized
  subst hsz
  have hD := hD0.self (sz := s.heap.size)
  generalize hAe : va_A [(x, .inr (11, [.ref b, .ref im, .ref la, .ref cu, .ref wa, .ref pa, .ref dr, .ref su, .ref mk, .ref vi, .ref re, .ref rd, .ref so, .ref fw, .ref wo, .ref gi])), (b, .inr (0, [.int 0, .ref to, .ref ro, .ref sl, .ref li, .ref ca, .ref ho, .ref ta, .int 0])), (ho, .inr (6, [.int 8, .ref hc, .int 0])), (fw, .inl (cy 0, 8, .inl (fun _ => 0)))] s.heap.size = A at hD ⊢
  have hA : ∀ q : Nat, s.heap.size ≤ q → A q := fun q h => by rw [← hAe]; exact Or.inr h
  have hS : va_S A s.heap s.heap [] := va_S.rf
  have hP : va_P D vwCl [(x, .inr (11, [.ref b, .ref im, .ref la, .ref cu, .ref wa, .ref pa, .ref dr, .ref su, .ref mk, .ref vi, .ref re, .ref rd, .ref so, .ref fw, .ref wo, .ref gi])), (b, .inr (0, [.int 0, .ref to, .ref ro, .ref sl, .ref li, .ref ca, .ref ho, .ref ta, .int 0])), (ho, .inr (6, [.int 8, .ref hc, .int 0])), (fw, .inl (cy 0, 8, .inl (fun _ => 0)))] s.heap := hP
  have hl := lv_entry ([.ref x]) (n := 2) (Nat.le_of_ble_eq_true rfl)
  rw [lg_entry_eq]
  generalize (lg_sl ([.ref x]) ++ List.replicate (2 - (lg_sl ([.ref x])).length) Slot.unset).toArray = ls at hl ⊢
  have hl : lv_has ls 2 [(0, .ref x)] := hl
  refine lv_aload_n hx hb dX11_findHouses_0 rfl (lv_at hl 0 rfl) ?_
  refine va_get (D := D) (ci := 11) (v := .ref fw) (C := RX11) (T := TX11) (N := 16) hx hb hta inlX11 hown hK hP 0 rfl rfl 13 (by decide) (hta _ wk_50) (fun _ h9 => h9) rfl dX11_findHouses_1 ?_
  refine lv_sipush (v := 400) hx hb dX11_findHouses_4 (by decide) ?_
  have hPc := hP.sub (ws' := [(fw, .inl (cy 0, 8, .inl (fun _ => 0)))]) [3] rfl
  have hDc := hD.sub (ws' := [(fw, .inl (cy 0, 8, .inl (fun _ => 0)))]) [3] (by decide) rfl
  refine tl_cv (wr := [(x, .inr (11, [.ref b, .ref im, .ref la, .ref cu, .ref wa, .ref pa, .ref dr, .ref su, .ref mk, .ref vi, .ref re, .ref rd, .ref so, .ref fw, .ref wo, .ref gi])), (b, .inr (0, [.int 0, .ref to, .ref ro, .ref sl, .ref li, .ref ca, .ref ho, .ref ta, .int 0])), (ho, .inr (6, [.int 8, .ref hc, .int 0]))]) _ _ hP hD hS hA [3] [0, 1, 2] rfl rfl (by decide) (by decide) (tl_rS (As := [.ref fw, .int 400]) (rest := []) ⟨hx, hb, hml, hown, hta⟩ hK hN hPc hDc lk_X11_384 (c_fill l D cy s.heap.size 8 fw 400 (fun _ => 0) (by first | decide | omega | assumption)) rfl rfl ⟨Nat.le_of_ble_eq_true rfl, Nat.le_of_ble_eq_true rfl⟩ rfl hl.1 rfl (Nat.le_of_ble_eq_true rfl) dX11_findHouses_7 ⟨Nat.le_of_ble_eq_true rfl, Nat.le_of_ble_eq_true rfl⟩) (fun u_3 H locs hw_1 hP hD hS => ?_)
  have hP : va_P D vwCl [(x, .inr (11, [.ref b, .ref im, .ref la, .ref cu, .ref wa, .ref pa, .ref dr, .ref su, .ref mk, .ref vi, .ref re, .ref rd, .ref so, .ref fw, .ref wo, .ref gi])), (b, .inr (0, [.int 0, .ref to, .ref ro, .ref sl, .ref li, .ref ca, .ref ho, .ref ta, .int 0])), (ho, .inr (6, [.int 8, .ref hc, .int 0])), (fw, .inl (cy 0, 8, .inl u_3))] H := hP
  have hD : va_D A [(x, .inr (11, [.ref b, .ref im, .ref la, .ref cu, .ref wa, .ref pa, .ref dr, .ref su, .ref mk, .ref vi, .ref re, .ref rd, .ref so, .ref fw, .ref wo, .ref gi])), (b, .inr (0, [.int 0, .ref to, .ref ro, .ref sl, .ref li, .ref ca, .ref ho, .ref ta, .int 0])), (ho, .inr (6, [.int 8, .ref hc, .int 0])), (fw, .inl (cy 0, 8, .inl u_3))] := hD
  refine W.widen (k := 0) (n := 0) (Nat.le_refl _) (Nat.le_refl _) ?_
  have hw_1 : ∀ j : Nat, j < 8 → u_3 j = 400 := hw_1
  refine lv_iconst (v := 0) hx hb dX11_findHouses_10 (by decide) ?_
  refine lv_istore_n (lv' := [(1, .int 0), (0, .ref x)]) hx hb dX11_findHouses_11 rfl hl (by decide) rfl (fun ls hl => ?_)
  refine lv_iload_n hx hb dX11_findHouses_12 rfl (lv_at hl 0 rfl) ?_
  refine lv_aload_n hx hb dX11_findHouses_13 rfl (lv_at hl 1 rfl) ?_
  refine va_get (D := D) (ci := 11) (v := .ref b) (C := RX11) (T := TX11) (N := 16) hx hb hta inlX11 hown hK hP 0 rfl rfl 0 (by decide) (hta _ wk_15) (fun _ h9 => h9) rfl dX11_findHouses_14 ?_
  refine va_getN (D := D) (ci := 0) (v := .ref ho) (C := RX0) (T := TX0) (N := 9) hx hb hta inlX0 hown hK hP 1 rfl rfl 6 (by decide) (va_Nw.use rfl (hN.1 24 _ nk_24)) (fun _ h9 => h9) rfl dX11_findHouses_17 ?_
  refine va_getN (D := D) (ci := 6) (v := .int 0) (C := RX6) (T := TX6) (N := 3) hx hb hta inlX6 hown hK hP 2 rfl rfl 2 (by decide) (va_Nw.use rfl (hN.1 15 _ nk_15)) (fun _ h9 => h9) rfl dX11_findHouses_20 ?_
  refine lv_icmp_ge (tgt := 52) hx hb dX11_findHouses_23 (by decide) (fun _ => ?_) (fun c => absurd c (by decide))
  have hP9 := hP.sub (ws' := [(x, .inr (11, [.ref b, .ref im, .ref la, .ref cu, .ref wa, .ref pa, .ref dr, .ref su, .ref mk, .ref vi, .ref re, .ref rd, .ref so, .ref fw, .ref wo, .ref gi])), (b, .inr (0, [.int 0, .ref to, .ref ro, .ref sl, .ref li, .ref ca, .ref ho, .ref ta, .int 0])), (ho, .inr (6, [.int 8, .ref hc, .int 0])), (fw, .inl (cy 0, 8, .inl u_3))]) [0, 1, 2, 3] rfl
  have hD9 := hD.sub (ws' := [(x, .inr (11, [.ref b, .ref im, .ref la, .ref cu, .ref wa, .ref pa, .ref dr, .ref su, .ref mk, .ref vi, .ref re, .ref rd, .ref so, .ref fw, .ref wo, .ref gi])), (b, .inr (0, [.int 0, .ref to, .ref ro, .ref sl, .ref li, .ref ca, .ref ho, .ref ta, .int 0])), (ho, .inr (6, [.int 8, .ref hc, .int 0])), (fw, .inl (cy 0, 8, .inl u_3))]) [0, 1, 2, 3] (by decide) rfl
  exact W.vret hx hb hr (fun t ht hW => ⟨⟨u_3, rfl, hw_1, by rw [ht]; exact hP9, hD9⟩, hS.F ht⟩) hS.2.2 dX11_findHouses_52
set_option maxHeartbeats 4000000 in
set_option maxRecDepth 100000 in
theorem c_X11_begunUpTo (l : Launch) (D : va_G) (cy : Nat → ClassId) (sz : Nat) (x : Nat) (p0 : Int32) (b : Nat) (im : Nat) (la : Nat) (cu : Nat) (wa : Nat) (pa : Nat) (dr : Nat) (su : Nat) (mk : Nat) (vi : Nat) (re : Nat) (rd : Nat) (so : Nat) (fw : Nat) (wo : Nat) (gi : Nat) (f : Nat → Int32) (hf : ∀ j : Nat, j < 8 → f j = 400) (hp : p0.toInt ≤ 399) : Met l yX11_begunUpTo (tl_w yX11_begunUpTo cX11_begunUpTo 4 (some .int)) ({ frames := 0, cells := 0, slots := 0, locals := 0 }) (va_Pc [.ref x, .int p0] (tl_P D cy [(x, .inr (11, [.ref b, .ref im, .ref la, .ref cu, .ref wa, .ref pa, .ref dr, .ref su, .ref mk, .ref vi, .ref re, .ref rd, .ref so, .ref fw, .ref wo, .ref gi])), (fw, .inl (cy 0, 8, .inl f))] sz)) (vp_Si (fun r : Int32 => r = 0)) 0 0 (fun _ => False) := by
  refine Met.ofW (cc := cX11_begunUpTo) (maxL := 4) (ret := (some .int)) (by decide) rfl ?_
  intro p e s m args below meth c s₁ B hml hv
  obtain ⟨rfl, hsz, hP, hK, hD0, hN⟩ := hv
  have hx := B.exec
  have hb := B.bytes
  have hr := B.returns
  have hta := tl_hta (atoms_spec (ws := tl_w yX11_begunUpTo cX11_begunUpTo 4 (some .int)) B.pre)
  have hown : s.vm.findClass RX11 = some m.cls := findClass_of_methodNamed B.named
  have hlocks := B.notSynchronized
  subst hsz
  have hD := hD0
  have hP : va_P D vwCl [(x, .inr (11, [.ref b, .ref im, .ref la, .ref cu, .ref wa, .ref pa, .ref dr, .ref su, .ref mk, .ref vi, .ref re, .ref rd, .ref so, .ref fw, .ref wo, .ref gi])), (fw, .inl (cy 0, 8, .inl f))] s.heap := hP
  have hl := lv_entry ([.ref x, .int p0]) (n := 4) (Nat.le_of_ble_eq_true rfl)
  rw [lg_entry_eq]
  generalize (lg_sl ([.ref x, .int p0]) ++ List.replicate (4 - (lg_sl ([.ref x, .int p0])).length) Slot.unset).toArray = ls at hl ⊢
  have hl : lv_has ls 4 [(0, .ref x), (1, .int p0)] := hl
  refine lv_iconst (v := 0) hx hb dX11_begunUpTo_0 (by decide) ?_
  refine lv_istore_n (lv' := [(2, .int 0), (0, .ref x), (1, .int p0)]) hx hb dX11_begunUpTo_1 rfl hl (by decide) rfl (fun ls hl => ?_)
  refine lv_iconst (v := 0) hx hb dX11_begunUpTo_2 (by decide) ?_
  refine lv_istore_n (lv' := [(3, .int 0), (2, .int 0), (0, .ref x), (1, .int p0)]) hx hb dX11_begunUpTo_3 rfl hl (by decide) rfl (fun ls hl => ?_)
  refine lv_iload_n hx hb dX11_begunUpTo_4 rfl (lv_at hl 0 rfl) ?_
  refine lv_aload_n hx hb dX11_begunUpTo_5 rfl (lv_at hl 2 rfl) ?_
  refine va_get (D := D) (ci := 11) (v := .ref fw) (C := RX11) (T := TX11) (N := 16) hx hb hta inlX11 hown hK hP 0 rfl rfl 13 (by decide) (hta _ wk_50) (fun _ h9 => h9) rfl dX11_begunUpTo_6 ?_
  refine va_alen (D := D) (v := 8) hx hb hK hP 1 0 rfl rfl rfl dX11_begunUpTo_9 ?_
  refine lv_icmp_ge (tgt := 37) hx hb dX11_begunUpTo_10 (by decide) (fun c => absurd c (by decide)) (fun _ => ?_)
  refine lv_iload_n hx hb dX11_begunUpTo_13 rfl (lv_at hl 1 rfl) ?_
  refine lv_aload_n hx hb dX11_begunUpTo_14 rfl (lv_at hl 2 rfl) ?_
  refine va_get (D := D) (ci := 11) (v := .ref fw) (C := RX11) (T := TX11) (N := 16) hx hb hta inlX11 hown hK hP 0 rfl rfl 13 (by decide) (hta _ wk_50) (fun _ h9 => h9) rfl dX11_begunUpTo_15 ?_
  refine lv_iload_n hx hb dX11_begunUpTo_18 rfl (lv_at hl 0 rfl) ?_
  refine va_iald (D := D) hx hb hK hP 1 0 rfl rfl (tl_in (by decide) (by decide)) dX11_begunUpTo_19 ?_
  refine W.eq (g2 := F0 m 20 ls ([.int 400, .int 0])) (by rw [hf _ (by decide)]) ?_
  refine lv_iload_n hx hb dX11_begunUpTo_20 rfl (lv_at hl 3 rfl) ?_
  refine lv_icmp_gt (tgt := 28) hx hb dX11_begunUpTo_21 (by decide) (fun c_1 => ?_) (fun c_1 => ?_)
  · have c_1 : p0.toInt < (400 : Int) := tl_lt c_1
    refine lv_iconst (v := 0) hx hb dX11_begunUpTo_28 (by decide) ?_
    refine lv_iadd hx hb dX11_begunUpTo_29 ?_
    refine lv_topi (fun z_2 ez_2 => ?_)
    obtain rfl : z_2 = (0 : Int32) := ez_2.trans (by decide)
    refine lv_istore_n (lv' := [(2, .int 0), (3, .int 0), (0, .ref x), (1, .int p0)]) hx hb dX11_begunUpTo_30 rfl hl (by decide) rfl (fun ls hl => ?_)
    refine lv_iinc (v := 1) (lv' := [(3, .int 1), (2, .int 0), (0, .ref x), (1, .int p0)]) hx hb dX11_begunUpTo_31 hl (k := 1) rfl (by decide) (by decide) rfl (fun ls hl => ?_)
    refine lv_goto (tgt := 4) hx hb dX11_begunUpTo_34 (by decide) ?_
    refine lv_iload_n hx hb dX11_begunUpTo_4 rfl (lv_at hl 0 rfl) ?_
    refine lv_aload_n hx hb dX11_begunUpTo_5 rfl (lv_at hl 2 rfl) ?_
    refine va_get (D := D) (ci := 11) (v := .ref fw) (C := RX11) (T := TX11) (N := 16) hx hb hta inlX11 hown hK hP 0 rfl rfl 13 (by decide) (hta _ wk_50) (fun _ h9 => h9) rfl dX11_begunUpTo_6 ?_
    refine va_alen (D := D) (v := 8) hx hb hK hP 1 0 rfl rfl rfl dX11_begunUpTo_9 ?_
    refine lv_icmp_ge (tgt := 37) hx hb dX11_begunUpTo_10 (by decide) (fun c => absurd c (by decide)) (fun _ => ?_)
    refine lv_iload_n hx hb dX11_begunUpTo_13 rfl (lv_at hl 1 rfl) ?_
    refine lv_aload_n hx hb dX11_begunUpTo_14 rfl (lv_at hl 2 rfl) ?_
    refine va_get (D := D) (ci := 11) (v := .ref fw) (C := RX11) (T := TX11) (N := 16) hx hb hta inlX11 hown hK hP 0 rfl rfl 13 (by decide) (hta _ wk_50) (fun _ h9 => h9) rfl dX11_begunUpTo_15 ?_
    refine lv_iload_n hx hb dX11_begunUpTo_18 rfl (lv_at hl 0 rfl) ?_
    refine va_iald (D := D) hx hb hK hP 1 0 rfl rfl (tl_in (by decide) (by decide)) dX11_begunUpTo_19 ?_
    refine W.eq (g2 := F0 m 20 ls ([.int 400, .int 0])) (by rw [hf _ (by decide)]) ?_
    refine lv_iload_n hx hb dX11_begunUpTo_20 rfl (lv_at hl 3 rfl) ?_
    refine lv_icmp_gt (tgt := 28) hx hb dX11_begunUpTo_21 (by decide) (fun c_3 => ?_) (fun c_3 => ?_)
    · have c_3 : p0.toInt < (400 : Int) := tl_lt c_3
      refine lv_iconst (v := 0) hx hb dX11_begunUpTo_28 (by decide) ?_
      refine lv_iadd hx hb dX11_begunUpTo_29 ?_
      refine lv_topi (fun z_4 ez_4 => ?_)
      obtain rfl : z_4 = (0 : Int32) := ez_4.trans (by decide)
      refine lv_istore_n (lv' := [(2, .int 0), (3, .int 1), (0, .ref x), (1, .int p0)]) hx hb dX11_begunUpTo_30 rfl hl (by decide) rfl (fun ls hl => ?_)
      refine lv_iinc (v := 2) (lv' := [(3, .int 2), (2, .int 0), (0, .ref x), (1, .int p0)]) hx hb dX11_begunUpTo_31 hl (k := 1) rfl (by decide) (by decide) rfl (fun ls hl => ?_)
      refine lv_goto (tgt := 4) hx hb dX11_begunUpTo_34 (by decide) ?_
      refine lv_iload_n hx hb dX11_begunUpTo_4 rfl (lv_at hl 0 rfl) ?_
      refine lv_aload_n hx hb dX11_begunUpTo_5 rfl (lv_at hl 2 rfl) ?_
      refine va_get (D := D) (ci := 11) (v := .ref fw) (C := RX11) (T := TX11) (N := 16) hx hb hta inlX11 hown hK hP 0 rfl rfl 13 (by decide) (hta _ wk_50) (fun _ h9 => h9) rfl dX11_begunUpTo_6 ?_
      refine va_alen (D := D) (v := 8) hx hb hK hP 1 0 rfl rfl rfl dX11_begunUpTo_9 ?_
      refine lv_icmp_ge (tgt := 37) hx hb dX11_begunUpTo_10 (by decide) (fun c => absurd c (by decide)) (fun _ => ?_)
      refine lv_iload_n hx hb dX11_begunUpTo_13 rfl (lv_at hl 1 rfl) ?_
      refine lv_aload_n hx hb dX11_begunUpTo_14 rfl (lv_at hl 2 rfl) ?_
      refine va_get (D := D) (ci := 11) (v := .ref fw) (C := RX11) (T := TX11) (N := 16) hx hb hta inlX11 hown hK hP 0 rfl rfl 13 (by decide) (hta _ wk_50) (fun _ h9 => h9) rfl dX11_begunUpTo_15 ?_
      refine lv_iload_n hx hb dX11_begunUpTo_18 rfl (lv_at hl 0 rfl) ?_
      refine va_iald (D := D) hx hb hK hP 1 0 rfl rfl (tl_in (by decide) (by decide)) dX11_begunUpTo_19 ?_
      refine W.eq (g2 := F0 m 20 ls ([.int 400, .int 0])) (by rw [hf _ (by decide)]) ?_
      refine lv_iload_n hx hb dX11_begunUpTo_20 rfl (lv_at hl 3 rfl) ?_
      refine lv_icmp_gt (tgt := 28) hx hb dX11_begunUpTo_21 (by decide) (fun c_5 => ?_) (fun c_5 => ?_)
      · have c_5 : p0.toInt < (400 : Int) := tl_lt c_5
        refine lv_iconst (v := 0) hx hb dX11_begunUpTo_28 (by decide) ?_
        refine lv_iadd hx hb dX11_begunUpTo_29 ?_
        refine lv_topi (fun z_6 ez_6 => ?_)
        obtain rfl : z_6 = (0 : Int32) := ez_6.trans (by decide)
        refine lv_istore_n (lv' := [(2, .int 0), (3, .int 2), (0, .ref x), (1, .int p0)]) hx hb dX11_begunUpTo_30 rfl hl (by decide) rfl (fun ls hl => ?_)
        refine lv_iinc (v := 3) (lv' := [(3, .int 3), (2, .int 0), (0, .ref x), (1, .int p0)]) hx hb dX11_begunUpTo_31 hl (k := 1) rfl (by decide) (by decide) rfl (fun ls hl => ?_)
        refine lv_goto (tgt := 4) hx hb dX11_begunUpTo_34 (by decide) ?_
        refine lv_iload_n hx hb dX11_begunUpTo_4 rfl (lv_at hl 0 rfl) ?_
        refine lv_aload_n hx hb dX11_begunUpTo_5 rfl (lv_at hl 2 rfl) ?_
        refine va_get (D := D) (ci := 11) (v := .ref fw) (C := RX11) (T := TX11) (N := 16) hx hb hta inlX11 hown hK hP 0 rfl rfl 13 (by decide) (hta _ wk_50) (fun _ h9 => h9) rfl dX11_begunUpTo_6 ?_
        refine va_alen (D := D) (v := 8) hx hb hK hP 1 0 rfl rfl rfl dX11_begunUpTo_9 ?_
        refine lv_icmp_ge (tgt := 37) hx hb dX11_begunUpTo_10 (by decide) (fun c => absurd c (by decide)) (fun _ => ?_)
        refine lv_iload_n hx hb dX11_begunUpTo_13 rfl (lv_at hl 1 rfl) ?_
        refine lv_aload_n hx hb dX11_begunUpTo_14 rfl (lv_at hl 2 rfl) ?_
        refine va_get (D := D) (ci := 11) (v := .ref fw) (C := RX11) (T := TX11) (N := 16) hx hb hta inlX11 hown hK hP 0 rfl rfl 13 (by decide) (hta _ wk_50) (fun _ h9 => h9) rfl dX11_begunUpTo_15 ?_
        refine lv_iload_n hx hb dX11_begunUpTo_18 rfl (lv_at hl 0 rfl) ?_
        refine va_iald (D := D) hx hb hK hP 1 0 rfl rfl (tl_in (by decide) (by decide)) dX11_begunUpTo_19 ?_
        refine W.eq (g2 := F0 m 20 ls ([.int 400, .int 0])) (by rw [hf _ (by decide)]) ?_
        refine lv_iload_n hx hb dX11_begunUpTo_20 rfl (lv_at hl 3 rfl) ?_
        refine lv_icmp_gt (tgt := 28) hx hb dX11_begunUpTo_21 (by decide) (fun c_7 => ?_) (fun c_7 => ?_)
        · have c_7 : p0.toInt < (400 : Int) := tl_lt c_7
          refine lv_iconst (v := 0) hx hb dX11_begunUpTo_28 (by decide) ?_
          refine lv_iadd hx hb dX11_begunUpTo_29 ?_
          refine lv_topi (fun z_8 ez_8 => ?_)
          obtain rfl : z_8 = (0 : Int32) := ez_8.trans (by decide)
          refine lv_istore_n (lv' := [(2, .int 0), (3, .int 3), (0, .ref x), (1, .int p0)]) hx hb dX11_begunUpTo_30 rfl hl (by decide) rfl (fun ls hl => ?_)
          refine lv_iinc (v := 4) (lv' := [(3, .int 4), (2, .int 0), (0, .ref x), (1, .int p0)]) hx hb dX11_begunUpTo_31 hl (k := 1) rfl (by decide) (by decide) rfl (fun ls hl => ?_)
          refine lv_goto (tgt := 4) hx hb dX11_begunUpTo_34 (by decide) ?_
          refine lv_iload_n hx hb dX11_begunUpTo_4 rfl (lv_at hl 0 rfl) ?_
          refine lv_aload_n hx hb dX11_begunUpTo_5 rfl (lv_at hl 2 rfl) ?_
          refine va_get (D := D) (ci := 11) (v := .ref fw) (C := RX11) (T := TX11) (N := 16) hx hb hta inlX11 hown hK hP 0 rfl rfl 13 (by decide) (hta _ wk_50) (fun _ h9 => h9) rfl dX11_begunUpTo_6 ?_
          refine va_alen (D := D) (v := 8) hx hb hK hP 1 0 rfl rfl rfl dX11_begunUpTo_9 ?_
          refine lv_icmp_ge (tgt := 37) hx hb dX11_begunUpTo_10 (by decide) (fun c => absurd c (by decide)) (fun _ => ?_)
          refine lv_iload_n hx hb dX11_begunUpTo_13 rfl (lv_at hl 1 rfl) ?_
          refine lv_aload_n hx hb dX11_begunUpTo_14 rfl (lv_at hl 2 rfl) ?_
          refine va_get (D := D) (ci := 11) (v := .ref fw) (C := RX11) (T := TX11) (N := 16) hx hb hta inlX11 hown hK hP 0 rfl rfl 13 (by decide) (hta _ wk_50) (fun _ h9 => h9) rfl dX11_begunUpTo_15 ?_
          refine lv_iload_n hx hb dX11_begunUpTo_18 rfl (lv_at hl 0 rfl) ?_
          refine va_iald (D := D) hx hb hK hP 1 0 rfl rfl (tl_in (by decide) (by decide)) dX11_begunUpTo_19 ?_
          refine W.eq (g2 := F0 m 20 ls ([.int 400, .int 0])) (by rw [hf _ (by decide)]) ?_
          refine lv_iload_n hx hb dX11_begunUpTo_20 rfl (lv_at hl 3 rfl) ?_
          refine lv_icmp_gt (tgt := 28) hx hb dX11_begunUpTo_21 (by decide) (fun c_9 => ?_) (fun c_9 => ?_)
          · have c_9 : p0.toInt < (400 : Int) := tl_lt c_9
            refine lv_iconst (v := 0) hx hb dX11_begunUpTo_28 (by decide) ?_
            refine lv_iadd hx hb dX11_begunUpTo_29 ?_
            refine lv_topi (fun z_10 ez_10 => ?_)
            obtain rfl : z_10 = (0 : Int32) := ez_10.trans (by decide)
            refine lv_istore_n (lv' := [(2, .int 0), (3, .int 4), (0, .ref x), (1, .int p0)]) hx hb dX11_begunUpTo_30 rfl hl (by decide) rfl (fun ls hl => ?_)
            refine lv_iinc (v := 5) (lv' := [(3, .int 5), (2, .int 0), (0, .ref x), (1, .int p0)]) hx hb dX11_begunUpTo_31 hl (k := 1) rfl (by decide) (by decide) rfl (fun ls hl => ?_)
            refine lv_goto (tgt := 4) hx hb dX11_begunUpTo_34 (by decide) ?_
            refine lv_iload_n hx hb dX11_begunUpTo_4 rfl (lv_at hl 0 rfl) ?_
            refine lv_aload_n hx hb dX11_begunUpTo_5 rfl (lv_at hl 2 rfl) ?_
            refine va_get (D := D) (ci := 11) (v := .ref fw) (C := RX11) (T := TX11) (N := 16) hx hb hta inlX11 hown hK hP 0 rfl rfl 13 (by decide) (hta _ wk_50) (fun _ h9 => h9) rfl dX11_begunUpTo_6 ?_
            refine va_alen (D := D) (v := 8) hx hb hK hP 1 0 rfl rfl rfl dX11_begunUpTo_9 ?_
            refine lv_icmp_ge (tgt := 37) hx hb dX11_begunUpTo_10 (by decide) (fun c => absurd c (by decide)) (fun _ => ?_)
            refine lv_iload_n hx hb dX11_begunUpTo_13 rfl (lv_at hl 1 rfl) ?_
            refine lv_aload_n hx hb dX11_begunUpTo_14 rfl (lv_at hl 2 rfl) ?_
            refine va_get (D := D) (ci := 11) (v := .ref fw) (C := RX11) (T := TX11) (N := 16) hx hb hta inlX11 hown hK hP 0 rfl rfl 13 (by decide) (hta _ wk_50) (fun _ h9 => h9) rfl dX11_begunUpTo_15 ?_
            refine lv_iload_n hx hb dX11_begunUpTo_18 rfl (lv_at hl 0 rfl) ?_
            refine va_iald (D := D) hx hb hK hP 1 0 rfl rfl (tl_in (by decide) (by decide)) dX11_begunUpTo_19 ?_
            refine W.eq (g2 := F0 m 20 ls ([.int 400, .int 0])) (by rw [hf _ (by decide)]) ?_
            refine lv_iload_n hx hb dX11_begunUpTo_20 rfl (lv_at hl 3 rfl) ?_
            refine lv_icmp_gt (tgt := 28) hx hb dX11_begunUpTo_21 (by decide) (fun c_11 => ?_) (fun c_11 => ?_)
            · have c_11 : p0.toInt < (400 : Int) := tl_lt c_11
              refine lv_iconst (v := 0) hx hb dX11_begunUpTo_28 (by decide) ?_
              refine lv_iadd hx hb dX11_begunUpTo_29 ?_
              refine lv_topi (fun z_12 ez_12 => ?_)
              obtain rfl : z_12 = (0 : Int32) := ez_12.trans (by decide)
              refine lv_istore_n (lv' := [(2, .int 0), (3, .int 5), (0, .ref x), (1, .int p0)]) hx hb dX11_begunUpTo_30 rfl hl (by decide) rfl (fun ls hl => ?_)
              refine lv_iinc (v := 6) (lv' := [(3, .int 6), (2, .int 0), (0, .ref x), (1, .int p0)]) hx hb dX11_begunUpTo_31 hl (k := 1) rfl (by decide) (by decide) rfl (fun ls hl => ?_)
              refine lv_goto (tgt := 4) hx hb dX11_begunUpTo_34 (by decide) ?_
              refine lv_iload_n hx hb dX11_begunUpTo_4 rfl (lv_at hl 0 rfl) ?_
              refine lv_aload_n hx hb dX11_begunUpTo_5 rfl (lv_at hl 2 rfl) ?_
              refine va_get (D := D) (ci := 11) (v := .ref fw) (C := RX11) (T := TX11) (N := 16) hx hb hta inlX11 hown hK hP 0 rfl rfl 13 (by decide) (hta _ wk_50) (fun _ h9 => h9) rfl dX11_begunUpTo_6 ?_
              refine va_alen (D := D) (v := 8) hx hb hK hP 1 0 rfl rfl rfl dX11_begunUpTo_9 ?_
              refine lv_icmp_ge (tgt := 37) hx hb dX11_begunUpTo_10 (by decide) (fun c => absurd c (by decide)) (fun _ => ?_)
              refine lv_iload_n hx hb dX11_begunUpTo_13 rfl (lv_at hl 1 rfl) ?_
              refine lv_aload_n hx hb dX11_begunUpTo_14 rfl (lv_at hl 2 rfl) ?_
              refine va_get (D := D) (ci := 11) (v := .ref fw) (C := RX11) (T := TX11) (N := 16) hx hb hta inlX11 hown hK hP 0 rfl rfl 13 (by decide) (hta _ wk_50) (fun _ h9 => h9) rfl dX11_begunUpTo_15 ?_
              refine lv_iload_n hx hb dX11_begunUpTo_18 rfl (lv_at hl 0 rfl) ?_
              refine va_iald (D := D) hx hb hK hP 1 0 rfl rfl (tl_in (by decide) (by decide)) dX11_begunUpTo_19 ?_
              refine W.eq (g2 := F0 m 20 ls ([.int 400, .int 0])) (by rw [hf _ (by decide)]) ?_
              refine lv_iload_n hx hb dX11_begunUpTo_20 rfl (lv_at hl 3 rfl) ?_
              refine lv_icmp_gt (tgt := 28) hx hb dX11_begunUpTo_21 (by decide) (fun c_13 => ?_) (fun c_13 => ?_)
              · have c_13 : p0.toInt < (400 : Int) := tl_lt c_13
                refine lv_iconst (v := 0) hx hb dX11_begunUpTo_28 (by decide) ?_
                refine lv_iadd hx hb dX11_begunUpTo_29 ?_
                refine lv_topi (fun z_14 ez_14 => ?_)
                obtain rfl : z_14 = (0 : Int32) := ez_14.trans (by decide)
                refine lv_istore_n (lv' := [(2, .int 0), (3, .int 6), (0, .ref x), (1, .int p0)]) hx hb dX11_begunUpTo_30 rfl hl (by decide) rfl (fun ls hl => ?_)
                refine lv_iinc (v := 7) (lv' := [(3, .int 7), (2, .int 0), (0, .ref x), (1, .int p0)]) hx hb dX11_begunUpTo_31 hl (k := 1) rfl (by decide) (by decide) rfl (fun ls hl => ?_)
                refine lv_goto (tgt := 4) hx hb dX11_begunUpTo_34 (by decide) ?_
                refine lv_iload_n hx hb dX11_begunUpTo_4 rfl (lv_at hl 0 rfl) ?_
                refine lv_aload_n hx hb dX11_begunUpTo_5 rfl (lv_at hl 2 rfl) ?_
                refine va_get (D := D) (ci := 11) (v := .ref fw) (C := RX11) (T := TX11) (N := 16) hx hb hta inlX11 hown hK hP 0 rfl rfl 13 (by decide) (hta _ wk_50) (fun _ h9 => h9) rfl dX11_begunUpTo_6 ?_
                refine va_alen (D := D) (v := 8) hx hb hK hP 1 0 rfl rfl rfl dX11_begunUpTo_9 ?_
                refine lv_icmp_ge (tgt := 37) hx hb dX11_begunUpTo_10 (by decide) (fun c => absurd c (by decide)) (fun _ => ?_)
                refine lv_iload_n hx hb dX11_begunUpTo_13 rfl (lv_at hl 1 rfl) ?_
                refine lv_aload_n hx hb dX11_begunUpTo_14 rfl (lv_at hl 2 rfl) ?_
                refine va_get (D := D) (ci := 11) (v := .ref fw) (C := RX11) (T := TX11) (N := 16) hx hb hta inlX11 hown hK hP 0 rfl rfl 13 (by decide) (hta _ wk_50) (fun _ h9 => h9) rfl dX11_begunUpTo_15 ?_
                refine lv_iload_n hx hb dX11_begunUpTo_18 rfl (lv_at hl 0 rfl) ?_
                refine va_iald (D := D) hx hb hK hP 1 0 rfl rfl (tl_in (by decide) (by decide)) dX11_begunUpTo_19 ?_
                refine W.eq (g2 := F0 m 20 ls ([.int 400, .int 0])) (by rw [hf _ (by decide)]) ?_
                refine lv_iload_n hx hb dX11_begunUpTo_20 rfl (lv_at hl 3 rfl) ?_
                refine lv_icmp_gt (tgt := 28) hx hb dX11_begunUpTo_21 (by decide) (fun c_15 => ?_) (fun c_15 => ?_)
                · have c_15 : p0.toInt < (400 : Int) := tl_lt c_15
                  refine lv_iconst (v := 0) hx hb dX11_begunUpTo_28 (by decide) ?_
                  refine lv_iadd hx hb dX11_begunUpTo_29 ?_
                  refine lv_topi (fun z_16 ez_16 => ?_)
                  obtain rfl : z_16 = (0 : Int32) := ez_16.trans (by decide)
                  refine lv_istore_n (lv' := [(2, .int 0), (3, .int 7), (0, .ref x), (1, .int p0)]) hx hb dX11_begunUpTo_30 rfl hl (by decide) rfl (fun ls hl => ?_)
                  refine lv_iinc (v := 8) (lv' := [(3, .int 8), (2, .int 0), (0, .ref x), (1, .int p0)]) hx hb dX11_begunUpTo_31 hl (k := 1) rfl (by decide) (by decide) rfl (fun ls hl => ?_)
                  refine lv_goto (tgt := 4) hx hb dX11_begunUpTo_34 (by decide) ?_
                  refine lv_iload_n hx hb dX11_begunUpTo_4 rfl (lv_at hl 0 rfl) ?_
                  refine lv_aload_n hx hb dX11_begunUpTo_5 rfl (lv_at hl 2 rfl) ?_
                  refine va_get (D := D) (ci := 11) (v := .ref fw) (C := RX11) (T := TX11) (N := 16) hx hb hta inlX11 hown hK hP 0 rfl rfl 13 (by decide) (hta _ wk_50) (fun _ h9 => h9) rfl dX11_begunUpTo_6 ?_
                  refine va_alen (D := D) (v := 8) hx hb hK hP 1 0 rfl rfl rfl dX11_begunUpTo_9 ?_
                  refine lv_icmp_ge (tgt := 37) hx hb dX11_begunUpTo_10 (by decide) (fun _ => ?_) (fun c => absurd c (by decide))
                  refine lv_iload_n hx hb dX11_begunUpTo_37 rfl (lv_at hl 1 rfl) ?_
                  exact W.iret (v := 0) hx hb hr (fun t ht hW => ⟨_, rfl, rfl, ht⟩) (fun q h => by cases h) dX11_begunUpTo_38
                · have c_15 : (400 : Int) ≤ p0.toInt := tl_nlt c_15
                  exfalso; omega
              · have c_13 : (400 : Int) ≤ p0.toInt := tl_nlt c_13
                exfalso; omega
            · have c_11 : (400 : Int) ≤ p0.toInt := tl_nlt c_11
              exfalso; omega
          · have c_9 : (400 : Int) ≤ p0.toInt := tl_nlt c_9
            exfalso; omega
        · have c_7 : (400 : Int) ≤ p0.toInt := tl_nlt c_7
          exfalso; omega
      · have c_5 : (400 : Int) ≤ p0.toInt := tl_nlt c_5
        exfalso; omega
    · have c_3 : (400 : Int) ≤ p0.toInt := tl_nlt c_3
      exfalso; omega
  · have c_1 : (400 : Int) ≤ p0.toInt := tl_nlt c_1
    exfalso; omega
set_option maxHeartbeats 4000000 in
set_option maxRecDepth 100000 in
theorem c_X11_agreed (l : Launch) (D : va_G) (cy : Nat → ClassId) (sz : Nat) (x : Nat) (p0 : Int32) (b : Nat) (im : Nat) (la : Nat) (cu : Nat) (wa : Nat) (pa : Nat) (dr : Nat) (su : Nat) (mk : Nat) (vi : Nat) (re : Nat) (rd : Nat) (so : Nat) (fw : Nat) (wo : Nat) (gi : Nat) (to : Nat) (ro : Nat) (sl : Nat) (li : Nat) (ca : Nat) (ho : Nat) (ta : Nat) (hc : Nat)  : Met l yX11_agreed (tl_w yX11_agreed cX11_agreed 3 (some .int)) ({ frames := 2, cells := 0, slots := 0, locals := 44 }) (va_Pc [.ref x, .int p0] (tl_P D cy [(x, .inr (11, [.ref b, .ref im, .ref la, .ref cu, .ref wa, .ref pa, .ref dr, .ref su, .ref mk, .ref vi, .ref re, .ref rd, .ref so, .ref fw, .ref wo, .ref gi])), (b, .inr (0, [.int 0, .ref to, .ref ro, .ref sl, .ref li, .ref ca, .ref ho, .ref ta, .int 0])), (ho, .inr (6, [.int 8, .ref hc, .int 0])), (fw, .inl (cy 0, 8, .inl (fun _ => 0)))] sz)) (va_Qi (fun (r : Int32) (u : Unit) => tl_E r (0 ≤ p0.toInt ∧ p0.toInt ≤ 399) (-2) (-1)) (tl_B D (va_A [(x, .inr (11, [.ref b, .ref im, .ref la, .ref cu, .ref wa, .ref pa, .ref dr, .ref su, .ref mk, .ref vi, .ref re, .ref rd, .ref so, .ref fw, .ref wo, .ref gi])), (b, .inr (0, [.int 0, .ref to, .ref ro, .ref sl, .ref li, .ref ca, .ref ho, .ref ta, .int 0])), (ho, .inr (6, [.int 8, .ref hc, .int 0])), (fw, .inl (cy 0, 8, .inl (fun _ => 0)))] sz) (fun u : Unit => [])) (va_A [(x, .inr (11, [.ref b, .ref im, .ref la, .ref cu, .ref wa, .ref pa, .ref dr, .ref su, .ref mk, .ref vi, .ref re, .ref rd, .ref so, .ref fw, .ref wo, .ref gi])), (b, .inr (0, [.int 0, .ref to, .ref ro, .ref sl, .ref li, .ref ca, .ref ho, .ref ta, .int 0])), (ho, .inr (6, [.int 8, .ref hc, .int 0])), (fw, .inl (cy 0, 8, .inl (fun _ => 0)))] sz)) 0 0 (va_A [(x, .inr (11, [.ref b, .ref im, .ref la, .ref cu, .ref wa, .ref pa, .ref dr, .ref su, .ref mk, .ref vi, .ref re, .ref rd, .ref so, .ref fw, .ref wo, .ref gi])), (b, .inr (0, [.int 0, .ref to, .ref ro, .ref sl, .ref li, .ref ca, .ref ho, .ref ta, .int 0])), (ho, .inr (6, [.int 8, .ref hc, .int 0])), (fw, .inl (cy 0, 8, .inl (fun _ => 0)))] sz) := by
  refine Met.ofW (cc := cX11_agreed) (maxL := 3) (ret := (some .int)) (by decide) rfl ?_
  intro p e s m args below meth c s₁ B hml hv
  obtain ⟨rfl, hsz, hP, hK, hD0, hN⟩ := hv
  have hx := B.exec
  have hb := B.bytes
  have hr := B.returns
  have hta := tl_hta (atoms_spec (ws := tl_w yX11_agreed cX11_agreed 3 (some .int)) B.pre)
  have hown : s.vm.findClass RX11 = some m.cls := findClass_of_methodNamed B.named
  have hlocks := B.notSynchronized
  subst hsz
  have hD := hD0.self (sz := s.heap.size)
  generalize hAe : va_A [(x, .inr (11, [.ref b, .ref im, .ref la, .ref cu, .ref wa, .ref pa, .ref dr, .ref su, .ref mk, .ref vi, .ref re, .ref rd, .ref so, .ref fw, .ref wo, .ref gi])), (b, .inr (0, [.int 0, .ref to, .ref ro, .ref sl, .ref li, .ref ca, .ref ho, .ref ta, .int 0])), (ho, .inr (6, [.int 8, .ref hc, .int 0])), (fw, .inl (cy 0, 8, .inl (fun _ => 0)))] s.heap.size = A at hD ⊢
  have hA : ∀ q : Nat, s.heap.size ≤ q → A q := fun q h => by rw [← hAe]; exact Or.inr h
  have hS : va_S A s.heap s.heap [] := va_S.rf
  have hP : va_P D vwCl [(x, .inr (11, [.ref b, .ref im, .ref la, .ref cu, .ref wa, .ref pa, .ref dr, .ref su, .ref mk, .ref vi, .ref re, .ref rd, .ref so, .ref fw, .ref wo, .ref gi])), (b, .inr (0, [.int 0, .ref to, .ref ro, .ref sl, .ref li, .ref ca, .ref ho, .ref ta, .int 0])), (ho, .inr (6, [.int 8, .ref hc, .int 0])), (fw, .inl (cy 0, 8, .inl (fun _ => 0)))] s.heap := hP
  have hl := lv_entry ([.ref x, .int p0]) (n := 3) (Nat.le_of_ble_eq_true rfl)
  rw [lg_entry_eq]
  generalize (lg_sl ([.ref x, .int p0]) ++ List.replicate (3 - (lg_sl ([.ref x, .int p0])).length) Slot.unset).toArray = ls at hl ⊢
  have hl : lv_has ls 3 [(0, .ref x), (1, .int p0)] := hl
  refine lv_iload_n hx hb dX11_agreed_0 rfl (lv_at hl 1 rfl) ?_
  have hPc := hP.sub (ws' := []) [] rfl
  have hDc := hD.sub (ws' := []) [] (by decide) rfl
  refine tl_si (tl_rS (As := [.int p0]) (rest := []) ⟨hx, hb, hml, hown, hta⟩ hK hN hPc hDc lk_X11_94 (c_X11_isWeek l D cy s.heap.size p0 ) rfl rfl ⟨Nat.le_of_ble_eq_true rfl, Nat.le_of_ble_eq_true rfl⟩ rfl hl.1 rfl (Nat.le_of_ble_eq_true rfl) dX11_agreed_1 ⟨Nat.le_of_ble_eq_true rfl, Nat.le_of_ble_eq_true rfl⟩) (fun r_2 hw_1 => ?_)
  have hw_1 : tl_E r_2 (0 ≤ p0.toInt ∧ p0.toInt ≤ 399) 1 0 := hw_1
  refine lv_if_ne (tgt := 9) hx hb dX11_agreed_4 (by decide) (fun c_3 => ?_) (fun c_3 => ?_)
  · have c_3 := hw_1.t c_3
    refine lv_aload_n hx hb dX11_agreed_9 rfl (lv_at hl 0 rfl) ?_
    refine tl_cv (wr := []) _ _ hP hD hS hA [0, 1, 2, 3] [] rfl rfl (by decide) (by decide) (tl_rV (As := []) (rest := []) ⟨hx, hb, hml, hown, hta⟩ hK hN hP hD (ci := 11) rfl 0 rfl lk_X11_426 (c_X11_findHouses l D cy s.heap.size x b im la cu wa pa dr su mk vi re rd so fw wo gi to ro sl li ca ho ta hc ) rfl rfl ⟨Nat.le_of_ble_eq_true rfl, Nat.le_of_ble_eq_true rfl⟩ rfl hl.1 rfl (Nat.le_of_ble_eq_true rfl) dX11_agreed_10 ⟨Nat.le_of_ble_eq_true rfl, Nat.le_of_ble_eq_true rfl⟩) (fun u_6 H locs hw_4 hP hD hS => ?_)
    have hP : va_P D vwCl [(x, .inr (11, [.ref b, .ref im, .ref la, .ref cu, .ref wa, .ref pa, .ref dr, .ref su, .ref mk, .ref vi, .ref re, .ref rd, .ref so, .ref fw, .ref wo, .ref gi])), (b, .inr (0, [.int 0, .ref to, .ref ro, .ref sl, .ref li, .ref ca, .ref ho, .ref ta, .int 0])), (ho, .inr (6, [.int 8, .ref hc, .int 0])), (fw, .inl (cy 0, 8, .inl u_6))] H := hP
    have hD : va_D A [(x, .inr (11, [.ref b, .ref im, .ref la, .ref cu, .ref wa, .ref pa, .ref dr, .ref su, .ref mk, .ref vi, .ref re, .ref rd, .ref so, .ref fw, .ref wo, .ref gi])), (b, .inr (0, [.int 0, .ref to, .ref ro, .ref sl, .ref li, .ref ca, .ref ho, .ref ta, .int 0])), (ho, .inr (6, [.int 8, .ref hc, .int 0])), (fw, .inl (cy 0, 8, .inl u_6))] := hD
    refine W.widen (k := 0) (n := 0) (Nat.le_refl _) (Nat.le_refl _) ?_
    have hw_4 : ∀ j : Nat, j < 8 → u_6 j = 400 := hw_4
    refine lv_iconst (v := 0) hx hb dX11_agreed_13 (by decide) ?_
    refine lv_istore_n (lv' := [(2, .int 0), (0, .ref x), (1, .int p0)]) hx hb dX11_agreed_14 rfl hl (by decide) rfl (fun ls hl => ?_)
    refine tl_ind (G := fun H locs ls => W p l e ((headSpec (tl_w yX11_agreed cX11_agreed 3 (some .int)) ({ frames := 2, cells := 0, slots := 0, locals := 44 })).room) s m #[.ref x, .int p0] below meth c H locs 0 0 (MQ below (va_Qi (fun (r : Int32) (u : Unit) => tl_E r (0 ≤ p0.toInt ∧ p0.toInt ≤ 399) (-2) (-1)) (tl_B D A (fun u : Unit => [])) A) #[.ref x, .int p0] s 0 0 A) (F0 m 15 ls [])) (α := Int32) (fun aq => (400 - aq.toInt).toNat) (fun aq H locs ls => (0 ≤ aq.toInt) ∧ (aq.toInt ≤ 400) ∧ va_P D vwCl [(x, .inr (11, [.ref b, .ref im, .ref la, .ref cu, .ref wa, .ref pa, .ref dr, .ref su, .ref mk, .ref vi, .ref re, .ref rd, .ref so, .ref fw, .ref wo, .ref gi])), (b, .inr (0, [.int 0, .ref to, .ref ro, .ref sl, .ref li, .ref ca, .ref ho, .ref ta, .int 0])), (ho, .inr (6, [.int 8, .ref hc, .int 0])), (fw, .inl (cy 0, 8, .inl u_6))] H ∧ va_D A [(x, .inr (11, [.ref b, .ref im, .ref la, .ref cu, .ref wa, .ref pa, .ref dr, .ref su, .ref mk, .ref vi, .ref re, .ref rd, .ref so, .ref fw, .ref wo, .ref gi])), (b, .inr (0, [.int 0, .ref to, .ref ro, .ref sl, .ref li, .ref ca, .ref ho, .ref ta, .int 0])), (ho, .inr (6, [.int 8, .ref hc, .int 0])), (fw, .inl (cy 0, 8, .inl u_6))] ∧ va_S A s.heap H locs ∧ lv_has ls 3 [(2, .int aq), (0, .ref x), (1, .int p0)]) ?_ 0 H locs ls ⟨(show 0 ≤ (0 : Int) from (by omega)), (show (0 : Int) ≤ 400 from (by omega)), hP, hD, hS, lv_sub hl [0, 1, 2] rfl⟩
    rintro i H locs ls ⟨h0, h1, hP, hD, hS, hl⟩ ih
    have hP : va_P D vwCl [(x, .inr (11, [.ref b, .ref im, .ref la, .ref cu, .ref wa, .ref pa, .ref dr, .ref su, .ref mk, .ref vi, .ref re, .ref rd, .ref so, .ref fw, .ref wo, .ref gi])), (b, .inr (0, [.int 0, .ref to, .ref ro, .ref sl, .ref li, .ref ca, .ref ho, .ref ta, .int 0])), (ho, .inr (6, [.int 8, .ref hc, .int 0])), (fw, .inl (cy 0, 8, .inl u_6))] H := hP
    have hD : va_D A [(x, .inr (11, [.ref b, .ref im, .ref la, .ref cu, .ref wa, .ref pa, .ref dr, .ref su, .ref mk, .ref vi, .ref re, .ref rd, .ref so, .ref fw, .ref wo, .ref gi])), (b, .inr (0, [.int 0, .ref to, .ref ro, .ref sl, .ref li, .ref ca, .ref ho, .ref ta, .int 0])), (ho, .inr (6, [.int 8, .ref hc, .int 0])), (fw, .inl (cy 0, 8, .inl u_6))] := hD
    have h0 : 0 ≤ i.toInt := h0
    have h1 : i.toInt ≤ 400 := h1
    have hl : lv_has ls 3 [(2, .int i), (0, .ref x), (1, .int p0)] := hl
    refine lv_iload_n hx hb dX11_agreed_15 rfl (lv_at hl 0 rfl) ?_
    refine lv_iload_n hx hb dX11_agreed_16 rfl (lv_at hl 2 rfl) ?_
    refine lv_icmp_gt (tgt := 48) hx hb dX11_agreed_17 (by decide) (fun c_7 => ?_) (fun c_7 => ?_)
    · have c_7 : p0.toInt < i.toInt := tl_lt c_7
      refine lv_bipush (v := (-2)) hx hb dX11_agreed_48 (by decide) ?_
      have hP9 := hP.sub (ws' := []) [] rfl
      have hD9 := hD.sub (ws' := []) [] (by decide) rfl
      exact W.iret (v := (-2)) hx hb hr (fun t ht hW => ⟨⟨_, (), rfl, (Or.inl ⟨by omega, rfl⟩), by rw [ht]; exact hP9, hD9⟩, hS.F ht⟩) hS.2.2 dX11_agreed_50
    · have c_7 : i.toInt ≤ p0.toInt := tl_nlt c_7
      refine lv_iconst (v := 2) hx hb dX11_agreed_20 (by decide) ?_
      refine lv_aload_n hx hb dX11_agreed_21 rfl (lv_at hl 1 rfl) ?_
      refine lv_iload_n hx hb dX11_agreed_22 rfl (lv_at hl 0 rfl) ?_
      have hPc := hP.sub (ws' := [(x, .inr (11, [.ref b, .ref im, .ref la, .ref cu, .ref wa, .ref pa, .ref dr, .ref su, .ref mk, .ref vi, .ref re, .ref rd, .ref so, .ref fw, .ref wo, .ref gi])), (fw, .inl (cy 0, 8, .inl u_6))]) [0, 3] rfl
      have hDc := hD.sub (ws' := [(x, .inr (11, [.ref b, .ref im, .ref la, .ref cu, .ref wa, .ref pa, .ref dr, .ref su, .ref mk, .ref vi, .ref re, .ref rd, .ref so, .ref fw, .ref wo, .ref gi])), (fw, .inl (cy 0, 8, .inl u_6))]) [0, 3] (by decide) rfl
      refine tl_si (tl_rV (As := [.int i]) (rest := [.int 2]) ⟨hx, hb, hml, hown, hta⟩ hK hN hPc hDc (ci := 11) rfl 0 rfl lk_X11_396 (c_X11_begunUpTo l D cy H.size x i b im la cu wa pa dr su mk vi re rd so fw wo gi u_6 hw_4 (by first | decide | omega | assumption)) rfl rfl ⟨Nat.le_of_ble_eq_true rfl, Nat.le_of_ble_eq_true rfl⟩ rfl hl.1 rfl (Nat.le_of_ble_eq_true rfl) dX11_agreed_23 ⟨Nat.le_of_ble_eq_true rfl, Nat.le_of_ble_eq_true rfl⟩) (fun r_9 hw_8 => ?_)
      subst hw_8
      refine lv_imul hx hb dX11_agreed_26 ?_
      refine lv_topi (fun z_10 ez_10 => ?_)
      obtain rfl : z_10 = (0 : Int32) := ez_10.trans (by decide)
      refine lv_aload_n hx hb dX11_agreed_27 rfl (lv_at hl 1 rfl) ?_
      refine va_get (D := D) (ci := 11) (v := .ref b) (C := RX11) (T := TX11) (N := 16) hx hb hta inlX11 hown hK hP 0 rfl rfl 0 (by decide) (hta _ wk_15) (fun _ h9 => h9) rfl dX11_agreed_28 ?_
      refine va_getN (D := D) (ci := 0) (v := .ref ho) (C := RX0) (T := TX0) (N := 9) hx hb hta inlX0 hown hK hP 1 rfl rfl 6 (by decide) (va_Nw.use rfl (hN.1 24 _ nk_24)) (fun _ h9 => h9) rfl dX11_agreed_31 ?_
      refine va_getN (D := D) (ci := 6) (v := .int 0) (C := RX6) (T := TX6) (N := 3) hx hb hta inlX6 hown hK hP 2 rfl rfl 2 (by decide) (va_Nw.use rfl (hN.1 15 _ nk_15)) (fun _ h9 => h9) rfl dX11_agreed_34 ?_
      refine lv_icmp_le (tgt := 42) hx hb dX11_agreed_37 (by decide) (fun _ => ?_) (fun c => absurd c (by decide))
      obtain ⟨z_11, ez_11⟩ : ∃ y : Int32, y = i + 1 := ⟨_, rfl⟩
      refine lv_iinc (v := z_11) (lv' := [(2, .int z_11), (0, .ref x), (1, .int p0)]) hx hb dX11_agreed_42 hl (k := 0) rfl (by rw [ez_11]; rfl) (by decide) rfl (fun ls hl => ?_)
      have iz_11 : z_11.toInt = i.toInt + 1 := by rw [ez_11]; exact tl_addL i 1 (by decide) (by omega) (by omega)
      refine lv_goto (tgt := 15) hx hb dX11_agreed_45 (by decide) ?_
      exact ih z_11 H locs ls (by show (400 - z_11.toInt).toNat < (400 - i.toInt).toNat; omega) ⟨(show 0 ≤ z_11.toInt from (by omega)), (show z_11.toInt ≤ 400 from (by omega)), hP, hD, hS, lv_sub hl [0, 1, 2] rfl⟩
  · have c_3 := hw_1.f c_3
    refine lv_iconst (v := (-1)) hx hb dX11_agreed_7 (by decide) ?_
    have hP9 := hP.sub (ws' := []) [] rfl
    have hD9 := hD.sub (ws' := []) [] (by decide) rfl
    have hS : va_S A s.heap s.heap [] := hS
    exact W.iret (v := (-1)) hx hb hr (fun t ht hW => ⟨⟨_, (), rfl, (Or.inr ⟨by omega, rfl⟩), by rw [ht]; exact hP9, hD9⟩, hS.F ht⟩) hS.2.2 dX11_agreed_8
set_option maxHeartbeats 4000000 in
set_option maxRecDepth 100000 in
theorem c_X11_alone (l : Launch) (D : va_G) (cy : Nat → ClassId) (sz : Nat) (x : Nat) (p0 : Int32) (b : Nat) (im : Nat) (la : Nat) (cu : Nat) (wa : Nat) (pa : Nat) (dr : Nat) (su : Nat) (mk : Nat) (vi : Nat) (re : Nat) (rd : Nat) (so : Nat) (fw : Nat) (wo : Nat) (gi : Nat) (to : Nat) (ro : Nat) (sl : Nat) (li : Nat) (ca : Nat) (ho : Nat) (ta : Nat) (hc : Nat)  : Met l yX11_alone (tl_w yX11_alone cX11_alone 4 (some .int)) ({ frames := 2, cells := 0, slots := 0, locals := 44 }) (va_Pc [.ref x, .int p0] (tl_P D cy [(x, .inr (11, [.ref b, .ref im, .ref la, .ref cu, .ref wa, .ref pa, .ref dr, .ref su, .ref mk, .ref vi, .ref re, .ref rd, .ref so, .ref fw, .ref wo, .ref gi])), (b, .inr (0, [.int 0, .ref to, .ref ro, .ref sl, .ref li, .ref ca, .ref ho, .ref ta, .int 0])), (ho, .inr (6, [.int 8, .ref hc, .int 0])), (fw, .inl (cy 0, 8, .inl (fun _ => 0)))] sz)) (va_Qi (fun (r : Int32) (u : Unit) => tl_E r (0 ≤ p0.toInt ∧ p0.toInt ≤ 399) (-2) (-1)) (tl_B D (va_A [(x, .inr (11, [.ref b, .ref im, .ref la, .ref cu, .ref wa, .ref pa, .ref dr, .ref su, .ref mk, .ref vi, .ref re, .ref rd, .ref so, .ref fw, .ref wo, .ref gi])), (b, .inr (0, [.int 0, .ref to, .ref ro, .ref sl, .ref li, .ref ca, .ref ho, .ref ta, .int 0])), (ho, .inr (6, [.int 8, .ref hc, .int 0])), (fw, .inl (cy 0, 8, .inl (fun _ => 0)))] sz) (fun u : Unit => [])) (va_A [(x, .inr (11, [.ref b, .ref im, .ref la, .ref cu, .ref wa, .ref pa, .ref dr, .ref su, .ref mk, .ref vi, .ref re, .ref rd, .ref so, .ref fw, .ref wo, .ref gi])), (b, .inr (0, [.int 0, .ref to, .ref ro, .ref sl, .ref li, .ref ca, .ref ho, .ref ta, .int 0])), (ho, .inr (6, [.int 8, .ref hc, .int 0])), (fw, .inl (cy 0, 8, .inl (fun _ => 0)))] sz)) 0 0 (va_A [(x, .inr (11, [.ref b, .ref im, .ref la, .ref cu, .ref wa, .ref pa, .ref dr, .ref su, .ref mk, .ref vi, .ref re, .ref rd, .ref so, .ref fw, .ref wo, .ref gi])), (b, .inr (0, [.int 0, .ref to, .ref ro, .ref sl, .ref li, .ref ca, .ref ho, .ref ta, .int 0])), (ho, .inr (6, [.int 8, .ref hc, .int 0])), (fw, .inl (cy 0, 8, .inl (fun _ => 0)))] sz) := by
  refine Met.ofW (cc := cX11_alone) (maxL := 4) (ret := (some .int)) (by decide) rfl ?_
  intro p e s m args below meth c s₁ B hml hv
  obtain ⟨rfl, hsz, hP, hK, hD0, hN⟩ := hv
  have hx := B.exec
  have hb := B.bytes
  have hr := B.returns
  have hta := tl_hta (atoms_spec (ws := tl_w yX11_alone cX11_alone 4 (some .int)) B.pre)
  have hown : s.vm.findClass RX11 = some m.cls := findClass_of_methodNamed B.named
  have hlocks := B.notSynchronized
  subst hsz
  have hD := hD0.self (sz := s.heap.size)
  generalize hAe : va_A [(x, .inr (11, [.ref b, .ref im, .ref la, .ref cu, .ref wa, .ref pa, .ref dr, .ref su, .ref mk, .ref vi, .ref re, .ref rd, .ref so, .ref fw, .ref wo, .ref gi])), (b, .inr (0, [.int 0, .ref to, .ref ro, .ref sl, .ref li, .ref ca, .ref ho, .ref ta, .int 0])), (ho, .inr (6, [.int 8, .ref hc, .int 0])), (fw, .inl (cy 0, 8, .inl (fun _ => 0)))] s.heap.size = A at hD ⊢
  have hA : ∀ q : Nat, s.heap.size ≤ q → A q := fun q h => by rw [← hAe]; exact Or.inr h
  have hS : va_S A s.heap s.heap [] := va_S.rf
  have hP : va_P D vwCl [(x, .inr (11, [.ref b, .ref im, .ref la, .ref cu, .ref wa, .ref pa, .ref dr, .ref su, .ref mk, .ref vi, .ref re, .ref rd, .ref so, .ref fw, .ref wo, .ref gi])), (b, .inr (0, [.int 0, .ref to, .ref ro, .ref sl, .ref li, .ref ca, .ref ho, .ref ta, .int 0])), (ho, .inr (6, [.int 8, .ref hc, .int 0])), (fw, .inl (cy 0, 8, .inl (fun _ => 0)))] s.heap := hP
  have hl := lv_entry ([.ref x, .int p0]) (n := 4) (Nat.le_of_ble_eq_true rfl)
  rw [lg_entry_eq]
  generalize (lg_sl ([.ref x, .int p0]) ++ List.replicate (4 - (lg_sl ([.ref x, .int p0])).length) Slot.unset).toArray = ls at hl ⊢
  have hl : lv_has ls 4 [(0, .ref x), (1, .int p0)] := hl
  refine lv_iload_n hx hb dX11_alone_0 rfl (lv_at hl 1 rfl) ?_
  have hPc := hP.sub (ws' := []) [] rfl
  have hDc := hD.sub (ws' := []) [] (by decide) rfl
  refine tl_si (tl_rS (As := [.int p0]) (rest := []) ⟨hx, hb, hml, hown, hta⟩ hK hN hPc hDc lk_X11_94 (c_X11_isWeek l D cy s.heap.size p0 ) rfl rfl ⟨Nat.le_of_ble_eq_true rfl, Nat.le_of_ble_eq_true rfl⟩ rfl hl.1 rfl (Nat.le_of_ble_eq_true rfl) dX11_alone_1 ⟨Nat.le_of_ble_eq_true rfl, Nat.le_of_ble_eq_true rfl⟩) (fun r_2 hw_1 => ?_)
  have hw_1 : tl_E r_2 (0 ≤ p0.toInt ∧ p0.toInt ≤ 399) 1 0 := hw_1
  refine lv_if_ne (tgt := 9) hx hb dX11_alone_4 (by decide) (fun c_3 => ?_) (fun c_3 => ?_)
  · have c_3 := hw_1.t c_3
    refine lv_aload_n hx hb dX11_alone_9 rfl (lv_at hl 0 rfl) ?_
    refine tl_cv (wr := []) _ _ hP hD hS hA [0, 1, 2, 3] [] rfl rfl (by decide) (by decide) (tl_rV (As := []) (rest := []) ⟨hx, hb, hml, hown, hta⟩ hK hN hP hD (ci := 11) rfl 0 rfl lk_X11_426 (c_X11_findHouses l D cy s.heap.size x b im la cu wa pa dr su mk vi re rd so fw wo gi to ro sl li ca ho ta hc ) rfl rfl ⟨Nat.le_of_ble_eq_true rfl, Nat.le_of_ble_eq_true rfl⟩ rfl hl.1 rfl (Nat.le_of_ble_eq_true rfl) dX11_alone_10 ⟨Nat.le_of_ble_eq_true rfl, Nat.le_of_ble_eq_true rfl⟩) (fun u_6 H locs hw_4 hP hD hS => ?_)
    have hP : va_P D vwCl [(x, .inr (11, [.ref b, .ref im, .ref la, .ref cu, .ref wa, .ref pa, .ref dr, .ref su, .ref mk, .ref vi, .ref re, .ref rd, .ref so, .ref fw, .ref wo, .ref gi])), (b, .inr (0, [.int 0, .ref to, .ref ro, .ref sl, .ref li, .ref ca, .ref ho, .ref ta, .int 0])), (ho, .inr (6, [.int 8, .ref hc, .int 0])), (fw, .inl (cy 0, 8, .inl u_6))] H := hP
    have hD : va_D A [(x, .inr (11, [.ref b, .ref im, .ref la, .ref cu, .ref wa, .ref pa, .ref dr, .ref su, .ref mk, .ref vi, .ref re, .ref rd, .ref so, .ref fw, .ref wo, .ref gi])), (b, .inr (0, [.int 0, .ref to, .ref ro, .ref sl, .ref li, .ref ca, .ref ho, .ref ta, .int 0])), (ho, .inr (6, [.int 8, .ref hc, .int 0])), (fw, .inl (cy 0, 8, .inl u_6))] := hD
    refine W.widen (k := 0) (n := 0) (Nat.le_refl _) (Nat.le_refl _) ?_
    have hw_4 : ∀ j : Nat, j < 8 → u_6 j = 400 := hw_4
    refine lv_aload_n hx hb dX11_alone_13 rfl (lv_at hl 0 rfl) ?_
    refine lv_iload_n hx hb dX11_alone_14 rfl (lv_at hl 1 rfl) ?_
    have hPc := hP.sub (ws' := [(x, .inr (11, [.ref b, .ref im, .ref la, .ref cu, .ref wa, .ref pa, .ref dr, .ref su, .ref mk, .ref vi, .ref re, .ref rd, .ref so, .ref fw, .ref wo, .ref gi])), (fw, .inl (cy 0, 8, .inl u_6))]) [0, 3] rfl
    have hDc := hD.sub (ws' := [(x, .inr (11, [.ref b, .ref im, .ref la, .ref cu, .ref wa, .ref pa, .ref dr, .ref su, .ref mk, .ref vi, .ref re, .ref rd, .ref so, .ref fw, .ref wo, .ref gi])), (fw, .inl (cy 0, 8, .inl u_6))]) [0, 3] (by decide) rfl
    refine tl_si (tl_rV (As := [.int p0]) (rest := []) ⟨hx, hb, hml, hown, hta⟩ hK hN hPc hDc (ci := 11) rfl 0 rfl lk_X11_396 (c_X11_begunUpTo l D cy H.size x p0 b im la cu wa pa dr su mk vi re rd so fw wo gi u_6 hw_4 (by first | decide | omega | assumption)) rfl rfl ⟨Nat.le_of_ble_eq_true rfl, Nat.le_of_ble_eq_true rfl⟩ rfl hl.1 rfl (Nat.le_of_ble_eq_true rfl) dX11_alone_15 ⟨Nat.le_of_ble_eq_true rfl, Nat.le_of_ble_eq_true rfl⟩) (fun r_8 hw_7 => ?_)
    subst hw_7
    refine lv_iconst (v := 1) hx hb dX11_alone_18 (by decide) ?_
    refine lv_icmp_eq (tgt := 25) hx hb dX11_alone_19 (by decide) (fun c => absurd c (by decide)) (fun _ => ?_)
    refine lv_bipush (v := (-2)) hx hb dX11_alone_22 (by decide) ?_
    have hP9 := hP.sub (ws' := []) [] rfl
    have hD9 := hD.sub (ws' := []) [] (by decide) rfl
    exact W.iret (v := (-2)) hx hb hr (fun t ht hW => ⟨⟨_, (), rfl, (Or.inl ⟨by omega, rfl⟩), by rw [ht]; exact hP9, hD9⟩, hS.F ht⟩) hS.2.2 dX11_alone_24
  · have c_3 := hw_1.f c_3
    refine lv_iconst (v := (-1)) hx hb dX11_alone_7 (by decide) ?_
    have hP9 := hP.sub (ws' := []) [] rfl
    have hD9 := hD.sub (ws' := []) [] (by decide) rfl
    have hS : va_S A s.heap s.heap [] := hS
    exact W.iret (v := (-1)) hx hb hr (fun t ht hW => ⟨⟨_, (), rfl, (Or.inr ⟨by omega, rfl⟩), by rw [ht]; exact hP9, hD9⟩, hS.F ht⟩) hS.2.2 dX11_alone_8

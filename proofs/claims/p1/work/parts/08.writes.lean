set_option maxHeartbeats 4000000 in
set_option maxRecDepth 100000 in
theorem c_X11_clock (l : Launch) (D : va_G) (cy : Nat → ClassId) (sz : Nat) (x : Nat) (p0 : Int32) (b : Nat) (im : Nat) (la : Nat) (cu : Nat) (wa : Nat) (pa : Nat) (dr : Nat) (su : Nat) (mk : Nat) (vi : Nat) (re : Nat) (rd : Nat) (so : Nat) (fw : Nat) (wo : Nat) (gi : Nat) (to : Nat) (ro : Nat) (sl : Nat) (li : Nat) (ca : Nat) (ho : Nat) (ta : Nat)  : Met l yX11_clock (tl_w yX11_clock cX11_clock 2 (some .boolean)) ({ frames := 2, cells := 0, slots := 0, locals := 42 }) (va_Pc [.ref x, .int p0] (tl_P D cy [(x, .inr (11, [.ref b, .ref im, .ref la, .ref cu, .ref wa, .ref pa, .ref dr, .ref su, .ref mk, .ref vi, .ref re, .ref rd, .ref so, .ref fw, .ref wo, .ref gi])), (b, .inr (0, [.int 0, .ref to, .ref ro, .ref sl, .ref li, .ref ca, .ref ho, .ref ta, .int 0]))] sz)) (va_Qi (fun (r : Int32) (u : Unit) => tl_E r (0 ≤ p0.toInt ∧ p0.toInt ≤ 399) 1 0) (tl_B D (va_A [(x, .inr (11, [.ref b, .ref im, .ref la, .ref cu, .ref wa, .ref pa, .ref dr, .ref su, .ref mk, .ref vi, .ref re, .ref rd, .ref so, .ref fw, .ref wo, .ref gi])), (b, .inr (0, [.int 0, .ref to, .ref ro, .ref sl, .ref li, .ref ca, .ref ho, .ref ta, .int 0]))] sz) (fun u : Unit => [])) (va_A [(x, .inr (11, [.ref b, .ref im, .ref la, .ref cu, .ref wa, .ref pa, .ref dr, .ref su, .ref mk, .ref vi, .ref re, .ref rd, .ref so, .ref fw, .ref wo, .ref gi])), (b, .inr (0, [.int 0, .ref to, .ref ro, .ref sl, .ref li, .ref ca, .ref ho, .ref ta, .int 0]))] sz)) 0 0 (va_A [(x, .inr (11, [.ref b, .ref im, .ref la, .ref cu, .ref wa, .ref pa, .ref dr, .ref su, .ref mk, .ref vi, .ref re, .ref rd, .ref so, .ref fw, .ref wo, .ref gi])), (b, .inr (0, [.int 0, .ref to, .ref ro, .ref sl, .ref li, .ref ca, .ref ho, .ref ta, .int 0]))] sz) := by
  refine Met.ofW (cc := cX11_clock) (maxL := 2) (ret := (some .boolean)) (by decide) rfl ?_
  intro p e s m args below meth c s₁ B hml hv
  obtain ⟨rfl, hsz, hP, hK, hD0, hN⟩ := hv
  have hx := B.exec
  have hb := B.bytes
  have hr := B.returns
  have hta := tl_hta (atoms_spec (ws := tl_w yX11_clock cX11_clock 2 (some .boolean)) B.pre)
  have hown : s.vm.findClass RX11 = some m.cls := findClass_of_methodNamed B.named
  have hlocks := B.notSynchronized
  subst hsz
  have hD := hD0.self (sz := s.heap.size)
  generalize hAe : va_A [(x, .inr (11, [.ref b, .ref im, .ref la, .ref cu, .ref wa, .ref pa, .ref dr, .ref su, .ref mk, .ref vi, .ref re, .ref rd, .ref so, .ref fw, .ref wo, .ref gi])), (b, .inr (0, [.int 0, .ref to, .ref ro, .ref sl, .ref li, .ref ca, .ref ho, .ref ta, .int 0]))] s.heap.size = A at hD ⊢
  have hA : ∀ q : Nat, s.heap.size ≤ q → A q := fun q h => by rw [← hAe]; exact Or.inr h
  have hS : va_S A s.heap s.heap [] := va_S.rf
  have hP : va_P D vwCl [(x, .inr (11, [.ref b, .ref im, .ref la, .ref cu, .ref wa, .ref pa, .ref dr, .ref su, .ref mk, .ref vi, .ref re, .ref rd, .ref so, .ref fw, .ref wo, .ref gi])), (b, .inr (0, [.int 0, .ref to, .ref ro, .ref sl, .ref li, .ref ca, .ref ho, .ref ta, .int 0]))] s.heap := hP
  have hl := lv_entry ([.ref x, .int p0]) (n := 2) (Nat.le_of_ble_eq_true rfl)
  rw [lg_entry_eq]
  generalize (lg_sl ([.ref x, .int p0]) ++ List.replicate (2 - (lg_sl ([.ref x, .int p0])).length) Slot.unset).toArray = ls at hl ⊢
  have hl : lv_has ls 2 [(0, .ref x), (1, .int p0)] := hl
  refine lv_iload_n hx hb dX11_clock_0 rfl (lv_at hl 1 rfl) ?_
  have hPc := hP.sub (ws' := []) [] rfl
  have hDc := hD.sub (ws' := []) [] (by decide) rfl
  refine tl_si (tl_rS (As := [.int p0]) (rest := []) ⟨hx, hb, hml, hown, hta⟩ hK hN hPc hDc lk_X11_94 (c_X11_isWeek l D cy s.heap.size p0 ) rfl rfl ⟨Nat.le_of_ble_eq_true rfl, Nat.le_of_ble_eq_true rfl⟩ rfl hl.1 rfl (Nat.le_of_ble_eq_true rfl) dX11_clock_1 ⟨Nat.le_of_ble_eq_true rfl, Nat.le_of_ble_eq_true rfl⟩) (fun r_2 hw_1 => ?_)
  have hw_1 : tl_E r_2 (0 ≤ p0.toInt ∧ p0.toInt ≤ 399) 1 0 := hw_1
  refine lv_if_eq (tgt := 18) hx hb dX11_clock_4 (by decide) (fun c_3 => ?_) (fun c_3 => ?_)
  · have c_3 := hw_1.f c_3
    refine lv_iconst (v := 0) hx hb dX11_clock_18 (by decide) ?_
    have hP9 := hP.sub (ws' := []) [] rfl
    have hD9 := hD.sub (ws' := []) [] (by decide) rfl
    have hS : va_S A s.heap s.heap [] := hS
    exact W.zret (ty := .boolean) (v := 0) hx hb hr rfl (fun t ht hW => ⟨⟨_, (), rfl, (Or.inr ⟨by omega, rfl⟩), by rw [ht]; exact hP9, hD9⟩, hS.F ht⟩) hS.2.2 dX11_clock_19
  · have c_3 := hw_1.t c_3
    refine lv_iload_n hx hb dX11_clock_7 rfl (lv_at hl 1 rfl) ?_
    refine lv_aload_n hx hb dX11_clock_8 rfl (lv_at hl 0 rfl) ?_
    refine va_get (D := D) (ci := 11) (v := .ref b) (C := RX11) (T := TX11) (N := 16) hx hb hta inlX11 hown hK hP 0 rfl rfl 0 (by decide) (hta _ wk_15) (fun _ h9 => h9) rfl dX11_clock_9 ?_
    refine va_getN (D := D) (ci := 0) (v := .int 0) (C := RX0) (T := TX0) (N := 9) hx hb hta inlX0 hown hK hP 1 rfl rfl 0 (by decide) (va_Nw.use rfl (hN.1 16 _ nk_16)) (fun _ h9 => h9) rfl dX11_clock_12 ?_
    refine lv_icmp_ge (tgt := 20) hx hb dX11_clock_15 (by decide) (fun c_4 => ?_) (fun c_4 => ?_)
    · have c_4 : (0 : Int) ≤ p0.toInt := tl_le c_4
      refine lv_aload_n hx hb dX11_clock_20 rfl (lv_at hl 0 rfl) ?_
      refine va_get (D := D) (ci := 11) (v := .ref b) (C := RX11) (T := TX11) (N := 16) hx hb hta inlX11 hown hK hP 0 rfl rfl 0 (by decide) (hta _ wk_15) (fun _ h9 => h9) rfl dX11_clock_21 ?_
      refine lv_iload_n hx hb dX11_clock_24 rfl (lv_at hl 1 rfl) ?_
      refine va_putN (D := D) (ci := 0) (v := .int p0) (ty := tyX0 0) (C := RX0) (T := TX0) (N := 9) hx hb hta inlX0 tyX0 tyX0_ok nmX0 hown hK hP hD hS 1 rfl rfl 0 (by decide) (va_Nw.use rfl (hN.1 16 _ nk_16)) (fun _ h9 => h9) rfl (tyX0_ok 0 (by decide)) rfl rfl (Nat.le_of_ble_eq_true rfl) dX11_clock_25 (fun H locs hP hD hS => ?_)
      have hP : va_P D vwCl [(x, .inr (11, [.ref b, .ref im, .ref la, .ref cu, .ref wa, .ref pa, .ref dr, .ref su, .ref mk, .ref vi, .ref re, .ref rd, .ref so, .ref fw, .ref wo, .ref gi])), (b, .inr (0, [.int p0, .ref to, .ref ro, .ref sl, .ref li, .ref ca, .ref ho, .ref ta, .int 0]))] H := hP
      have hD : va_D A [(x, .inr (11, [.ref b, .ref im, .ref la, .ref cu, .ref wa, .ref pa, .ref dr, .ref su, .ref mk, .ref vi, .ref re, .ref rd, .ref so, .ref fw, .ref wo, .ref gi])), (b, .inr (0, [.int p0, .ref to, .ref ro, .ref sl, .ref li, .ref ca, .ref ho, .ref ta, .int 0]))] := hD
      refine lv_iconst (v := 1) hx hb dX11_clock_28 (by decide) ?_
      have hP9 := hP.sub (ws' := []) [] rfl
      have hD9 := hD.sub (ws' := []) [] (by decide) rfl
      exact W.zret (ty := .boolean) (v := 1) hx hb hr rfl (fun t ht hW => ⟨⟨_, (), rfl, (Or.inl ⟨by omega, rfl⟩), by rw [ht]; exact hP9, hD9⟩, hS.F ht⟩) hS.2.2 dX11_clock_29
    · have c_4 : p0.toInt < (0 : Int) := tl_nle c_4
      exfalso; omega
set_option maxHeartbeats 4000000 in
set_option maxRecDepth 100000 in
theorem c_X11_end (l : Launch) (D : va_G) (cy : Nat → ClassId) (sz : Nat) (x : Nat) (p0 : Int32) (b : Nat) (im : Nat) (la : Nat) (cu : Nat) (wa : Nat) (pa : Nat) (dr : Nat) (su : Nat) (mk : Nat) (vi : Nat) (re : Nat) (rd : Nat) (so : Nat) (fw : Nat) (wo : Nat) (gi : Nat) (to : Nat) (ro : Nat) (sl : Nat) (li : Nat) (ca : Nat) (ho : Nat) (ta : Nat)  : Met l yX11_end (tl_w yX11_end cX11_end 2 (some .int)) ({ frames := 1, cells := 0, slots := 0, locals := 22 }) (va_Pc [.ref x, .int p0] (tl_P D cy [(x, .inr (11, [.ref b, .ref im, .ref la, .ref cu, .ref wa, .ref pa, .ref dr, .ref su, .ref mk, .ref vi, .ref re, .ref rd, .ref so, .ref fw, .ref wo, .ref gi])), (b, .inr (0, [.int 0, .ref to, .ref ro, .ref sl, .ref li, .ref ca, .ref ho, .ref ta, .int 0]))] sz)) (va_Qi (fun (r : Int32) (u : Unit) => tl_E r (p0.toInt = 0) p0 (-1)) (tl_B D (va_A [(x, .inr (11, [.ref b, .ref im, .ref la, .ref cu, .ref wa, .ref pa, .ref dr, .ref su, .ref mk, .ref vi, .ref re, .ref rd, .ref so, .ref fw, .ref wo, .ref gi])), (b, .inr (0, [.int 0, .ref to, .ref ro, .ref sl, .ref li, .ref ca, .ref ho, .ref ta, .int 0]))] sz) (fun u : Unit => [])) (va_A [(x, .inr (11, [.ref b, .ref im, .ref la, .ref cu, .ref wa, .ref pa, .ref dr, .ref su, .ref mk, .ref vi, .ref re, .ref rd, .ref so, .ref fw, .ref wo, .ref gi])), (b, .inr (0, [.int 0, .ref to, .ref ro, .ref sl, .ref li, .ref ca, .ref ho, .ref ta, .int 0]))] sz)) 0 0 (va_A [(x, .inr (11, [.ref b, .ref im, .ref la, .ref cu, .ref wa, .ref pa, .ref dr, .ref su, .ref mk, .ref vi, .ref re, .ref rd, .ref so, .ref fw, .ref wo, .ref gi])), (b, .inr (0, [.int 0, .ref to, .ref ro, .ref sl, .ref li, .ref ca, .ref ho, .ref ta, .int 0]))] sz) := by
  refine Met.ofW (cc := cX11_end) (maxL := 2) (ret := (some .int)) (by decide) rfl ?_
  intro p e s m args below meth c s₁ B hml hv
  obtain ⟨rfl, hsz, hP, hK, hD0, hN⟩ := hv
  have hx := B.exec
  have hb := B.bytes
  have hr := B.returns
  have hta := tl_hta (atoms_spec (ws := tl_w yX11_end cX11_end 2 (some .int)) B.pre)
  have hown : s.vm.findClass RX11 = some m.cls := findClass_of_methodNamed B.named
  have hlocks := B.notSynchronized
  subst hsz
  have hD := hD0.self (sz := s.heap.size)
  generalize hAe : va_A [(x, .inr (11, [.ref b, .ref im, .ref la, .ref cu, .ref wa, .ref pa, .ref dr, .ref su, .ref mk, .ref vi, .ref re, .ref rd, .ref so, .ref fw, .ref wo, .ref gi])), (b, .inr (0, [.int 0, .ref to, .ref ro, .ref sl, .ref li, .ref ca, .ref ho, .ref ta, .int 0]))] s.heap.size = A at hD ⊢
  have hA : ∀ q : Nat, s.heap.size ≤ q → A q := fun q h => by rw [← hAe]; exact Or.inr h
  have hS : va_S A s.heap s.heap [] := va_S.rf
  have hP : va_P D vwCl [(x, .inr (11, [.ref b, .ref im, .ref la, .ref cu, .ref wa, .ref pa, .ref dr, .ref su, .ref mk, .ref vi, .ref re, .ref rd, .ref so, .ref fw, .ref wo, .ref gi])), (b, .inr (0, [.int 0, .ref to, .ref ro, .ref sl, .ref li, .ref ca, .ref ho, .ref ta, .int 0]))] s.heap := hP
  have hl := lv_entry ([.ref x, .int p0]) (n := 2) (Nat.le_of_ble_eq_true rfl)
  rw [lg_entry_eq]
  generalize (lg_sl ([.ref x, .int p0]) ++ List.replicate (2 - (lg_sl ([.ref x, .int p0])).length) Slot.unset).toArray = ls at hl ⊢
  have hl : lv_has ls 2 [(0, .ref x), (1, .int p0)] := hl
  refine lv_iload_n hx hb dX11_end_0 rfl (lv_at hl 1 rfl) ?_
  refine lv_iconst (v := 0) hx hb dX11_end_1 (by decide) ?_
  refine lv_aload_n hx hb dX11_end_2 rfl (lv_at hl 0 rfl) ?_
  refine va_get (D := D) (ci := 11) (v := .ref b) (C := RX11) (T := TX11) (N := 16) hx hb hta inlX11 hown hK hP 0 rfl rfl 0 (by decide) (hta _ wk_15) (fun _ h9 => h9) rfl dX11_end_3 ?_
  refine va_getN (D := D) (ci := 0) (v := .int 0) (C := RX0) (T := TX0) (N := 9) hx hb hta inlX0 hown hK hP 1 rfl rfl 8 (by decide) (va_Nw.use rfl (hN.1 26 _ nk_26)) (fun _ h9 => h9) rfl dX11_end_6 ?_
  have hPc := hP.sub (ws' := []) [] rfl
  have hDc := hD.sub (ws' := []) [] (by decide) rfl
  refine tl_si (tl_rS (As := [.int p0, .int 0, .int 0]) (rest := []) ⟨hx, hb, hml, hown, hta⟩ hK hN hPc hDc lk_X11_105 (c_X11_isIn l D cy s.heap.size p0 0 0 ) rfl rfl ⟨Nat.le_of_ble_eq_true rfl, Nat.le_of_ble_eq_true rfl⟩ rfl hl.1 rfl (Nat.le_of_ble_eq_true rfl) dX11_end_9 ⟨Nat.le_of_ble_eq_true rfl, Nat.le_of_ble_eq_true rfl⟩) (fun r_2 hw_1 => ?_)
  have hw_1 : tl_E r_2 ((0 : Int) ≤ p0.toInt ∧ p0.toInt ≤ (0 : Int)) 1 0 := hw_1
  refine lv_if_ne (tgt := 17) hx hb dX11_end_12 (by decide) (fun c_3 => ?_) (fun c_3 => ?_)
  · have c_3 := hw_1.t c_3
    refine lv_aload_n hx hb dX11_end_17 rfl (lv_at hl 0 rfl) ?_
    refine va_get (D := D) (ci := 11) (v := .ref b) (C := RX11) (T := TX11) (N := 16) hx hb hta inlX11 hown hK hP 0 rfl rfl 0 (by decide) (hta _ wk_15) (fun _ h9 => h9) rfl dX11_end_18 ?_
    refine lv_iload_n hx hb dX11_end_21 rfl (lv_at hl 1 rfl) ?_
    refine va_putN (D := D) (ci := 0) (v := .int p0) (ty := tyX0 8) (C := RX0) (T := TX0) (N := 9) hx hb hta inlX0 tyX0 tyX0_ok nmX0 hown hK hP hD hS 1 rfl rfl 8 (by decide) (va_Nw.use rfl (hN.1 26 _ nk_26)) (fun _ h9 => h9) rfl (tyX0_ok 8 (by decide)) rfl rfl (Nat.le_of_ble_eq_true rfl) dX11_end_22 (fun H locs hP hD hS => ?_)
    have hP : va_P D vwCl [(x, .inr (11, [.ref b, .ref im, .ref la, .ref cu, .ref wa, .ref pa, .ref dr, .ref su, .ref mk, .ref vi, .ref re, .ref rd, .ref so, .ref fw, .ref wo, .ref gi])), (b, .inr (0, [.int 0, .ref to, .ref ro, .ref sl, .ref li, .ref ca, .ref ho, .ref ta, .int p0]))] H := hP
    have hD : va_D A [(x, .inr (11, [.ref b, .ref im, .ref la, .ref cu, .ref wa, .ref pa, .ref dr, .ref su, .ref mk, .ref vi, .ref re, .ref rd, .ref so, .ref fw, .ref wo, .ref gi])), (b, .inr (0, [.int 0, .ref to, .ref ro, .ref sl, .ref li, .ref ca, .ref ho, .ref ta, .int p0]))] := hD
    refine lv_iload_n hx hb dX11_end_25 rfl (lv_at hl 1 rfl) ?_
    have hP9 := hP.sub (ws' := []) [] rfl
    have hD9 := hD.sub (ws' := []) [] (by decide) rfl
    exact W.iret (v := p0) hx hb hr (fun t ht hW => ⟨⟨_, (), rfl, (by first | exact Or.inl ⟨by omega, rfl⟩ | exact Or.inr ⟨by omega, rfl⟩), by rw [ht]; exact hP9, hD9⟩, hS.F ht⟩) hS.2.2 dX11_end_26
  · have c_3 := hw_1.f c_3
    refine lv_iconst (v := (-1)) hx hb dX11_end_15 (by decide) ?_
    have hP9 := hP.sub (ws' := []) [] rfl
    have hD9 := hD.sub (ws' := []) [] (by decide) rfl
    have hS : va_S A s.heap s.heap [] := hS
    exact W.iret (v := (-1)) hx hb hr (fun t ht hW => ⟨⟨_, (), rfl, (Or.inr ⟨by omega, rfl⟩), by rw [ht]; exact hP9, hD9⟩, hS.F ht⟩) hS.2.2 dX11_end_16
set_option maxHeartbeats 4000000 in
set_option maxRecDepth 100000 in
theorem c_X11_told (l : Launch) (D : va_G) (cy : Nat → ClassId) (sz : Nat) (x : Nat) (p0 : Int32) (p1 : Int32) (b : Nat) (im : Nat) (la : Nat) (cu : Nat) (wa : Nat) (pa : Nat) (dr : Nat) (su : Nat) (mk : Nat) (vi : Nat) (re : Nat) (rd : Nat) (so : Nat) (fw : Nat) (wo : Nat) (gi : Nat) (to : Nat) (ro : Nat) (sl : Nat) (li : Nat) (ca : Nat) (ho : Nat) (ta : Nat)  : Met l yX11_told (tl_w yX11_told cX11_told 4 (some .int)) ({ frames := 1, cells := 0, slots := 0, locals := 22 }) (va_Pc [.ref x, .int p0, .int p1] (tl_P D cy [(x, .inr (11, [.ref b, .ref im, .ref la, .ref cu, .ref wa, .ref pa, .ref dr, .ref su, .ref mk, .ref vi, .ref re, .ref rd, .ref so, .ref fw, .ref wo, .ref gi])), (b, .inr (0, [.int 0, .ref to, .ref ro, .ref sl, .ref li, .ref ca, .ref ho, .ref ta, .int 0])), (to, .inl (cy 0, 4, .inl (fun _ => 0)))] sz)) (va_Qi (fun (r : Int32) (u : Unit) => tl_E r (0 ≤ p0.toInt ∧ p0.toInt ≤ 3 ∧ 0 ≤ p1.toInt ∧ p1.toInt ≤ 9999) 0 (-1)) (tl_B D (va_A [(x, .inr (11, [.ref b, .ref im, .ref la, .ref cu, .ref wa, .ref pa, .ref dr, .ref su, .ref mk, .ref vi, .ref re, .ref rd, .ref so, .ref fw, .ref wo, .ref gi])), (b, .inr (0, [.int 0, .ref to, .ref ro, .ref sl, .ref li, .ref ca, .ref ho, .ref ta, .int 0])), (to, .inl (cy 0, 4, .inl (fun _ => 0)))] sz) (fun u : Unit => [])) (va_A [(x, .inr (11, [.ref b, .ref im, .ref la, .ref cu, .ref wa, .ref pa, .ref dr, .ref su, .ref mk, .ref vi, .ref re, .ref rd, .ref so, .ref fw, .ref wo, .ref gi])), (b, .inr (0, [.int 0, .ref to, .ref ro, .ref sl, .ref li, .ref ca, .ref ho, .ref ta, .int 0])), (to, .inl (cy 0, 4, .inl (fun _ => 0)))] sz)) 0 0 (va_A [(x, .inr (11, [.ref b, .ref im, .ref la, .ref cu, .ref wa, .ref pa, .ref dr, .ref su, .ref mk, .ref vi, .ref re, .ref rd, .ref so, .ref fw, .ref wo, .ref gi])), (b, .inr (0, [.int 0, .ref to, .ref ro, .ref sl, .ref li, .ref ca, .ref ho, .ref ta, .int 0])), (to, .inl (cy 0, 4, .inl (fun _ => 0)))] sz) := by
  refine Met.ofW (cc := cX11_told) (maxL := 4) (ret := (some .int)) (by decide) rfl ?_
  intro p e s m args below meth c s₁ B hml hv
  obtain ⟨rfl, hsz, hP, hK, hD0, hN⟩ := hv
  have hx := B.exec
  have hb := B.bytes
  have hr := B.returns
  have hta := tl_hta (atoms_spec (ws := tl_w yX11_told cX11_told 4 (some .int)) B.pre)
  have hown : s.vm.findClass RX11 = some m.cls := findClass_of_methodNamed B.named
  have hlocks := B.notSynchronized
  subst hsz
  have hD := hD0.self (sz := s.heap.size)
  generalize hAe : va_A [(x, .inr (11, [.ref b, .ref im, .ref la, .ref cu, .ref wa, .ref pa, .ref dr, .ref su, .ref mk, .ref vi, .ref re, .ref rd, .ref so, .ref fw, .ref wo, .ref gi])), (b, .inr (0, [.int 0, .ref to, .ref ro, .ref sl, .ref li, .ref ca, .ref ho, .ref ta, .int 0])), (to, .inl (cy 0, 4, .inl (fun _ => 0)))] s.heap.size = A at hD ⊢
  have hA : ∀ q : Nat, s.heap.size ≤ q → A q := fun q h => by rw [← hAe]; exact Or.inr h
  have hS : va_S A s.heap s.heap [] := va_S.rf
  have hP : va_P D vwCl [(x, .inr (11, [.ref b, .ref im, .ref la, .ref cu, .ref wa, .ref pa, .ref dr, .ref su, .ref mk, .ref vi, .ref re, .ref rd, .ref so, .ref fw, .ref wo, .ref gi])), (b, .inr (0, [.int 0, .ref to, .ref ro, .ref sl, .ref li, .ref ca, .ref ho, .ref ta, .int 0])), (to, .inl (cy 0, 4, .inl (fun _ => 0)))] s.heap := hP
  have hl := lv_entry ([.ref x, .int p0, .int p1]) (n := 4) (Nat.le_of_ble_eq_true rfl)
  rw [lg_entry_eq]
  generalize (lg_sl ([.ref x, .int p0, .int p1]) ++ List.replicate (4 - (lg_sl ([.ref x, .int p0, .int p1])).length) Slot.unset).toArray = ls at hl ⊢
  have hl : lv_has ls 4 [(0, .ref x), (1, .int p0), (2, .int p1)] := hl
  refine lv_iload_n hx hb dX11_told_0 rfl (lv_at hl 1 rfl) ?_
  refine lv_iconst (v := 0) hx hb dX11_told_1 (by decide) ?_
  refine lv_aload_n hx hb dX11_told_2 rfl (lv_at hl 0 rfl) ?_
  refine va_get (D := D) (ci := 11) (v := .ref b) (C := RX11) (T := TX11) (N := 16) hx hb hta inlX11 hown hK hP 0 rfl rfl 0 (by decide) (hta _ wk_15) (fun _ h9 => h9) rfl dX11_told_3 ?_
  refine va_getN (D := D) (ci := 0) (v := .ref to) (C := RX0) (T := TX0) (N := 9) hx hb hta inlX0 hown hK hP 1 rfl rfl 1 (by decide) (va_Nw.use rfl (hN.1 19 _ nk_19)) (fun _ h9 => h9) rfl dX11_told_6 ?_
  refine va_alen (D := D) (v := 4) hx hb hK hP 2 0 rfl rfl rfl dX11_told_9 ?_
  refine lv_iconst (v := 1) hx hb dX11_told_10 (by decide) ?_
  refine lv_isub hx hb dX11_told_11 ?_
  refine lv_topi (fun z_1 ez_1 => ?_)
  obtain rfl : z_1 = (3 : Int32) := ez_1.trans (by decide)
  have hPc := hP.sub (ws' := []) [] rfl
  have hDc := hD.sub (ws' := []) [] (by decide) rfl
  refine tl_si (tl_rS (As := [.int p0, .int 0, .int 3]) (rest := []) ⟨hx, hb, hml, hown, hta⟩ hK hN hPc hDc lk_X11_105 (c_X11_isIn l D cy s.heap.size p0 0 3 ) rfl rfl ⟨Nat.le_of_ble_eq_true rfl, Nat.le_of_ble_eq_true rfl⟩ rfl hl.1 rfl (Nat.le_of_ble_eq_true rfl) dX11_told_12 ⟨Nat.le_of_ble_eq_true rfl, Nat.le_of_ble_eq_true rfl⟩) (fun r_3 hw_2 => ?_)
  have hw_2 : tl_E r_3 ((0 : Int) ≤ p0.toInt ∧ p0.toInt ≤ (3 : Int)) 1 0 := hw_2
  refine lv_if_eq (tgt := 29) hx hb dX11_told_15 (by decide) (fun c_4 => ?_) (fun c_4 => ?_)
  · have c_4 := hw_2.f c_4
    refine lv_iconst (v := (-1)) hx hb dX11_told_29 (by decide) ?_
    have hP9 := hP.sub (ws' := []) [] rfl
    have hD9 := hD.sub (ws' := []) [] (by decide) rfl
    have hS : va_S A s.heap s.heap [] := hS
    exact W.iret (v := (-1)) hx hb hr (fun t ht hW => ⟨⟨_, (), rfl, (Or.inr ⟨by omega, rfl⟩), by rw [ht]; exact hP9, hD9⟩, hS.F ht⟩) hS.2.2 dX11_told_30
  · have c_4 := hw_2.t c_4
    refine lv_iload_n hx hb dX11_told_18 rfl (lv_at hl 2 rfl) ?_
    refine lv_iconst (v := 0) hx hb dX11_told_19 (by decide) ?_
    refine lv_sipush (v := 9999) hx hb dX11_told_20 (by decide) ?_
    have hPc := hP.sub (ws' := []) [] rfl
    have hDc := hD.sub (ws' := []) [] (by decide) rfl
    refine tl_si (tl_rS (As := [.int p1, .int 0, .int 9999]) (rest := []) ⟨hx, hb, hml, hown, hta⟩ hK hN hPc hDc lk_X11_105 (c_X11_isIn l D cy s.heap.size p1 0 9999 ) rfl rfl ⟨Nat.le_of_ble_eq_true rfl, Nat.le_of_ble_eq_true rfl⟩ rfl hl.1 rfl (Nat.le_of_ble_eq_true rfl) dX11_told_23 ⟨Nat.le_of_ble_eq_true rfl, Nat.le_of_ble_eq_true rfl⟩) (fun r_6 hw_5 => ?_)
    have hw_5 : tl_E r_6 ((0 : Int) ≤ p1.toInt ∧ p1.toInt ≤ (9999 : Int)) 1 0 := hw_5
    refine lv_if_ne (tgt := 31) hx hb dX11_told_26 (by decide) (fun c_7 => ?_) (fun c_7 => ?_)
    · have c_7 := hw_5.t c_7
      refine lv_aload_n hx hb dX11_told_31 rfl (lv_at hl 0 rfl) ?_
      refine va_get (D := D) (ci := 11) (v := .ref b) (C := RX11) (T := TX11) (N := 16) hx hb hta inlX11 hown hK hP 0 rfl rfl 0 (by decide) (hta _ wk_15) (fun _ h9 => h9) rfl dX11_told_32 ?_
      refine va_getN (D := D) (ci := 0) (v := .ref to) (C := RX0) (T := TX0) (N := 9) hx hb hta inlX0 hown hK hP 1 rfl rfl 1 (by decide) (va_Nw.use rfl (hN.1 19 _ nk_19)) (fun _ h9 => h9) rfl dX11_told_35 ?_
      refine lv_iload_n hx hb dX11_told_38 rfl (lv_at hl 1 rfl) ?_
      refine va_iald (D := D) hx hb hK hP 2 0 rfl rfl (tl_in (by omega) (by omega)) dX11_told_39 ?_
      refine W.eq (g2 := F0 m 40 ls ([.int 0])) rfl ?_
      refine lv_istore_n (lv' := [(3, .int 0), (0, .ref x), (1, .int p0), (2, .int p1)]) hx hb dX11_told_40 rfl hl (by decide) rfl (fun ls hl => ?_)
      refine lv_aload_n hx hb dX11_told_41 rfl (lv_at hl 1 rfl) ?_
      refine va_get (D := D) (ci := 11) (v := .ref b) (C := RX11) (T := TX11) (N := 16) hx hb hta inlX11 hown hK hP 0 rfl rfl 0 (by decide) (hta _ wk_15) (fun _ h9 => h9) rfl dX11_told_42 ?_
      refine va_getN (D := D) (ci := 0) (v := .ref to) (C := RX0) (T := TX0) (N := 9) hx hb hta inlX0 hown hK hP 1 rfl rfl 1 (by decide) (va_Nw.use rfl (hN.1 19 _ nk_19)) (fun _ h9 => h9) rfl dX11_told_45 ?_
      refine lv_iload_n hx hb dX11_told_48 rfl (lv_at hl 2 rfl) ?_
      refine lv_iload_n hx hb dX11_told_49 rfl (lv_at hl 3 rfl) ?_
      refine va_iast (D := D) hx hb hK hP hD hS 2 0 rfl rfl (tl_in (by omega) (by omega)) dX11_told_50 (fun H locs hP hD hS => ?_)
      have hP : va_P D vwCl [(x, .inr (11, [.ref b, .ref im, .ref la, .ref cu, .ref wa, .ref pa, .ref dr, .ref su, .ref mk, .ref vi, .ref re, .ref rd, .ref so, .ref fw, .ref wo, .ref gi])), (b, .inr (0, [.int 0, .ref to, .ref ro, .ref sl, .ref li, .ref ca, .ref ho, .ref ta, .int 0])), (to, .inl (cy 0, 4, .inl (upd (fun _ => 0) p0.toNatClampNeg p1)))] H := hP
      have hD : va_D A [(x, .inr (11, [.ref b, .ref im, .ref la, .ref cu, .ref wa, .ref pa, .ref dr, .ref su, .ref mk, .ref vi, .ref re, .ref rd, .ref so, .ref fw, .ref wo, .ref gi])), (b, .inr (0, [.int 0, .ref to, .ref ro, .ref sl, .ref li, .ref ca, .ref ho, .ref ta, .int 0])), (to, .inl (cy 0, 4, .inl (upd (fun _ => 0) p0.toNatClampNeg p1)))] := hD
      generalize (upd (fun _ => 0) p0.toNatClampNeg p1) = f_8 at hP hD
      refine lv_iload_n hx hb dX11_told_51 rfl (lv_at hl 0 rfl) ?_
      have hP9 := hP.sub (ws' := []) [] rfl
      have hD9 := hD.sub (ws' := []) [] (by decide) rfl
      exact W.iret (v := 0) hx hb hr (fun t ht hW => ⟨⟨_, (), rfl, (Or.inl ⟨by omega, rfl⟩), by rw [ht]; exact hP9, hD9⟩, hS.F ht⟩) hS.2.2 dX11_told_52
    · have c_7 := hw_5.f c_7
      refine lv_iconst (v := (-1)) hx hb dX11_told_29 (by decide) ?_
      have hP9 := hP.sub (ws' := []) [] rfl
      have hD9 := hD.sub (ws' := []) [] (by decide) rfl
      have hS : va_S A s.heap s.heap [] := hS
      exact W.iret (v := (-1)) hx hb hr (fun t ht hW => ⟨⟨_, (), rfl, (Or.inr ⟨by omega, rfl⟩), by rw [ht]; exact hP9, hD9⟩, hS.F ht⟩) hS.2.2 dX11_told_30
set_option maxHeartbeats 4000000 in
set_option maxRecDepth 100000 in
theorem c_fill (l : Launch) (D : va_G) (cy : Nat → ClassId) (sz : Nat) (n : Nat) (a : Nat) (p0 : Int32) (f : Nat → Int32) (hn : n ≤ 1000) : Met l yJ7_fill_53178 (tl_w yJ7_fill_53178 cJ7_fill_53178 4 none) ({ frames := 0, cells := 0, slots := 0, locals := 0 }) (va_Pc [.ref a, .int p0] (tl_P D cy [(a, .inl (cy 0, n, .inl f))] sz)) (va_Qv (fun (u : Nat → Int32) => ∀ j : Nat, j < n → u j = p0) (tl_B D (va_A [(a, .inl (cy 0, n, .inl f))] sz) (fun u : Nat → Int32 => [(a, .inl (cy 0, n, .inl u))])) (va_A [(a, .inl (cy 0, n, .inl f))] sz)) 0 0 (va_A [(a, .inl (cy 0, n, .inl f))] sz) := by
  refine Met.ofW (cc := cJ7_fill_53178) (maxL := 4) (ret := none) (by decide) rfl ?_
  intro p e s m args below meth c s₁ B hml hv
  obtain ⟨rfl, hsz, hP, hK, hD0, hN⟩ := hv
  have hx := B.exec
  have hb := B.bytes
  have hr := B.returns
  have hta := tl_hta (atoms_spec (ws := tl_w yJ7_fill_53178 cJ7_fill_53178 4 none) B.pre)
  have hown : s.vm.findClass RJ7 = some m.cls := findClass_of_methodNamed B.named
  have hlocks := B.notSynchronized
  subst hsz
  have hD := hD0.self (sz := s.heap.size)
  generalize hAe : va_A [(a, .inl (cy 0, n, .inl f))] s.heap.size = A at hD ⊢
  have hA : ∀ q : Nat, s.heap.size ≤ q → A q := fun q h => by rw [← hAe]; exact Or.inr h
  have hS : va_S A s.heap s.heap [] := va_S.rf
  have hP : va_P D vwCl [(a, .inl (cy 0, n, .inl f))] s.heap := hP
  have hl := lv_entry ([.ref a, .int p0]) (n := 4) (Nat.le_of_ble_eq_true rfl)
  rw [lg_entry_eq]
  generalize (lg_sl ([.ref a, .int p0]) ++ List.replicate (4 - (lg_sl ([.ref a, .int p0])).length) Slot.unset).toArray = ls at hl ⊢
  have hl : lv_has ls 4 [(0, .ref a), (1, .int p0)] := hl
  have hnn : (nI n).toInt = (n : Int) := nI_toInt (by omega)
  refine lv_iconst (v := 0) hx hb dJ7_fill_53178_0 (by decide) ?_
  refine lv_istore_n (lv' := [(2, .int 0), (0, .ref a), (1, .int p0)]) hx hb dJ7_fill_53178_1 rfl hl (by decide) rfl (fun ls hl => ?_)
  refine lv_aload_n hx hb dJ7_fill_53178_2 rfl (lv_at hl 1 rfl) ?_
  refine va_alen (D := D) (v := nI n) hx hb hK hP 0 0 rfl rfl rfl dJ7_fill_53178_3 ?_
  refine lv_istore_n (lv' := [(3, .int (nI n)), (2, .int 0), (0, .ref a), (1, .int p0)]) hx hb dJ7_fill_53178_4 rfl hl (by decide) rfl (fun ls hl => ?_)
  refine tl_start hP hD hS (fun H locs hP hD hS => ?_)
  refine tl_ind (G := fun H locs ls => W p l e ((headSpec (tl_w yJ7_fill_53178 cJ7_fill_53178 4 none) ({ frames := 0, cells := 0, slots := 0, locals := 0 })).room) s m #[.ref a, .int p0] below meth c H locs 0 0 (MQ below (va_Qv (fun (u : Nat → Int32) => ∀ j : Nat, j < n → u j = p0) (tl_B D A (fun u : Nat → Int32 => [(a, .inl (cy 0, n, .inl u))])) A) #[.ref a, .int p0] s 0 0 A) (F0 m 5 ls [])) (α := Int32 × (Nat → Int32)) (fun aq => (n - aq.1.toInt).toNat) (fun aq H locs ls => (0 ≤ aq.1.toInt) ∧ (aq.1.toInt ≤ n) ∧ (∀ j : Nat, (j : Int) < aq.1.toInt → aq.2 j = p0) ∧ va_P D vwCl [(a, .inl (cy 0, n, .inl aq.2))] H ∧ va_D A [(a, .inl (cy 0, n, .inl aq.2))] ∧ va_S A s.heap H locs ∧ lv_has ls 4 [(2, .int aq.1), (0, .ref a), (1, .int p0), (3, .int (nI n))]) ?_ (0, f) H locs ls ⟨(show 0 ≤ (0 : Int) from (by decide)), (show (0 : Int) ≤ n from (by omega)), (show ∀ j : Nat, (j : Int) < (0 : Int) → f j = p0 from (fun j hj => absurd hj (by omega))), hP, hD, hS, lv_sub hl [1, 2, 3, 0] rfl⟩
  rintro ⟨i, f1⟩ H locs ls ⟨h0, h1, hv, hP, hD, hS, hl⟩ ih
  have hP : va_P D vwCl [(a, .inl (cy 0, n, .inl f1))] H := hP
  have hD : va_D A [(a, .inl (cy 0, n, .inl f1))] := hD
  have h0 : 0 ≤ i.toInt := h0
  have h1 : i.toInt ≤ n := h1
  have hv : ∀ j : Nat, (j : Int) < i.toInt → f1 j = p0 := hv
  have hl : lv_has ls 4 [(2, .int i), (0, .ref a), (1, .int p0), (3, .int (nI n))] := hl
  refine lv_iload_n hx hb dJ7_fill_53178_5 rfl (lv_at hl 0 rfl) ?_
  refine lv_iload_n hx hb dJ7_fill_53178_6 rfl (lv_at hl 3 rfl) ?_
  refine lv_icmp_ge (tgt := 20) hx hb dJ7_fill_53178_7 (by decide) (fun c_1 => ?_) (fun c_1 => ?_)
  · have c_1 : (nI n).toInt ≤ i.toInt := tl_le c_1
    have hP9 := hP.sub (ws' := [(a, .inl (cy 0, n, .inl f1))]) [0] rfl
    have hD9 := hD.sub (ws' := [(a, .inl (cy 0, n, .inl f1))]) [0] (by decide) rfl
    exact W.vret hx hb hr (fun t ht hW => ⟨⟨f1, rfl, (fun j hj => hv j (by omega)), by rw [ht]; exact hP9, hD9⟩, hS.F ht⟩) hS.2.2 dJ7_fill_53178_20
  · have c_1 : i.toInt < (nI n).toInt := tl_nle c_1
    refine lv_aload_n hx hb dJ7_fill_53178_10 rfl (lv_at hl 1 rfl) ?_
    refine lv_iload_n hx hb dJ7_fill_53178_11 rfl (lv_at hl 0 rfl) ?_
    refine lv_iload_n hx hb dJ7_fill_53178_12 rfl (lv_at hl 2 rfl) ?_
    refine va_iast (D := D) hx hb hK hP hD hS 0 0 rfl rfl (tl_in (by omega) (by omega)) dJ7_fill_53178_13 (fun H locs hP hD hS => ?_)
    have hP : va_P D vwCl [(a, .inl (cy 0, n, .inl (upd f1 i.toNatClampNeg p0)))] H := hP
    have hD : va_D A [(a, .inl (cy 0, n, .inl (upd f1 i.toNatClampNeg p0)))] := hD
    obtain ⟨z_2, ez_2⟩ : ∃ y : Int32, y = i + 1 := ⟨_, rfl⟩
    refine lv_iinc (v := z_2) (lv' := [(2, .int z_2), (0, .ref a), (1, .int p0), (3, .int (nI n))]) hx hb dJ7_fill_53178_14 hl (k := 0) rfl (by rw [ez_2]; rfl) (by decide) rfl (fun ls hl => ?_)
    have iz_2 : z_2.toInt = i.toInt + 1 := by rw [ez_2]; exact tl_addL i 1 (by decide) (by omega) (by omega)
    refine lv_goto (tgt := 5) hx hb dJ7_fill_53178_17 (by decide) ?_
    exact ih (z_2, upd f1 i.toNatClampNeg p0) H locs ls (by show (n - z_2.toInt).toNat < (n - i.toInt).toNat; omega) ⟨(show 0 ≤ z_2.toInt from (by omega)), (show z_2.toInt ≤ n from (by omega)), (show ∀ j : Nat, (j : Int) < z_2.toInt → (upd f1 i.toNatClampNeg p0) j = p0 from (tl_fill h0 iz_2 hv)), hP, hD, hS, lv_sub hl [0, 1, 2, 3] rfl⟩

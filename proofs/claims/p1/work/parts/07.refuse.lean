set_option maxHeartbeats 4000000 in
set_option maxRecDepth 100000 in
theorem c_X4_has (l : Launch) (D : va_G) (cy : Nat → ClassId) (sz : Nat) (o : Nat) (p0 : Int32) (nu : Int32) (rg : Nat) (rh : Nat) (rk : Nat) (rr : Nat)  : Met l yX4_has (tl_w yX4_has cX4_has 2 (some .boolean)) ({ frames := 0, cells := 0, slots := 0, locals := 0 }) (va_Pc [.ref o, .int p0] (tl_P D cy [(o, .inr (4, [.int 0, .int nu, .ref rg, .ref rh, .ref rk, .ref rr]))] sz)) (vp_Si (fun r : Int32 => r = 0)) 0 0 (fun _ => False) := by
  refine Met.ofW (cc := cX4_has) (maxL := 2) (ret := (some .boolean)) (by decide) rfl ?_
  intro p e s m args below meth c s₁ B hml hv
  obtain ⟨rfl, hsz, hP, hK, hD0, hN⟩ := hv
  have hx := B.exec
  have hb := B.bytes
  have hr := B.returns
  have hta := tl_hta (atoms_spec (ws := tl_w yX4_has cX4_has 2 (some .boolean)) B.pre)
  have hown : s.vm.findClass RX4 = some m.cls := findClass_of_methodNamed B.named
  have hlocks := B.notSynchronized
  subst hsz
  have hD := hD0
  have hP : va_P D vwCl [(o, .inr (4, [.int 0, .int nu, .ref rg, .ref rh, .ref rk, .ref rr]))] s.heap := hP
  have hl := lv_entry ([.ref o, .int p0]) (n := 2) (Nat.le_of_ble_eq_true rfl)
  rw [lg_entry_eq]
  generalize (lg_sl ([.ref o, .int p0]) ++ List.replicate (2 - (lg_sl ([.ref o, .int p0])).length) Slot.unset).toArray = ls at hl ⊢
  have hl : lv_has ls 2 [(0, .ref o), (1, .int p0)] := hl
  refine lv_iload_n hx hb dX4_has_0 rfl (lv_at hl 1 rfl) ?_
  refine lv_if_lt (tgt := 16) hx hb dX4_has_1 (by decide) (fun c_1 => ?_) (fun c_1 => ?_)
  · have c_1 : p0.toInt < (0 : Int) := tl_lt c_1
    refine lv_iconst (v := 0) hx hb dX4_has_16 (by decide) ?_
    exact W.zret (ty := .boolean) (v := 0) hx hb hr rfl (fun t ht hW => ⟨_, rfl, rfl, ht⟩) (fun q h => by cases h) dX4_has_17
  · have c_1 : (0 : Int) ≤ p0.toInt := tl_nlt c_1
    refine lv_iload_n hx hb dX4_has_4 rfl (lv_at hl 1 rfl) ?_
    refine lv_aload_n hx hb dX4_has_5 rfl (lv_at hl 0 rfl) ?_
    refine va_get (D := D) (ci := 4) (v := .int 0) (C := RX4) (T := TX4) (N := 6) hx hb hta inlX4 hown hK hP 0 rfl rfl 0 (by decide) (hta _ wk_211) (fun _ h9 => h9) rfl dX4_has_6 ?_
    refine lv_icmp_ge (tgt := 16) hx hb dX4_has_9 (by decide) (fun c_2 => ?_) (fun c_2 => ?_)
    · have c_2 : (0 : Int) ≤ p0.toInt := tl_le c_2
      refine lv_iconst (v := 0) hx hb dX4_has_16 (by decide) ?_
      exact W.zret (ty := .boolean) (v := 0) hx hb hr rfl (fun t ht hW => ⟨_, rfl, rfl, ht⟩) (fun q h => by cases h) dX4_has_17
    · have c_2 : p0.toInt < (0 : Int) := tl_nle c_2
      exfalso; omega
set_option maxHeartbeats 4000000 in
set_option maxRecDepth 100000 in
theorem c_X6_has (l : Launch) (D : va_G) (cy : Nat → ClassId) (sz : Nat) (o : Nat) (p0 : Int32) (mo : Int32) (ce : Nat)  : Met l yX6_has (tl_w yX6_has cX6_has 2 (some .boolean)) ({ frames := 0, cells := 0, slots := 0, locals := 0 }) (va_Pc [.ref o, .int p0] (tl_P D cy [(o, .inr (6, [.int mo, .ref ce, .int 0]))] sz)) (vp_Si (fun r : Int32 => r = 0)) 0 0 (fun _ => False) := by
  refine Met.ofW (cc := cX6_has) (maxL := 2) (ret := (some .boolean)) (by decide) rfl ?_
  intro p e s m args below meth c s₁ B hml hv
  obtain ⟨rfl, hsz, hP, hK, hD0, hN⟩ := hv
  have hx := B.exec
  have hb := B.bytes
  have hr := B.returns
  have hta := tl_hta (atoms_spec (ws := tl_w yX6_has cX6_has 2 (some .boolean)) B.pre)
  have hown : s.vm.findClass RX6 = some m.cls := findClass_of_methodNamed B.named
  have hlocks := B.notSynchronized
  subst hsz
  have hD := hD0
  have hP : va_P D vwCl [(o, .inr (6, [.int mo, .ref ce, .int 0]))] s.heap := hP
  have hl := lv_entry ([.ref o, .int p0]) (n := 2) (Nat.le_of_ble_eq_true rfl)
  rw [lg_entry_eq]
  generalize (lg_sl ([.ref o, .int p0]) ++ List.replicate (2 - (lg_sl ([.ref o, .int p0])).length) Slot.unset).toArray = ls at hl ⊢
  have hl : lv_has ls 2 [(0, .ref o), (1, .int p0)] := hl
  refine lv_iload_n hx hb dX6_has_0 rfl (lv_at hl 1 rfl) ?_
  refine lv_if_lt (tgt := 16) hx hb dX6_has_1 (by decide) (fun c_1 => ?_) (fun c_1 => ?_)
  · have c_1 : p0.toInt < (0 : Int) := tl_lt c_1
    refine lv_iconst (v := 0) hx hb dX6_has_16 (by decide) ?_
    exact W.zret (ty := .boolean) (v := 0) hx hb hr rfl (fun t ht hW => ⟨_, rfl, rfl, ht⟩) (fun q h => by cases h) dX6_has_17
  · have c_1 : (0 : Int) ≤ p0.toInt := tl_nlt c_1
    refine lv_iload_n hx hb dX6_has_4 rfl (lv_at hl 1 rfl) ?_
    refine lv_aload_n hx hb dX6_has_5 rfl (lv_at hl 0 rfl) ?_
    refine va_get (D := D) (ci := 6) (v := .int 0) (C := RX6) (T := TX6) (N := 3) hx hb hta inlX6 hown hK hP 0 rfl rfl 2 (by decide) (hta _ wk_266) (fun _ h9 => h9) rfl dX6_has_6 ?_
    refine lv_icmp_ge (tgt := 16) hx hb dX6_has_9 (by decide) (fun c_2 => ?_) (fun c_2 => ?_)
    · have c_2 : (0 : Int) ≤ p0.toInt := tl_le c_2
      refine lv_iconst (v := 0) hx hb dX6_has_16 (by decide) ?_
      exact W.zret (ty := .boolean) (v := 0) hx hb hr rfl (fun t ht hW => ⟨_, rfl, rfl, ht⟩) (fun q h => by cases h) dX6_has_17
    · have c_2 : p0.toInt < (0 : Int) := tl_nle c_2
      exfalso; omega
set_option maxHeartbeats 4000000 in
set_option maxRecDepth 100000 in
theorem c_X8_at (l : Launch) (D : va_G) (cy : Nat → ClassId) (sz : Nat) (o : Nat) (p0 : Int32) (ke : Nat)  : Met l yX8_at (tl_w yX8_at cX8_at 2 (some (.object "ThinLine$Text"))) ({ frames := 0, cells := 0, slots := 0, locals := 0 }) (va_Pc [.ref o, .int p0] (tl_P D cy [(o, .inr (8, [.ref ke, .int 0]))] sz)) (va_Sq (fun r : Option Nat => r = none)) 0 0 (fun _ => False) := by
  refine Met.ofW (cc := cX8_at) (maxL := 2) (ret := (some (.object "ThinLine$Text"))) (by decide) rfl ?_
  intro p e s m args below meth c s₁ B hml hv
  obtain ⟨rfl, hsz, hP, hK, hD0, hN⟩ := hv
  have hx := B.exec
  have hb := B.bytes
  have hr := B.returns
  have hta := tl_hta (atoms_spec (ws := tl_w yX8_at cX8_at 2 (some (.object "ThinLine$Text"))) B.pre)
  have hown : s.vm.findClass RX8 = some m.cls := findClass_of_methodNamed B.named
  have hlocks := B.notSynchronized
  subst hsz
  have hD := hD0
  have hP : va_P D vwCl [(o, .inr (8, [.ref ke, .int 0]))] s.heap := hP
  have hl := lv_entry ([.ref o, .int p0]) (n := 2) (Nat.le_of_ble_eq_true rfl)
  rw [lg_entry_eq]
  generalize (lg_sl ([.ref o, .int p0]) ++ List.replicate (2 - (lg_sl ([.ref o, .int p0])).length) Slot.unset).toArray = ls at hl ⊢
  have hl : lv_has ls 2 [(0, .ref o), (1, .int p0)] := hl
  refine lv_iload_n hx hb dX8_at_0 rfl (lv_at hl 1 rfl) ?_
  refine lv_if_lt (tgt := 30) hx hb dX8_at_1 (by decide) (fun c_1 => ?_) (fun c_1 => ?_)
  · have c_1 : p0.toInt < (0 : Int) := tl_lt c_1
    refine lv_null hx hb dX8_at_30 ?_
    exact W.aret (v := .null) hx hb hr (Or.inl ⟨_, rfl⟩) (Or.inl rfl) (fun t ht hW => ⟨none, rfl, rfl, ht⟩) (fun q h => by cases h) dX8_at_31
  · have c_1 : (0 : Int) ≤ p0.toInt := tl_nlt c_1
    refine lv_iload_n hx hb dX8_at_4 rfl (lv_at hl 1 rfl) ?_
    refine lv_aload_n hx hb dX8_at_5 rfl (lv_at hl 0 rfl) ?_
    refine va_get (D := D) (ci := 8) (v := .int 0) (C := RX8) (T := TX8) (N := 2) hx hb hta inlX8 hown hK hP 0 rfl rfl 1 (by decide) (hta _ wk_371) (fun _ h9 => h9) rfl dX8_at_6 ?_
    refine lv_icmp_ge (tgt := 30) hx hb dX8_at_9 (by decide) (fun c_2 => ?_) (fun c_2 => ?_)
    · have c_2 : (0 : Int) ≤ p0.toInt := tl_le c_2
      refine lv_null hx hb dX8_at_30 ?_
      exact W.aret (v := .null) hx hb hr (Or.inl ⟨_, rfl⟩) (Or.inl rfl) (fun t ht hW => ⟨none, rfl, rfl, ht⟩) (fun q h => by cases h) dX8_at_31
    · have c_2 : p0.toInt < (0 : Int) := tl_nle c_2
      exfalso; omega
set_option maxHeartbeats 4000000 in
set_option maxRecDepth 100000 in
theorem c_X11_look (l : Launch) (D : va_G) (cy : Nat → ClassId) (sz : Nat) (x : Nat) (p0 : Int32) (p1 : Int32) (p2 : Int32) (b : Nat) (im : Nat) (la : Nat) (cu : Nat) (wa : Nat) (pa : Nat) (dr : Nat) (su : Nat) (mk : Nat) (vi : Nat) (re : Nat) (rd : Nat) (so : Nat) (fw : Nat) (wo : Nat) (gi : Nat) (ck : Nat)  : Met l yX11_look (tl_w yX11_look cX11_look 5 (some .boolean)) ({ frames := 1, cells := 0, slots := 0, locals := 21 }) (va_Pc [.ref x, .int p0, .int p1, .int p2] (tl_P D cy [(x, .inr (11, [.ref b, .ref im, .ref la, .ref cu, .ref wa, .ref pa, .ref dr, .ref su, .ref mk, .ref vi, .ref re, .ref rd, .ref so, .ref fw, .ref wo, .ref gi])), (cu, .inr (8, [.ref ck, .int 0]))] sz)) (vp_Si (fun r : Int32 => r = 0)) 0 0 (fun _ => False) := by
  refine Met.ofW (cc := cX11_look) (maxL := 5) (ret := (some .boolean)) (by decide) rfl ?_
  intro p e s m args below meth c s₁ B hml hv
  obtain ⟨rfl, hsz, hP, hK, hD0, hN⟩ := hv
  have hx := B.exec
  have hb := B.bytes
  have hr := B.returns
  have hta := tl_hta (atoms_spec (ws := tl_w yX11_look cX11_look 5 (some .boolean)) B.pre)
  have hown : s.vm.findClass RX11 = some m.cls := findClass_of_methodNamed B.named
  have hlocks := B.notSynchronized
  subst hsz
  have hD := hD0
  have hP : va_P D vwCl [(x, .inr (11, [.ref b, .ref im, .ref la, .ref cu, .ref wa, .ref pa, .ref dr, .ref su, .ref mk, .ref vi, .ref re, .ref rd, .ref so, .ref fw, .ref wo, .ref gi])), (cu, .inr (8, [.ref ck, .int 0]))] s.heap := hP
  have hl := lv_entry ([.ref x, .int p0, .int p1, .int p2]) (n := 5) (Nat.le_of_ble_eq_true rfl)
  rw [lg_entry_eq]
  generalize (lg_sl ([.ref x, .int p0, .int p1, .int p2]) ++ List.replicate (5 - (lg_sl ([.ref x, .int p0, .int p1, .int p2])).length) Slot.unset).toArray = ls at hl ⊢
  have hl : lv_has ls 5 [(0, .ref x), (1, .int p0), (2, .int p1), (3, .int p2)] := hl
  refine lv_aload_n hx hb dX11_look_0 rfl (lv_at hl 0 rfl) ?_
  refine va_get (D := D) (ci := 11) (v := .ref cu) (C := RX11) (T := TX11) (N := 16) hx hb hta inlX11 hown hK hP 0 rfl rfl 3 (by decide) (hta _ wk_21) (fun _ h9 => h9) rfl dX11_look_1 ?_
  refine lv_iload_n hx hb dX11_look_4 rfl (lv_at hl 1 rfl) ?_
  have hPc := hP.sub (ws' := [(cu, .inr (8, [.ref ck, .int 0]))]) [1] rfl
  have hDc := hD.sub (ws' := [(cu, .inr (8, [.ref ck, .int 0]))]) [1] (by decide) rfl
  refine tl_sq (tl_rVN (As := [.int p0]) (rest := []) ⟨hx, hb, hml, hown, hta⟩ hK hN hPc hDc (ci := 8) rfl 0 rfl lk_X11_201 (c_X8_at l D cy s.heap.size cu p0 ck ) rfl rfl ⟨Nat.le_of_ble_eq_true rfl, Nat.le_of_ble_eq_true rfl⟩ rfl hl.1 rfl (Nat.le_of_ble_eq_true rfl) dX11_look_5 ⟨Nat.le_of_ble_eq_true rfl, Nat.le_of_ble_eq_true rfl⟩) (fun r_2 hw_1 => ?_)
  subst hw_1
  refine W.eq (g2 := F0 m 8 ls [.null]) rfl ?_
  refine lv_astoreN (lv' := [(4, .null), (0, .ref x), (1, .int p0), (2, .int p1), (3, .int p2)]) hx hb dX11_look_8 hl (by decide) rfl (fun ls hl => ?_)
  refine lv_aloadN hx hb dX11_look_10 (lv_at hl 0 rfl) ?_
  refine lv_ifnullN (tgt := 29) hx hb dX11_look_12 (by decide) ?_
  refine lv_iconst (v := 0) hx hb dX11_look_29 (by decide) ?_
  exact W.zret (ty := .boolean) (v := 0) hx hb hr rfl (fun t ht hW => ⟨_, rfl, rfl, ht⟩) (fun q h => by cases h) dX11_look_30
set_option maxHeartbeats 4000000 in
set_option maxRecDepth 100000 in
theorem c_X11_raw (l : Launch) (D : va_G) (cy : Nat → ClassId) (sz : Nat) (x : Nat) (p0 : Int32) (p1 : Int32) (p2 : Int32) (b : Nat) (im : Nat) (la : Nat) (cu : Nat) (wa : Nat) (pa : Nat) (dr : Nat) (su : Nat) (mk : Nat) (vi : Nat) (re : Nat) (rd : Nat) (so : Nat) (fw : Nat) (wo : Nat) (gi : Nat) (to : Nat) (ro : Nat) (sl : Nat) (li : Nat) (ca : Nat) (ho : Nat) (ta : Nat) (rg : Nat) (rh : Nat) (rk : Nat) (rr : Nat)  : Met l yX11_raw (tl_w yX11_raw cX11_raw 5 (some .int)) ({ frames := 1, cells := 0, slots := 0, locals := 22 }) (va_Pc [.ref x, .int p0, .int p1, .int p2] (tl_P D cy [(x, .inr (11, [.ref b, .ref im, .ref la, .ref cu, .ref wa, .ref pa, .ref dr, .ref su, .ref mk, .ref vi, .ref re, .ref rd, .ref so, .ref fw, .ref wo, .ref gi])), (b, .inr (0, [.int 0, .ref to, .ref ro, .ref sl, .ref li, .ref ca, .ref ho, .ref ta, .int 0])), (ro, .inr (4, [.int 0, .int 0, .ref rg, .ref rh, .ref rk, .ref rr]))] sz)) (vp_Si (fun r : Int32 => r = (-2000000))) 0 0 (fun _ => False) := by
  refine Met.ofW (cc := cX11_raw) (maxL := 5) (ret := (some .int)) (by decide) rfl ?_
  intro p e s m args below meth c s₁ B hml hv
  obtain ⟨rfl, hsz, hP, hK, hD0, hN⟩ := hv
  have hx := B.exec
  have hb := B.bytes
  have hr := B.returns
  have hta := tl_hta (atoms_spec (ws := tl_w yX11_raw cX11_raw 5 (some .int)) B.pre)
  have hown : s.vm.findClass RX11 = some m.cls := findClass_of_methodNamed B.named
  have hlocks := B.notSynchronized
  subst hsz
  have hD := hD0
  have hP : va_P D vwCl [(x, .inr (11, [.ref b, .ref im, .ref la, .ref cu, .ref wa, .ref pa, .ref dr, .ref su, .ref mk, .ref vi, .ref re, .ref rd, .ref so, .ref fw, .ref wo, .ref gi])), (b, .inr (0, [.int 0, .ref to, .ref ro, .ref sl, .ref li, .ref ca, .ref ho, .ref ta, .int 0])), (ro, .inr (4, [.int 0, .int 0, .ref rg, .ref rh, .ref rk, .ref rr]))] s.heap := hP
  have hl := lv_entry ([.ref x, .int p0, .int p1, .int p2]) (n := 5) (Nat.le_of_ble_eq_true rfl)
  rw [lg_entry_eq]
  generalize (lg_sl ([.ref x, .int p0, .int p1, .int p2]) ++ List.replicate (5 - (lg_sl ([.ref x, .int p0, .int p1, .int p2])).length) Slot.unset).toArray = ls at hl ⊢
  have hl : lv_has ls 5 [(0, .ref x), (1, .int p0), (2, .int p1), (3, .int p2)] := hl
  refine lv_iload_n hx hb dX11_raw_0 rfl (lv_at hl 3 rfl) ?_
  refine lv_ldc (v := (-1000000)) hx hb hown (hta _ wk_227) dX11_raw_1 ?_
  refine lv_icmp_eq (tgt := 17) hx hb dX11_raw_3 (by decide) (fun c_1 => ?_) (fun c_1 => ?_)
  · have c_1 : p2.toInt = (-1000000 : Int) := tl_eq c_1
    refine lv_iconst (v := 1) hx hb dX11_raw_17 (by decide) ?_
    refine lv_goto (tgt := 22) hx hb dX11_raw_18 (by decide) ?_
    refine lv_istore (lv' := [(4, .int 1), (0, .ref x), (1, .int p0), (2, .int p1), (3, .int p2)]) hx hb dX11_raw_22 hl (by decide) rfl (fun ls hl => ?_)
    refine lv_aload_n hx hb dX11_raw_24 rfl (lv_at hl 1 rfl) ?_
    refine va_get (D := D) (ci := 11) (v := .ref b) (C := RX11) (T := TX11) (N := 16) hx hb hta inlX11 hown hK hP 0 rfl rfl 0 (by decide) (hta _ wk_15) (fun _ h9 => h9) rfl dX11_raw_25 ?_
    refine va_getN (D := D) (ci := 0) (v := .ref ro) (C := RX0) (T := TX0) (N := 9) hx hb hta inlX0 hown hK hP 1 rfl rfl 2 (by decide) (va_Nw.use rfl (hN.1 20 _ nk_20)) (fun _ h9 => h9) rfl dX11_raw_28 ?_
    refine lv_iload_n hx hb dX11_raw_31 rfl (lv_at hl 2 rfl) ?_
    have hPc := hP.sub (ws' := [(ro, .inr (4, [.int 0, .int 0, .ref rg, .ref rh, .ref rk, .ref rr]))]) [2] rfl
    have hDc := hD.sub (ws' := [(ro, .inr (4, [.int 0, .int 0, .ref rg, .ref rh, .ref rk, .ref rr]))]) [2] (by decide) rfl
    refine tl_si (tl_rVN (As := [.int p0]) (rest := []) ⟨hx, hb, hml, hown, hta⟩ hK hN hPc hDc (ci := 4) rfl 0 rfl lk_X11_122 (c_X4_has l D cy s.heap.size ro p0 0 rg rh rk rr ) rfl rfl ⟨Nat.le_of_ble_eq_true rfl, Nat.le_of_ble_eq_true rfl⟩ rfl hl.1 rfl (Nat.le_of_ble_eq_true rfl) dX11_raw_32 ⟨Nat.le_of_ble_eq_true rfl, Nat.le_of_ble_eq_true rfl⟩) (fun r_3 hw_2 => ?_)
    subst hw_2
    refine lv_if_eq (tgt := 50) hx hb dX11_raw_35 (by decide) (fun _ => ?_) (fun c => absurd c (by decide))
    refine lv_ldc (v := (-2000000)) hx hb hown (hta _ wk_230) dX11_raw_50 ?_
    exact W.iret (v := (-2000000)) hx hb hr (fun t ht hW => ⟨_, rfl, rfl, ht⟩) (fun q h => by cases h) dX11_raw_52
  · have c_1 : ¬ p2.toInt = (-1000000 : Int) := tl_neq c_1
    refine lv_iload_n hx hb dX11_raw_6 rfl (lv_at hl 3 rfl) ?_
    refine lv_ldc (v := (-100000)) hx hb hown (hta _ wk_228) dX11_raw_7 ?_
    refine lv_ldc (v := 100000) hx hb hown (hta _ wk_229) dX11_raw_9 ?_
    have hPc := hP.sub (ws' := []) [] rfl
    have hDc := hD.sub (ws' := []) [] (by decide) rfl
    refine tl_si (tl_rS (As := [.int p2, .int (-100000), .int 100000]) (rest := []) ⟨hx, hb, hml, hown, hta⟩ hK hN hPc hDc lk_X11_105 (c_X11_isIn l D cy s.heap.size p2 (-100000) 100000 ) rfl rfl ⟨Nat.le_of_ble_eq_true rfl, Nat.le_of_ble_eq_true rfl⟩ rfl hl.1 rfl (Nat.le_of_ble_eq_true rfl) dX11_raw_11 ⟨Nat.le_of_ble_eq_true rfl, Nat.le_of_ble_eq_true rfl⟩) (fun r_5 hw_4 => ?_)
    have hw_4 : tl_E r_5 ((-100000 : Int) ≤ p2.toInt ∧ p2.toInt ≤ (100000 : Int)) 1 0 := hw_4
    refine lv_if_eq (tgt := 21) hx hb dX11_raw_14 (by decide) (fun c_6 => ?_) (fun c_6 => ?_)
    · have c_6 := hw_4.f c_6
      refine lv_iconst (v := 0) hx hb dX11_raw_21 (by decide) ?_
      refine lv_istore (lv' := [(4, .int 0), (0, .ref x), (1, .int p0), (2, .int p1), (3, .int p2)]) hx hb dX11_raw_22 hl (by decide) rfl (fun ls hl => ?_)
      refine lv_aload_n hx hb dX11_raw_24 rfl (lv_at hl 1 rfl) ?_
      refine va_get (D := D) (ci := 11) (v := .ref b) (C := RX11) (T := TX11) (N := 16) hx hb hta inlX11 hown hK hP 0 rfl rfl 0 (by decide) (hta _ wk_15) (fun _ h9 => h9) rfl dX11_raw_25 ?_
      refine va_getN (D := D) (ci := 0) (v := .ref ro) (C := RX0) (T := TX0) (N := 9) hx hb hta inlX0 hown hK hP 1 rfl rfl 2 (by decide) (va_Nw.use rfl (hN.1 20 _ nk_20)) (fun _ h9 => h9) rfl dX11_raw_28 ?_
      refine lv_iload_n hx hb dX11_raw_31 rfl (lv_at hl 2 rfl) ?_
      have hPc := hP.sub (ws' := [(ro, .inr (4, [.int 0, .int 0, .ref rg, .ref rh, .ref rk, .ref rr]))]) [2] rfl
      have hDc := hD.sub (ws' := [(ro, .inr (4, [.int 0, .int 0, .ref rg, .ref rh, .ref rk, .ref rr]))]) [2] (by decide) rfl
      refine tl_si (tl_rVN (As := [.int p0]) (rest := []) ⟨hx, hb, hml, hown, hta⟩ hK hN hPc hDc (ci := 4) rfl 0 rfl lk_X11_122 (c_X4_has l D cy s.heap.size ro p0 0 rg rh rk rr ) rfl rfl ⟨Nat.le_of_ble_eq_true rfl, Nat.le_of_ble_eq_true rfl⟩ rfl hl.1 rfl (Nat.le_of_ble_eq_true rfl) dX11_raw_32 ⟨Nat.le_of_ble_eq_true rfl, Nat.le_of_ble_eq_true rfl⟩) (fun r_8 hw_7 => ?_)
      subst hw_7
      refine lv_if_eq (tgt := 50) hx hb dX11_raw_35 (by decide) (fun _ => ?_) (fun c => absurd c (by decide))
      refine lv_ldc (v := (-2000000)) hx hb hown (hta _ wk_230) dX11_raw_50 ?_
      exact W.iret (v := (-2000000)) hx hb hr (fun t ht hW => ⟨_, rfl, rfl, ht⟩) (fun q h => by cases h) dX11_raw_52
    · have c_6 := hw_4.t c_6
      refine lv_iconst (v := 1) hx hb dX11_raw_17 (by decide) ?_
      refine lv_goto (tgt := 22) hx hb dX11_raw_18 (by decide) ?_
      refine lv_istore (lv' := [(4, .int 1), (0, .ref x), (1, .int p0), (2, .int p1), (3, .int p2)]) hx hb dX11_raw_22 hl (by decide) rfl (fun ls hl => ?_)
      refine lv_aload_n hx hb dX11_raw_24 rfl (lv_at hl 1 rfl) ?_
      refine va_get (D := D) (ci := 11) (v := .ref b) (C := RX11) (T := TX11) (N := 16) hx hb hta inlX11 hown hK hP 0 rfl rfl 0 (by decide) (hta _ wk_15) (fun _ h9 => h9) rfl dX11_raw_25 ?_
      refine va_getN (D := D) (ci := 0) (v := .ref ro) (C := RX0) (T := TX0) (N := 9) hx hb hta inlX0 hown hK hP 1 rfl rfl 2 (by decide) (va_Nw.use rfl (hN.1 20 _ nk_20)) (fun _ h9 => h9) rfl dX11_raw_28 ?_
      refine lv_iload_n hx hb dX11_raw_31 rfl (lv_at hl 2 rfl) ?_
      have hPc := hP.sub (ws' := [(ro, .inr (4, [.int 0, .int 0, .ref rg, .ref rh, .ref rk, .ref rr]))]) [2] rfl
      have hDc := hD.sub (ws' := [(ro, .inr (4, [.int 0, .int 0, .ref rg, .ref rh, .ref rk, .ref rr]))]) [2] (by decide) rfl
      refine tl_si (tl_rVN (As := [.int p0]) (rest := []) ⟨hx, hb, hml, hown, hta⟩ hK hN hPc hDc (ci := 4) rfl 0 rfl lk_X11_122 (c_X4_has l D cy s.heap.size ro p0 0 rg rh rk rr ) rfl rfl ⟨Nat.le_of_ble_eq_true rfl, Nat.le_of_ble_eq_true rfl⟩ rfl hl.1 rfl (Nat.le_of_ble_eq_true rfl) dX11_raw_32 ⟨Nat.le_of_ble_eq_true rfl, Nat.le_of_ble_eq_true rfl⟩) (fun r_10 hw_9 => ?_)
      subst hw_9
      refine lv_if_eq (tgt := 50) hx hb dX11_raw_35 (by decide) (fun _ => ?_) (fun c => absurd c (by decide))
      refine lv_ldc (v := (-2000000)) hx hb hown (hta _ wk_230) dX11_raw_50 ?_
      exact W.iret (v := (-2000000)) hx hb hr (fun t ht hW => ⟨_, rfl, rfl, ht⟩) (fun q h => by cases h) dX11_raw_52
set_option maxHeartbeats 4000000 in
set_option maxRecDepth 100000 in
theorem c_X11_read (l : Launch) (D : va_G) (cy : Nat → ClassId) (sz : Nat) (x : Nat) (p0 : Int32) (p1 : Int32) (b : Nat) (im : Nat) (la : Nat) (cu : Nat) (wa : Nat) (pa : Nat) (dr : Nat) (su : Nat) (mk : Nat) (vi : Nat) (re : Nat) (rd : Nat) (so : Nat) (fw : Nat) (wo : Nat) (gi : Nat) (to : Nat) (ro : Nat) (sl : Nat) (li : Nat) (ca : Nat) (ho : Nat) (ta : Nat) (rg : Nat) (rh : Nat) (rk : Nat) (rr : Nat)  : Met l yX11_read (tl_w yX11_read cX11_read 4 (some .int)) ({ frames := 1, cells := 0, slots := 0, locals := 21 }) (va_Pc [.ref x, .int p0, .int p1] (tl_P D cy [(x, .inr (11, [.ref b, .ref im, .ref la, .ref cu, .ref wa, .ref pa, .ref dr, .ref su, .ref mk, .ref vi, .ref re, .ref rd, .ref so, .ref fw, .ref wo, .ref gi])), (b, .inr (0, [.int 0, .ref to, .ref ro, .ref sl, .ref li, .ref ca, .ref ho, .ref ta, .int 0])), (ro, .inr (4, [.int 0, .int 0, .ref rg, .ref rh, .ref rk, .ref rr]))] sz)) (vp_Si (fun r : Int32 => r = (-2000000))) 0 0 (fun _ => False) := by
  refine Met.ofW (cc := cX11_read) (maxL := 4) (ret := (some .int)) (by decide) rfl ?_
  intro p e s m args below meth c s₁ B hml hv
  obtain ⟨rfl, hsz, hP, hK, hD0, hN⟩ := hv
  have hx := B.exec
  have hb := B.bytes
  have hr := B.returns
  have hta := tl_hta (atoms_spec (ws := tl_w yX11_read cX11_read 4 (some .int)) B.pre)
  have hown : s.vm.findClass RX11 = some m.cls := findClass_of_methodNamed B.named
  have hlocks := B.notSynchronized
  subst hsz
  have hD := hD0
  have hP : va_P D vwCl [(x, .inr (11, [.ref b, .ref im, .ref la, .ref cu, .ref wa, .ref pa, .ref dr, .ref su, .ref mk, .ref vi, .ref re, .ref rd, .ref so, .ref fw, .ref wo, .ref gi])), (b, .inr (0, [.int 0, .ref to, .ref ro, .ref sl, .ref li, .ref ca, .ref ho, .ref ta, .int 0])), (ro, .inr (4, [.int 0, .int 0, .ref rg, .ref rh, .ref rk, .ref rr]))] s.heap := hP
  have hl := lv_entry ([.ref x, .int p0, .int p1]) (n := 4) (Nat.le_of_ble_eq_true rfl)
  rw [lg_entry_eq]
  generalize (lg_sl ([.ref x, .int p0, .int p1]) ++ List.replicate (4 - (lg_sl ([.ref x, .int p0, .int p1])).length) Slot.unset).toArray = ls at hl ⊢
  have hl : lv_has ls 4 [(0, .ref x), (1, .int p0), (2, .int p1)] := hl
  refine lv_aload_n hx hb dX11_read_0 rfl (lv_at hl 0 rfl) ?_
  refine va_get (D := D) (ci := 11) (v := .ref b) (C := RX11) (T := TX11) (N := 16) hx hb hta inlX11 hown hK hP 0 rfl rfl 0 (by decide) (hta _ wk_15) (fun _ h9 => h9) rfl dX11_read_1 ?_
  refine va_getN (D := D) (ci := 0) (v := .ref ro) (C := RX0) (T := TX0) (N := 9) hx hb hta inlX0 hown hK hP 1 rfl rfl 2 (by decide) (va_Nw.use rfl (hN.1 20 _ nk_20)) (fun _ h9 => h9) rfl dX11_read_4 ?_
  refine lv_iload_n hx hb dX11_read_7 rfl (lv_at hl 1 rfl) ?_
  have hPc := hP.sub (ws' := [(ro, .inr (4, [.int 0, .int 0, .ref rg, .ref rh, .ref rk, .ref rr]))]) [2] rfl
  have hDc := hD.sub (ws' := [(ro, .inr (4, [.int 0, .int 0, .ref rg, .ref rh, .ref rk, .ref rr]))]) [2] (by decide) rfl
  refine tl_si (tl_rVN (As := [.int p0]) (rest := []) ⟨hx, hb, hml, hown, hta⟩ hK hN hPc hDc (ci := 4) rfl 0 rfl lk_X11_122 (c_X4_has l D cy s.heap.size ro p0 0 rg rh rk rr ) rfl rfl ⟨Nat.le_of_ble_eq_true rfl, Nat.le_of_ble_eq_true rfl⟩ rfl hl.1 rfl (Nat.le_of_ble_eq_true rfl) dX11_read_8 ⟨Nat.le_of_ble_eq_true rfl, Nat.le_of_ble_eq_true rfl⟩) (fun r_2 hw_1 => ?_)
  subst hw_1
  refine lv_if_eq (tgt := 21) hx hb dX11_read_11 (by decide) (fun _ => ?_) (fun c => absurd c (by decide))
  refine lv_ldc (v := (-2000000)) hx hb hown (hta _ wk_230) dX11_read_21 ?_
  exact W.iret (v := (-2000000)) hx hb hr (fun t ht hW => ⟨_, rfl, rfl, ht⟩) (fun q h => by cases h) dX11_read_23
set_option maxHeartbeats 4000000 in
set_option maxRecDepth 100000 in
theorem c_X11_anew (l : Launch) (D : va_G) (cy : Nat → ClassId) (sz : Nat) (x : Nat) (p0 : Int32) (p1 : Int32) (b : Nat) (im : Nat) (la : Nat) (cu : Nat) (wa : Nat) (pa : Nat) (dr : Nat) (su : Nat) (mk : Nat) (vi : Nat) (re : Nat) (rd : Nat) (so : Nat) (fw : Nat) (wo : Nat) (gi : Nat) (to : Nat) (ro : Nat) (sl : Nat) (li : Nat) (ca : Nat) (ho : Nat) (ta : Nat) (sc : Nat)  : Met l yX11_anew (tl_w yX11_anew cX11_anew 4 (some .int)) ({ frames := 1, cells := 0, slots := 0, locals := 21 }) (va_Pc [.ref x, .int p0, .int p1] (tl_P D cy [(x, .inr (11, [.ref b, .ref im, .ref la, .ref cu, .ref wa, .ref pa, .ref dr, .ref su, .ref mk, .ref vi, .ref re, .ref rd, .ref so, .ref fw, .ref wo, .ref gi])), (b, .inr (0, [.int 0, .ref to, .ref ro, .ref sl, .ref li, .ref ca, .ref ho, .ref ta, .int 0])), (sl, .inr (6, [.int 40, .ref sc, .int 0]))] sz)) (vp_Si (fun r : Int32 => r = (-2000000))) 0 0 (fun _ => False) := by
  refine Met.ofW (cc := cX11_anew) (maxL := 4) (ret := (some .int)) (by decide) rfl ?_
  intro p e s m args below meth c s₁ B hml hv
  obtain ⟨rfl, hsz, hP, hK, hD0, hN⟩ := hv
  have hx := B.exec
  have hb := B.bytes
  have hr := B.returns
  have hta := tl_hta (atoms_spec (ws := tl_w yX11_anew cX11_anew 4 (some .int)) B.pre)
  have hown : s.vm.findClass RX11 = some m.cls := findClass_of_methodNamed B.named
  have hlocks := B.notSynchronized
  subst hsz
  have hD := hD0
  have hP : va_P D vwCl [(x, .inr (11, [.ref b, .ref im, .ref la, .ref cu, .ref wa, .ref pa, .ref dr, .ref su, .ref mk, .ref vi, .ref re, .ref rd, .ref so, .ref fw, .ref wo, .ref gi])), (b, .inr (0, [.int 0, .ref to, .ref ro, .ref sl, .ref li, .ref ca, .ref ho, .ref ta, .int 0])), (sl, .inr (6, [.int 40, .ref sc, .int 0]))] s.heap := hP
  have hl := lv_entry ([.ref x, .int p0, .int p1]) (n := 4) (Nat.le_of_ble_eq_true rfl)
  rw [lg_entry_eq]
  generalize (lg_sl ([.ref x, .int p0, .int p1]) ++ List.replicate (4 - (lg_sl ([.ref x, .int p0, .int p1])).length) Slot.unset).toArray = ls at hl ⊢
  have hl : lv_has ls 4 [(0, .ref x), (1, .int p0), (2, .int p1)] := hl
  refine lv_aload_n hx hb dX11_anew_0 rfl (lv_at hl 0 rfl) ?_
  refine va_get (D := D) (ci := 11) (v := .ref b) (C := RX11) (T := TX11) (N := 16) hx hb hta inlX11 hown hK hP 0 rfl rfl 0 (by decide) (hta _ wk_15) (fun _ h9 => h9) rfl dX11_anew_1 ?_
  refine va_getN (D := D) (ci := 0) (v := .ref sl) (C := RX0) (T := TX0) (N := 9) hx hb hta inlX0 hown hK hP 1 rfl rfl 3 (by decide) (va_Nw.use rfl (hN.1 21 _ nk_21)) (fun _ h9 => h9) rfl dX11_anew_4 ?_
  refine lv_iload_n hx hb dX11_anew_7 rfl (lv_at hl 1 rfl) ?_
  have hPc := hP.sub (ws' := [(sl, .inr (6, [.int 40, .ref sc, .int 0]))]) [2] rfl
  have hDc := hD.sub (ws' := [(sl, .inr (6, [.int 40, .ref sc, .int 0]))]) [2] (by decide) rfl
  refine tl_si (tl_rVN (As := [.int p0]) (rest := []) ⟨hx, hb, hml, hown, hta⟩ hK hN hPc hDc (ci := 6) rfl 0 rfl lk_X11_156 (c_X6_has l D cy s.heap.size sl p0 40 sc ) rfl rfl ⟨Nat.le_of_ble_eq_true rfl, Nat.le_of_ble_eq_true rfl⟩ rfl hl.1 rfl (Nat.le_of_ble_eq_true rfl) dX11_anew_8 ⟨Nat.le_of_ble_eq_true rfl, Nat.le_of_ble_eq_true rfl⟩) (fun r_2 hw_1 => ?_)
  subst hw_1
  refine lv_if_eq (tgt := 27) hx hb dX11_anew_11 (by decide) (fun _ => ?_) (fun c => absurd c (by decide))
  refine lv_ldc (v := (-2000000)) hx hb hown (hta _ wk_230) dX11_anew_27 ?_
  exact W.iret (v := (-2000000)) hx hb hr (fun t ht hW => ⟨_, rfl, rfl, ht⟩) (fun q h => by cases h) dX11_anew_29
set_option maxHeartbeats 4000000 in
set_option maxRecDepth 100000 in
theorem c_X11_make (l : Launch) (D : va_G) (cy : Nat → ClassId) (sz : Nat) (x : Nat) (p0 : Int32) (p1 : Int32) (p2 : Int32) (p3 : Int32) (p4 : Int32) (b : Nat) (im : Nat) (la : Nat) (cu : Nat) (wa : Nat) (pa : Nat) (dr : Nat) (su : Nat) (mk : Nat) (vi : Nat) (re : Nat) (rd : Nat) (so : Nat) (fw : Nat) (wo : Nat) (gi : Nat) (lk : Nat)  : Met l yX11_make (tl_w yX11_make cX11_make 8 (some .int)) ({ frames := 1, cells := 0, slots := 0, locals := 21 }) (va_Pc [.ref x, .int p0, .int p1, .int p2, .int p3, .int p4] (tl_P D cy [(x, .inr (11, [.ref b, .ref im, .ref la, .ref cu, .ref wa, .ref pa, .ref dr, .ref su, .ref mk, .ref vi, .ref re, .ref rd, .ref so, .ref fw, .ref wo, .ref gi])), (la, .inr (8, [.ref lk, .int 0]))] sz)) (vp_Si (fun r : Int32 => r = (-1))) 0 0 (fun _ => False) := by
  refine Met.ofW (cc := cX11_make) (maxL := 8) (ret := (some .int)) (by decide) rfl ?_
  intro p e s m args below meth c s₁ B hml hv
  obtain ⟨rfl, hsz, hP, hK, hD0, hN⟩ := hv
  have hx := B.exec
  have hb := B.bytes
  have hr := B.returns
  have hta := tl_hta (atoms_spec (ws := tl_w yX11_make cX11_make 8 (some .int)) B.pre)
  have hown : s.vm.findClass RX11 = some m.cls := findClass_of_methodNamed B.named
  have hlocks := B.notSynchronized
  subst hsz
  have hD := hD0
  have hP : va_P D vwCl [(x, .inr (11, [.ref b, .ref im, .ref la, .ref cu, .ref wa, .ref pa, .ref dr, .ref su, .ref mk, .ref vi, .ref re, .ref rd, .ref so, .ref fw, .ref wo, .ref gi])), (la, .inr (8, [.ref lk, .int 0]))] s.heap := hP
  have hl := lv_entry ([.ref x, .int p0, .int p1, .int p2, .int p3, .int p4]) (n := 8) (Nat.le_of_ble_eq_true rfl)
  rw [lg_entry_eq]
  generalize (lg_sl ([.ref x, .int p0, .int p1, .int p2, .int p3, .int p4]) ++ List.replicate (8 - (lg_sl ([.ref x, .int p0, .int p1, .int p2, .int p3, .int p4])).length) Slot.unset).toArray = ls at hl ⊢
  have hl : lv_has ls 8 [(0, .ref x), (1, .int p0), (2, .int p1), (3, .int p2), (4, .int p3), (5, .int p4)] := hl
  refine lv_aload_n hx hb dX11_make_0 rfl (lv_at hl 0 rfl) ?_
  refine va_get (D := D) (ci := 11) (v := .ref la) (C := RX11) (T := TX11) (N := 16) hx hb hta inlX11 hown hK hP 0 rfl rfl 2 (by decide) (hta _ wk_20) (fun _ h9 => h9) rfl dX11_make_1 ?_
  refine lv_iload_n hx hb dX11_make_4 rfl (lv_at hl 1 rfl) ?_
  have hPc := hP.sub (ws' := [(la, .inr (8, [.ref lk, .int 0]))]) [1] rfl
  have hDc := hD.sub (ws' := [(la, .inr (8, [.ref lk, .int 0]))]) [1] (by decide) rfl
  refine tl_sq (tl_rVN (As := [.int p0]) (rest := []) ⟨hx, hb, hml, hown, hta⟩ hK hN hPc hDc (ci := 8) rfl 0 rfl lk_X11_201 (c_X8_at l D cy s.heap.size la p0 lk ) rfl rfl ⟨Nat.le_of_ble_eq_true rfl, Nat.le_of_ble_eq_true rfl⟩ rfl hl.1 rfl (Nat.le_of_ble_eq_true rfl) dX11_make_5 ⟨Nat.le_of_ble_eq_true rfl, Nat.le_of_ble_eq_true rfl⟩) (fun r_2 hw_1 => ?_)
  subst hw_1
  refine W.eq (g2 := F0 m 8 ls [.null]) rfl ?_
  refine lv_astoreN (lv' := [(6, .null), (0, .ref x), (1, .int p0), (2, .int p1), (3, .int p2), (4, .int p3), (5, .int p4)]) hx hb dX11_make_8 hl (by decide) rfl (fun ls hl => ?_)
  refine lv_aloadN hx hb dX11_make_10 (lv_at hl 0 rfl) ?_
  refine lv_ifnullN (tgt := 43) hx hb dX11_make_12 (by decide) ?_
  refine lv_iconst (v := (-1)) hx hb dX11_make_43 (by decide) ?_
  exact W.iret (v := (-1)) hx hb hr (fun t ht hW => ⟨_, rfl, rfl, ht⟩) (fun q h => by cases h) dX11_make_44
set_option maxHeartbeats 4000000 in
set_option maxRecDepth 100000 in
theorem c_X11_curve (l : Launch) (D : va_G) (cy : Nat → ClassId) (sz : Nat) (x : Nat) (p0 : Int32) (p1 : Int32) (p2 : Int32) (p3 : Int32) (b : Nat) (im : Nat) (la : Nat) (cu : Nat) (wa : Nat) (pa : Nat) (dr : Nat) (su : Nat) (mk : Nat) (vi : Nat) (re : Nat) (rd : Nat) (so : Nat) (fw : Nat) (wo : Nat) (gi : Nat) (ck : Nat)  : Met l yX11_curve (tl_w yX11_curve cX11_curve 5 (some .int)) ({ frames := 2, cells := 0, slots := 0, locals := 45 }) (va_Pc [.ref x, .int p0, .int p1, .int p2, .int p3] (tl_P D cy [(x, .inr (11, [.ref b, .ref im, .ref la, .ref cu, .ref wa, .ref pa, .ref dr, .ref su, .ref mk, .ref vi, .ref re, .ref rd, .ref so, .ref fw, .ref wo, .ref gi])), (cu, .inr (8, [.ref ck, .int 0]))] sz)) (vp_Si (fun r : Int32 => r = (-2000000))) 0 0 (fun _ => False) := by
  refine Met.ofW (cc := cX11_curve) (maxL := 5) (ret := (some .int)) (by decide) rfl ?_
  intro p e s m args below meth c s₁ B hml hv
  obtain ⟨rfl, hsz, hP, hK, hD0, hN⟩ := hv
  have hx := B.exec
  have hb := B.bytes
  have hr := B.returns
  have hta := tl_hta (atoms_spec (ws := tl_w yX11_curve cX11_curve 5 (some .int)) B.pre)
  have hown : s.vm.findClass RX11 = some m.cls := findClass_of_methodNamed B.named
  have hlocks := B.notSynchronized
  subst hsz
  have hD := hD0
  have hP : va_P D vwCl [(x, .inr (11, [.ref b, .ref im, .ref la, .ref cu, .ref wa, .ref pa, .ref dr, .ref su, .ref mk, .ref vi, .ref re, .ref rd, .ref so, .ref fw, .ref wo, .ref gi])), (cu, .inr (8, [.ref ck, .int 0]))] s.heap := hP
  have hl := lv_entry ([.ref x, .int p0, .int p1, .int p2, .int p3]) (n := 5) (Nat.le_of_ble_eq_true rfl)
  rw [lg_entry_eq]
  generalize (lg_sl ([.ref x, .int p0, .int p1, .int p2, .int p3]) ++ List.replicate (5 - (lg_sl ([.ref x, .int p0, .int p1, .int p2, .int p3])).length) Slot.unset).toArray = ls at hl ⊢
  have hl : lv_has ls 5 [(0, .ref x), (1, .int p0), (2, .int p1), (3, .int p2), (4, .int p3)] := hl
  refine lv_iload_n hx hb dX11_curve_0 rfl (lv_at hl 3 rfl) ?_
  have hPc := hP.sub (ws' := []) [] rfl
  have hDc := hD.sub (ws' := []) [] (by decide) rfl
  refine tl_si (tl_rS (As := [.int p2]) (rest := []) ⟨hx, hb, hml, hown, hta⟩ hK hN hPc hDc lk_X11_125 (c_X11_isColour l D cy s.heap.size p2 ) rfl rfl ⟨Nat.le_of_ble_eq_true rfl, Nat.le_of_ble_eq_true rfl⟩ rfl hl.1 rfl (Nat.le_of_ble_eq_true rfl) dX11_curve_1 ⟨Nat.le_of_ble_eq_true rfl, Nat.le_of_ble_eq_true rfl⟩) (fun r_2 hw_1 => ?_)
  have hw_1 : tl_E r_2 (0 ≤ p2.toInt ∧ p2.toInt ≤ 299) 1 0 := hw_1
  refine lv_if_eq (tgt := 27) hx hb dX11_curve_4 (by decide) (fun c_3 => ?_) (fun c_3 => ?_)
  · have c_3 := hw_1.f c_3
    refine lv_ldc (v := (-2000000)) hx hb hown (hta _ wk_230) dX11_curve_27 ?_
    exact W.iret (v := (-2000000)) hx hb hr (fun t ht hW => ⟨_, rfl, rfl, ht⟩) (fun q h => by cases h) dX11_curve_29
  · have c_3 := hw_1.t c_3
    refine lv_iload hx hb dX11_curve_7 (lv_at hl 4 rfl) ?_
    refine lv_iconst (v := 0) hx hb dX11_curve_9 (by decide) ?_
    refine lv_iconst (v := 2) hx hb dX11_curve_10 (by decide) ?_
    have hPc := hP.sub (ws' := []) [] rfl
    have hDc := hD.sub (ws' := []) [] (by decide) rfl
    refine tl_si (tl_rS (As := [.int p3, .int 0, .int 2]) (rest := []) ⟨hx, hb, hml, hown, hta⟩ hK hN hPc hDc lk_X11_105 (c_X11_isIn l D cy s.heap.size p3 0 2 ) rfl rfl ⟨Nat.le_of_ble_eq_true rfl, Nat.le_of_ble_eq_true rfl⟩ rfl hl.1 rfl (Nat.le_of_ble_eq_true rfl) dX11_curve_11 ⟨Nat.le_of_ble_eq_true rfl, Nat.le_of_ble_eq_true rfl⟩) (fun r_5 hw_4 => ?_)
    have hw_4 : tl_E r_5 ((0 : Int) ≤ p3.toInt ∧ p3.toInt ≤ (2 : Int)) 1 0 := hw_4
    refine lv_if_eq (tgt := 27) hx hb dX11_curve_14 (by decide) (fun c_6 => ?_) (fun c_6 => ?_)
    · have c_6 := hw_4.f c_6
      refine lv_ldc (v := (-2000000)) hx hb hown (hta _ wk_230) dX11_curve_27 ?_
      exact W.iret (v := (-2000000)) hx hb hr (fun t ht hW => ⟨_, rfl, rfl, ht⟩) (fun q h => by cases h) dX11_curve_29
    · have c_6 := hw_4.t c_6
      refine lv_aload_n hx hb dX11_curve_17 rfl (lv_at hl 0 rfl) ?_
      refine lv_iload_n hx hb dX11_curve_18 rfl (lv_at hl 1 rfl) ?_
      refine lv_iload_n hx hb dX11_curve_19 rfl (lv_at hl 2 rfl) ?_
      refine lv_iconst (v := (-1)) hx hb dX11_curve_20 (by decide) ?_
      refine tl_si (tl_rV (As := [.int p0, .int p1, .int (-1)]) (rest := []) ⟨hx, hb, hml, hown, hta⟩ hK hN hP hD (ci := 11) rfl 0 rfl lk_X11_246 (c_X11_look l D cy s.heap.size x p0 p1 (-1) b im la cu wa pa dr su mk vi re rd so fw wo gi ck ) rfl rfl ⟨Nat.le_of_ble_eq_true rfl, Nat.le_of_ble_eq_true rfl⟩ rfl hl.1 rfl (Nat.le_of_ble_eq_true rfl) dX11_curve_21 ⟨Nat.le_of_ble_eq_true rfl, Nat.le_of_ble_eq_true rfl⟩) (fun r_8 hw_7 => ?_)
      subst hw_7
      refine lv_if_ne (tgt := 30) hx hb dX11_curve_24 (by decide) (fun c => absurd c (by decide)) (fun _ => ?_)
      refine lv_ldc (v := (-2000000)) hx hb hown (hta _ wk_230) dX11_curve_27 ?_
      exact W.iret (v := (-2000000)) hx hb hr (fun t ht hW => ⟨_, rfl, rfl, ht⟩) (fun q h => by cases h) dX11_curve_29
set_option maxHeartbeats 4000000 in
set_option maxRecDepth 100000 in
theorem c_X11_deep (l : Launch) (D : va_G) (cy : Nat → ClassId) (sz : Nat) (x : Nat) (p0 : Int32) (p1 : Int32) (p2 : Int32) (b : Nat) (im : Nat) (la : Nat) (cu : Nat) (wa : Nat) (pa : Nat) (dr : Nat) (su : Nat) (mk : Nat) (vi : Nat) (re : Nat) (rd : Nat) (so : Nat) (fw : Nat) (wo : Nat) (gi : Nat) (ck : Nat)  : Met l yX11_deep (tl_w yX11_deep cX11_deep 4 (some .long)) ({ frames := 2, cells := 0, slots := 0, locals := 45 }) (va_Pc [.ref x, .int p0, .int p1, .int p2] (tl_P D cy [(x, .inr (11, [.ref b, .ref im, .ref la, .ref cu, .ref wa, .ref pa, .ref dr, .ref su, .ref mk, .ref vi, .ref re, .ref rd, .ref so, .ref fw, .ref wo, .ref gi])), (cu, .inr (8, [.ref ck, .int 0]))] sz)) (vp_Sl (fun r : Int64 => r = (-2000000000))) 0 0 (fun _ => False) := by
  refine Met.ofW (cc := cX11_deep) (maxL := 4) (ret := (some .long)) (by decide) rfl ?_
  intro p e s m args below meth c s₁ B hml hv
  obtain ⟨rfl, hsz, hP, hK, hD0, hN⟩ := hv
  have hx := B.exec
  have hb := B.bytes
  have hr := B.returns
  have hta := tl_hta (atoms_spec (ws := tl_w yX11_deep cX11_deep 4 (some .long)) B.pre)
  have hown : s.vm.findClass RX11 = some m.cls := findClass_of_methodNamed B.named
  have hlocks := B.notSynchronized
  subst hsz
  have hD := hD0
  have hP : va_P D vwCl [(x, .inr (11, [.ref b, .ref im, .ref la, .ref cu, .ref wa, .ref pa, .ref dr, .ref su, .ref mk, .ref vi, .ref re, .ref rd, .ref so, .ref fw, .ref wo, .ref gi])), (cu, .inr (8, [.ref ck, .int 0]))] s.heap := hP
  have hl := lv_entry ([.ref x, .int p0, .int p1, .int p2]) (n := 4) (Nat.le_of_ble_eq_true rfl)
  rw [lg_entry_eq]
  generalize (lg_sl ([.ref x, .int p0, .int p1, .int p2]) ++ List.replicate (4 - (lg_sl ([.ref x, .int p0, .int p1, .int p2])).length) Slot.unset).toArray = ls at hl ⊢
  have hl : lv_has ls 4 [(0, .ref x), (1, .int p0), (2, .int p1), (3, .int p2)] := hl
  refine lv_iload_n hx hb dX11_deep_0 rfl (lv_at hl 3 rfl) ?_
  refine lv_iconst (v := 0) hx hb dX11_deep_1 (by decide) ?_
  refine lv_iconst (v := 4) hx hb dX11_deep_2 (by decide) ?_
  have hPc := hP.sub (ws' := []) [] rfl
  have hDc := hD.sub (ws' := []) [] (by decide) rfl
  refine tl_si (tl_rS (As := [.int p2, .int 0, .int 4]) (rest := []) ⟨hx, hb, hml, hown, hta⟩ hK hN hPc hDc lk_X11_105 (c_X11_isIn l D cy s.heap.size p2 0 4 ) rfl rfl ⟨Nat.le_of_ble_eq_true rfl, Nat.le_of_ble_eq_true rfl⟩ rfl hl.1 rfl (Nat.le_of_ble_eq_true rfl) dX11_deep_3 ⟨Nat.le_of_ble_eq_true rfl, Nat.le_of_ble_eq_true rfl⟩) (fun r_2 hw_1 => ?_)
  have hw_1 : tl_E r_2 ((0 : Int) ≤ p2.toInt ∧ p2.toInt ≤ (4 : Int)) 1 0 := hw_1
  refine lv_if_eq (tgt := 19) hx hb dX11_deep_6 (by decide) (fun c_3 => ?_) (fun c_3 => ?_)
  · have c_3 := hw_1.f c_3
    refine lv_ldc2 (v := (-2000000000)) hx hb hown (hta _ wk_961) dX11_deep_19 ?_
    exact W.lret (v := (-2000000000)) hx hb hr (fun t ht hW => ⟨_, rfl, rfl, ht⟩) (fun q h => by cases h) dX11_deep_22
  · have c_3 := hw_1.t c_3
    refine lv_aload_n hx hb dX11_deep_9 rfl (lv_at hl 0 rfl) ?_
    refine lv_iload_n hx hb dX11_deep_10 rfl (lv_at hl 1 rfl) ?_
    refine lv_iload_n hx hb dX11_deep_11 rfl (lv_at hl 2 rfl) ?_
    refine lv_iconst (v := (-1)) hx hb dX11_deep_12 (by decide) ?_
    refine tl_si (tl_rV (As := [.int p0, .int p1, .int (-1)]) (rest := []) ⟨hx, hb, hml, hown, hta⟩ hK hN hP hD (ci := 11) rfl 0 rfl lk_X11_246 (c_X11_look l D cy s.heap.size x p0 p1 (-1) b im la cu wa pa dr su mk vi re rd so fw wo gi ck ) rfl rfl ⟨Nat.le_of_ble_eq_true rfl, Nat.le_of_ble_eq_true rfl⟩ rfl hl.1 rfl (Nat.le_of_ble_eq_true rfl) dX11_deep_13 ⟨Nat.le_of_ble_eq_true rfl, Nat.le_of_ble_eq_true rfl⟩) (fun r_5 hw_4 => ?_)
    subst hw_4
    refine lv_if_ne (tgt := 23) hx hb dX11_deep_16 (by decide) (fun c => absurd c (by decide)) (fun _ => ?_)
    refine lv_ldc2 (v := (-2000000000)) hx hb hown (hta _ wk_961) dX11_deep_19 ?_
    exact W.lret (v := (-2000000000)) hx hb hr (fun t ht hW => ⟨_, rfl, rfl, ht⟩) (fun q h => by cases h) dX11_deep_22
set_option maxHeartbeats 4000000 in
set_option maxRecDepth 100000 in
theorem c_X11_moved (l : Launch) (D : va_G) (cy : Nat → ClassId) (sz : Nat) (x : Nat) (p0 : Int32) (p1 : Int32) (p2 : Int32) (b : Nat) (im : Nat) (la : Nat) (cu : Nat) (wa : Nat) (pa : Nat) (dr : Nat) (su : Nat) (mk : Nat) (vi : Nat) (re : Nat) (rd : Nat) (so : Nat) (fw : Nat) (wo : Nat) (gi : Nat) (ck : Nat)  : Met l yX11_moved (tl_w yX11_moved cX11_moved 4 (some .long)) ({ frames := 2, cells := 0, slots := 0, locals := 45 }) (va_Pc [.ref x, .int p0, .int p1, .int p2] (tl_P D cy [(x, .inr (11, [.ref b, .ref im, .ref la, .ref cu, .ref wa, .ref pa, .ref dr, .ref su, .ref mk, .ref vi, .ref re, .ref rd, .ref so, .ref fw, .ref wo, .ref gi])), (cu, .inr (8, [.ref ck, .int 0]))] sz)) (vp_Sl (fun r : Int64 => r = (-2000000000))) 0 0 (fun _ => False) := by
  refine Met.ofW (cc := cX11_moved) (maxL := 4) (ret := (some .long)) (by decide) rfl ?_
  intro p e s m args below meth c s₁ B hml hv
  obtain ⟨rfl, hsz, hP, hK, hD0, hN⟩ := hv
  have hx := B.exec
  have hb := B.bytes
  have hr := B.returns
  have hta := tl_hta (atoms_spec (ws := tl_w yX11_moved cX11_moved 4 (some .long)) B.pre)
  have hown : s.vm.findClass RX11 = some m.cls := findClass_of_methodNamed B.named
  have hlocks := B.notSynchronized
  subst hsz
  have hD := hD0
  have hP : va_P D vwCl [(x, .inr (11, [.ref b, .ref im, .ref la, .ref cu, .ref wa, .ref pa, .ref dr, .ref su, .ref mk, .ref vi, .ref re, .ref rd, .ref so, .ref fw, .ref wo, .ref gi])), (cu, .inr (8, [.ref ck, .int 0]))] s.heap := hP
  have hl := lv_entry ([.ref x, .int p0, .int p1, .int p2]) (n := 4) (Nat.le_of_ble_eq_true rfl)
  rw [lg_entry_eq]
  generalize (lg_sl ([.ref x, .int p0, .int p1, .int p2]) ++ List.replicate (4 - (lg_sl ([.ref x, .int p0, .int p1, .int p2])).length) Slot.unset).toArray = ls at hl ⊢
  have hl : lv_has ls 4 [(0, .ref x), (1, .int p0), (2, .int p1), (3, .int p2)] := hl
  refine lv_aload_n hx hb dX11_moved_0 rfl (lv_at hl 0 rfl) ?_
  refine lv_iload_n hx hb dX11_moved_1 rfl (lv_at hl 1 rfl) ?_
  refine lv_iload_n hx hb dX11_moved_2 rfl (lv_at hl 2 rfl) ?_
  refine lv_iconst (v := (-1)) hx hb dX11_moved_3 (by decide) ?_
  refine tl_si (tl_rV (As := [.int p0, .int p1, .int (-1)]) (rest := []) ⟨hx, hb, hml, hown, hta⟩ hK hN hP hD (ci := 11) rfl 0 rfl lk_X11_246 (c_X11_look l D cy s.heap.size x p0 p1 (-1) b im la cu wa pa dr su mk vi re rd so fw wo gi ck ) rfl rfl ⟨Nat.le_of_ble_eq_true rfl, Nat.le_of_ble_eq_true rfl⟩ rfl hl.1 rfl (Nat.le_of_ble_eq_true rfl) dX11_moved_4 ⟨Nat.le_of_ble_eq_true rfl, Nat.le_of_ble_eq_true rfl⟩) (fun r_2 hw_1 => ?_)
  subst hw_1
  refine lv_if_eq (tgt := 29) hx hb dX11_moved_7 (by decide) (fun _ => ?_) (fun c => absurd c (by decide))
  refine lv_ldc2 (v := (-2000000000)) hx hb hown (hta _ wk_961) dX11_moved_29 ?_
  exact W.lret (v := (-2000000000)) hx hb hr (fun t ht hW => ⟨_, rfl, rfl, ht⟩) (fun q h => by cases h) dX11_moved_32
set_option maxHeartbeats 4000000 in
set_option maxRecDepth 100000 in
theorem c_X11_elsewhere (l : Launch) (D : va_G) (cy : Nat → ClassId) (sz : Nat) (x : Nat) (p0 : Int32) (p1 : Int32) (p2 : Int32) (b : Nat) (im : Nat) (la : Nat) (cu : Nat) (wa : Nat) (pa : Nat) (dr : Nat) (su : Nat) (mk : Nat) (vi : Nat) (re : Nat) (rd : Nat) (so : Nat) (fw : Nat) (wo : Nat) (gi : Nat) (ck : Nat)  : Met l yX11_elsewhere (tl_w yX11_elsewhere cX11_elsewhere 11 (some .int)) ({ frames := 2, cells := 0, slots := 0, locals := 45 }) (va_Pc [.ref x, .int p0, .int p1, .int p2] (tl_P D cy [(x, .inr (11, [.ref b, .ref im, .ref la, .ref cu, .ref wa, .ref pa, .ref dr, .ref su, .ref mk, .ref vi, .ref re, .ref rd, .ref so, .ref fw, .ref wo, .ref gi])), (cu, .inr (8, [.ref ck, .int 0]))] sz)) (vp_Si (fun r : Int32 => r = (-1))) 0 0 (fun _ => False) := by
  refine Met.ofW (cc := cX11_elsewhere) (maxL := 11) (ret := (some .int)) (by decide) rfl ?_
  intro p e s m args below meth c s₁ B hml hv
  obtain ⟨rfl, hsz, hP, hK, hD0, hN⟩ := hv
  have hx := B.exec
  have hb := B.bytes
  have hr := B.returns
  have hta := tl_hta (atoms_spec (ws := tl_w yX11_elsewhere cX11_elsewhere 11 (some .int)) B.pre)
  have hown : s.vm.findClass RX11 = some m.cls := findClass_of_methodNamed B.named
  have hlocks := B.notSynchronized
  subst hsz
  have hD := hD0
  have hP : va_P D vwCl [(x, .inr (11, [.ref b, .ref im, .ref la, .ref cu, .ref wa, .ref pa, .ref dr, .ref su, .ref mk, .ref vi, .ref re, .ref rd, .ref so, .ref fw, .ref wo, .ref gi])), (cu, .inr (8, [.ref ck, .int 0]))] s.heap := hP
  have hl := lv_entry ([.ref x, .int p0, .int p1, .int p2]) (n := 11) (Nat.le_of_ble_eq_true rfl)
  rw [lg_entry_eq]
  generalize (lg_sl ([.ref x, .int p0, .int p1, .int p2]) ++ List.replicate (11 - (lg_sl ([.ref x, .int p0, .int p1, .int p2])).length) Slot.unset).toArray = ls at hl ⊢
  have hl : lv_has ls 11 [(0, .ref x), (1, .int p0), (2, .int p1), (3, .int p2)] := hl
  refine lv_iload_n hx hb dX11_elsewhere_0 rfl (lv_at hl 3 rfl) ?_
  refine lv_iconst (v := 0) hx hb dX11_elsewhere_1 (by decide) ?_
  refine lv_iconst (v := 1) hx hb dX11_elsewhere_2 (by decide) ?_
  have hPc := hP.sub (ws' := []) [] rfl
  have hDc := hD.sub (ws' := []) [] (by decide) rfl
  refine tl_si (tl_rS (As := [.int p2, .int 0, .int 1]) (rest := []) ⟨hx, hb, hml, hown, hta⟩ hK hN hPc hDc lk_X11_105 (c_X11_isIn l D cy s.heap.size p2 0 1 ) rfl rfl ⟨Nat.le_of_ble_eq_true rfl, Nat.le_of_ble_eq_true rfl⟩ rfl hl.1 rfl (Nat.le_of_ble_eq_true rfl) dX11_elsewhere_3 ⟨Nat.le_of_ble_eq_true rfl, Nat.le_of_ble_eq_true rfl⟩) (fun r_2 hw_1 => ?_)
  have hw_1 : tl_E r_2 ((0 : Int) ≤ p2.toInt ∧ p2.toInt ≤ (1 : Int)) 1 0 := hw_1
  refine lv_if_eq (tgt := 19) hx hb dX11_elsewhere_6 (by decide) (fun c_3 => ?_) (fun c_3 => ?_)
  · have c_3 := hw_1.f c_3
    refine lv_iconst (v := (-1)) hx hb dX11_elsewhere_19 (by decide) ?_
    exact W.iret (v := (-1)) hx hb hr (fun t ht hW => ⟨_, rfl, rfl, ht⟩) (fun q h => by cases h) dX11_elsewhere_20
  · have c_3 := hw_1.t c_3
    refine lv_aload_n hx hb dX11_elsewhere_9 rfl (lv_at hl 0 rfl) ?_
    refine lv_iload_n hx hb dX11_elsewhere_10 rfl (lv_at hl 1 rfl) ?_
    refine lv_iload_n hx hb dX11_elsewhere_11 rfl (lv_at hl 2 rfl) ?_
    refine lv_iconst (v := (-1)) hx hb dX11_elsewhere_12 (by decide) ?_
    refine tl_si (tl_rV (As := [.int p0, .int p1, .int (-1)]) (rest := []) ⟨hx, hb, hml, hown, hta⟩ hK hN hP hD (ci := 11) rfl 0 rfl lk_X11_246 (c_X11_look l D cy s.heap.size x p0 p1 (-1) b im la cu wa pa dr su mk vi re rd so fw wo gi ck ) rfl rfl ⟨Nat.le_of_ble_eq_true rfl, Nat.le_of_ble_eq_true rfl⟩ rfl hl.1 rfl (Nat.le_of_ble_eq_true rfl) dX11_elsewhere_13 ⟨Nat.le_of_ble_eq_true rfl, Nat.le_of_ble_eq_true rfl⟩) (fun r_5 hw_4 => ?_)
    subst hw_4
    refine lv_if_ne (tgt := 21) hx hb dX11_elsewhere_16 (by decide) (fun c => absurd c (by decide)) (fun _ => ?_)
    refine lv_iconst (v := (-1)) hx hb dX11_elsewhere_19 (by decide) ?_
    exact W.iret (v := (-1)) hx hb hr (fun t ht hW => ⟨_, rfl, rfl, ht⟩) (fun q h => by cases h) dX11_elsewhere_20
set_option maxHeartbeats 4000000 in
set_option maxRecDepth 100000 in
theorem c_X11_deepest (l : Launch) (D : va_G) (cy : Nat → ClassId) (sz : Nat) (x : Nat) (p0 : Int32) (p1 : Int32) (p2 : Int32) (b : Nat) (im : Nat) (la : Nat) (cu : Nat) (wa : Nat) (pa : Nat) (dr : Nat) (su : Nat) (mk : Nat) (vi : Nat) (re : Nat) (rd : Nat) (so : Nat) (fw : Nat) (wo : Nat) (gi : Nat) (ck : Nat)  : Met l yX11_deepest (tl_w yX11_deepest cX11_deepest 10 (some .long)) ({ frames := 2, cells := 0, slots := 0, locals := 45 }) (va_Pc [.ref x, .int p0, .int p1, .int p2] (tl_P D cy [(x, .inr (11, [.ref b, .ref im, .ref la, .ref cu, .ref wa, .ref pa, .ref dr, .ref su, .ref mk, .ref vi, .ref re, .ref rd, .ref so, .ref fw, .ref wo, .ref gi])), (cu, .inr (8, [.ref ck, .int 0]))] sz)) (vp_Sl (fun r : Int64 => r = (-2100000000))) 0 0 (fun _ => False) := by
  refine Met.ofW (cc := cX11_deepest) (maxL := 10) (ret := (some .long)) (by decide) rfl ?_
  intro p e s m args below meth c s₁ B hml hv
  obtain ⟨rfl, hsz, hP, hK, hD0, hN⟩ := hv
  have hx := B.exec
  have hb := B.bytes
  have hr := B.returns
  have hta := tl_hta (atoms_spec (ws := tl_w yX11_deepest cX11_deepest 10 (some .long)) B.pre)
  have hown : s.vm.findClass RX11 = some m.cls := findClass_of_methodNamed B.named
  have hlocks := B.notSynchronized
  subst hsz
  have hD := hD0
  have hP : va_P D vwCl [(x, .inr (11, [.ref b, .ref im, .ref la, .ref cu, .ref wa, .ref pa, .ref dr, .ref su, .ref mk, .ref vi, .ref re, .ref rd, .ref so, .ref fw, .ref wo, .ref gi])), (cu, .inr (8, [.ref ck, .int 0]))] s.heap := hP
  have hl := lv_entry ([.ref x, .int p0, .int p1, .int p2]) (n := 10) (Nat.le_of_ble_eq_true rfl)
  rw [lg_entry_eq]
  generalize (lg_sl ([.ref x, .int p0, .int p1, .int p2]) ++ List.replicate (10 - (lg_sl ([.ref x, .int p0, .int p1, .int p2])).length) Slot.unset).toArray = ls at hl ⊢
  have hl : lv_has ls 10 [(0, .ref x), (1, .int p0), (2, .int p1), (3, .int p2)] := hl
  refine lv_iload_n hx hb dX11_deepest_0 rfl (lv_at hl 3 rfl) ?_
  refine lv_iconst (v := 0) hx hb dX11_deepest_1 (by decide) ?_
  refine lv_iconst (v := 1) hx hb dX11_deepest_2 (by decide) ?_
  have hPc := hP.sub (ws' := []) [] rfl
  have hDc := hD.sub (ws' := []) [] (by decide) rfl
  refine tl_si (tl_rS (As := [.int p2, .int 0, .int 1]) (rest := []) ⟨hx, hb, hml, hown, hta⟩ hK hN hPc hDc lk_X11_105 (c_X11_isIn l D cy s.heap.size p2 0 1 ) rfl rfl ⟨Nat.le_of_ble_eq_true rfl, Nat.le_of_ble_eq_true rfl⟩ rfl hl.1 rfl (Nat.le_of_ble_eq_true rfl) dX11_deepest_3 ⟨Nat.le_of_ble_eq_true rfl, Nat.le_of_ble_eq_true rfl⟩) (fun r_2 hw_1 => ?_)
  have hw_1 : tl_E r_2 ((0 : Int) ≤ p2.toInt ∧ p2.toInt ≤ (1 : Int)) 1 0 := hw_1
  refine lv_if_eq (tgt := 19) hx hb dX11_deepest_6 (by decide) (fun c_3 => ?_) (fun c_3 => ?_)
  · have c_3 := hw_1.f c_3
    refine lv_ldc2 (v := (-2100000000)) hx hb hown (hta _ wk_1302) dX11_deepest_19 ?_
    exact W.lret (v := (-2100000000)) hx hb hr (fun t ht hW => ⟨_, rfl, rfl, ht⟩) (fun q h => by cases h) dX11_deepest_22
  · have c_3 := hw_1.t c_3
    refine lv_aload_n hx hb dX11_deepest_9 rfl (lv_at hl 0 rfl) ?_
    refine lv_iload_n hx hb dX11_deepest_10 rfl (lv_at hl 1 rfl) ?_
    refine lv_iload_n hx hb dX11_deepest_11 rfl (lv_at hl 2 rfl) ?_
    refine lv_iconst (v := (-1)) hx hb dX11_deepest_12 (by decide) ?_
    refine tl_si (tl_rV (As := [.int p0, .int p1, .int (-1)]) (rest := []) ⟨hx, hb, hml, hown, hta⟩ hK hN hP hD (ci := 11) rfl 0 rfl lk_X11_246 (c_X11_look l D cy s.heap.size x p0 p1 (-1) b im la cu wa pa dr su mk vi re rd so fw wo gi ck ) rfl rfl ⟨Nat.le_of_ble_eq_true rfl, Nat.le_of_ble_eq_true rfl⟩ rfl hl.1 rfl (Nat.le_of_ble_eq_true rfl) dX11_deepest_13 ⟨Nat.le_of_ble_eq_true rfl, Nat.le_of_ble_eq_true rfl⟩) (fun r_5 hw_4 => ?_)
    subst hw_4
    refine lv_if_ne (tgt := 23) hx hb dX11_deepest_16 (by decide) (fun c => absurd c (by decide)) (fun _ => ?_)
    refine lv_ldc2 (v := (-2100000000)) hx hb hown (hta _ wk_1302) dX11_deepest_19 ?_
    exact W.lret (v := (-2100000000)) hx hb hr (fun t ht hW => ⟨_, rfl, rfl, ht⟩) (fun q h => by cases h) dX11_deepest_22
set_option maxHeartbeats 4000000 in
set_option maxRecDepth 100000 in
theorem c_X11_drawn (l : Launch) (D : va_G) (cy : Nat → ClassId) (sz : Nat) (x : Nat) (p0 : Int32) (p1 : Int32) (p2 : Int32) (p3 : Int32) (p4 : Int32) (b : Nat) (im : Nat) (la : Nat) (cu : Nat) (wa : Nat) (pa : Nat) (dr : Nat) (su : Nat) (mk : Nat) (vi : Nat) (re : Nat) (rd : Nat) (so : Nat) (fw : Nat) (wo : Nat) (gi : Nat) (lk : Nat)  : Met l yX11_drawn (tl_w yX11_drawn cX11_drawn 12 (some .int)) ({ frames := 1, cells := 0, slots := 0, locals := 21 }) (va_Pc [.ref x, .int p0, .int p1, .int p2, .int p3, .int p4] (tl_P D cy [(x, .inr (11, [.ref b, .ref im, .ref la, .ref cu, .ref wa, .ref pa, .ref dr, .ref su, .ref mk, .ref vi, .ref re, .ref rd, .ref so, .ref fw, .ref wo, .ref gi])), (la, .inr (8, [.ref lk, .int 0]))] sz)) (vp_Si (fun r : Int32 => r = (-1))) 0 0 (fun _ => False) := by
  refine Met.ofW (cc := cX11_drawn) (maxL := 12) (ret := (some .int)) (by decide) rfl ?_
  intro p e s m args below meth c s₁ B hml hv
  obtain ⟨rfl, hsz, hP, hK, hD0, hN⟩ := hv
  have hx := B.exec
  have hb := B.bytes
  have hr := B.returns
  have hta := tl_hta (atoms_spec (ws := tl_w yX11_drawn cX11_drawn 12 (some .int)) B.pre)
  have hown : s.vm.findClass RX11 = some m.cls := findClass_of_methodNamed B.named
  have hlocks := B.notSynchronized
  subst hsz
  have hD := hD0
  have hP : va_P D vwCl [(x, .inr (11, [.ref b, .ref im, .ref la, .ref cu, .ref wa, .ref pa, .ref dr, .ref su, .ref mk, .ref vi, .ref re, .ref rd, .ref so, .ref fw, .ref wo, .ref gi])), (la, .inr (8, [.ref lk, .int 0]))] s.heap := hP
  have hl := lv_entry ([.ref x, .int p0, .int p1, .int p2, .int p3, .int p4]) (n := 12) (Nat.le_of_ble_eq_true rfl)
  rw [lg_entry_eq]
  generalize (lg_sl ([.ref x, .int p0, .int p1, .int p2, .int p3, .int p4]) ++ List.replicate (12 - (lg_sl ([.ref x, .int p0, .int p1, .int p2, .int p3, .int p4])).length) Slot.unset).toArray = ls at hl ⊢
  have hl : lv_has ls 12 [(0, .ref x), (1, .int p0), (2, .int p1), (3, .int p2), (4, .int p3), (5, .int p4)] := hl
  refine lv_aload_n hx hb dX11_drawn_0 rfl (lv_at hl 0 rfl) ?_
  refine va_get (D := D) (ci := 11) (v := .ref la) (C := RX11) (T := TX11) (N := 16) hx hb hta inlX11 hown hK hP 0 rfl rfl 2 (by decide) (hta _ wk_20) (fun _ h9 => h9) rfl dX11_drawn_1 ?_
  refine lv_iload_n hx hb dX11_drawn_4 rfl (lv_at hl 1 rfl) ?_
  have hPc := hP.sub (ws' := [(la, .inr (8, [.ref lk, .int 0]))]) [1] rfl
  have hDc := hD.sub (ws' := [(la, .inr (8, [.ref lk, .int 0]))]) [1] (by decide) rfl
  refine tl_sq (tl_rVN (As := [.int p0]) (rest := []) ⟨hx, hb, hml, hown, hta⟩ hK hN hPc hDc (ci := 8) rfl 0 rfl lk_X11_201 (c_X8_at l D cy s.heap.size la p0 lk ) rfl rfl ⟨Nat.le_of_ble_eq_true rfl, Nat.le_of_ble_eq_true rfl⟩ rfl hl.1 rfl (Nat.le_of_ble_eq_true rfl) dX11_drawn_5 ⟨Nat.le_of_ble_eq_true rfl, Nat.le_of_ble_eq_true rfl⟩) (fun r_2 hw_1 => ?_)
  subst hw_1
  refine W.eq (g2 := F0 m 8 ls [.null]) rfl ?_
  refine lv_astoreN (lv' := [(6, .null), (0, .ref x), (1, .int p0), (2, .int p1), (3, .int p2), (4, .int p3), (5, .int p4)]) hx hb dX11_drawn_8 hl (by decide) rfl (fun ls hl => ?_)
  refine lv_aloadN hx hb dX11_drawn_10 (lv_at hl 0 rfl) ?_
  refine lv_ifnullN (tgt := 41) hx hb dX11_drawn_12 (by decide) ?_
  refine lv_iconst (v := (-1)) hx hb dX11_drawn_41 (by decide) ?_
  exact W.iret (v := (-1)) hx hb hr (fun t ht hW => ⟨_, rfl, rfl, ht⟩) (fun q h => by cases h) dX11_drawn_42
set_option maxHeartbeats 4000000 in
set_option maxRecDepth 100000 in
theorem c_X11_bent (l : Launch) (D : va_G) (cy : Nat → ClassId) (sz : Nat) (x : Nat) (p0 : Int32) (p1 : Int32) (p2 : Int32) (b : Nat) (im : Nat) (la : Nat) (cu : Nat) (wa : Nat) (pa : Nat) (dr : Nat) (su : Nat) (mk : Nat) (vi : Nat) (re : Nat) (rd : Nat) (so : Nat) (fw : Nat) (wo : Nat) (gi : Nat) (ck : Nat)  : Met l yX11_bent (tl_w yX11_bent cX11_bent 4 (some .long)) ({ frames := 2, cells := 0, slots := 0, locals := 45 }) (va_Pc [.ref x, .int p0, .int p1, .int p2] (tl_P D cy [(x, .inr (11, [.ref b, .ref im, .ref la, .ref cu, .ref wa, .ref pa, .ref dr, .ref su, .ref mk, .ref vi, .ref re, .ref rd, .ref so, .ref fw, .ref wo, .ref gi])), (cu, .inr (8, [.ref ck, .int 0]))] sz)) (vp_Sl (fun r : Int64 => r = (-2000000000))) 0 0 (fun _ => False) := by
  refine Met.ofW (cc := cX11_bent) (maxL := 4) (ret := (some .long)) (by decide) rfl ?_
  intro p e s m args below meth c s₁ B hml hv
  obtain ⟨rfl, hsz, hP, hK, hD0, hN⟩ := hv
  have hx := B.exec
  have hb := B.bytes
  have hr := B.returns
  have hta := tl_hta (atoms_spec (ws := tl_w yX11_bent cX11_bent 4 (some .long)) B.pre)
  have hown : s.vm.findClass RX11 = some m.cls := findClass_of_methodNamed B.named
  have hlocks := B.notSynchronized
  subst hsz
  have hD := hD0
  have hP : va_P D vwCl [(x, .inr (11, [.ref b, .ref im, .ref la, .ref cu, .ref wa, .ref pa, .ref dr, .ref su, .ref mk, .ref vi, .ref re, .ref rd, .ref so, .ref fw, .ref wo, .ref gi])), (cu, .inr (8, [.ref ck, .int 0]))] s.heap := hP
  have hl := lv_entry ([.ref x, .int p0, .int p1, .int p2]) (n := 4) (Nat.le_of_ble_eq_true rfl)
  rw [lg_entry_eq]
  generalize (lg_sl ([.ref x, .int p0, .int p1, .int p2]) ++ List.replicate (4 - (lg_sl ([.ref x, .int p0, .int p1, .int p2])).length) Slot.unset).toArray = ls at hl ⊢
  have hl : lv_has ls 4 [(0, .ref x), (1, .int p0), (2, .int p1), (3, .int p2)] := hl
  refine lv_iload_n hx hb dX11_bent_0 rfl (lv_at hl 3 rfl) ?_
  refine lv_iconst (v := 0) hx hb dX11_bent_1 (by decide) ?_
  refine lv_bipush (v := 40) hx hb dX11_bent_2 (by decide) ?_
  have hPc := hP.sub (ws' := []) [] rfl
  have hDc := hD.sub (ws' := []) [] (by decide) rfl
  refine tl_si (tl_rS (As := [.int p2, .int 0, .int 40]) (rest := []) ⟨hx, hb, hml, hown, hta⟩ hK hN hPc hDc lk_X11_105 (c_X11_isIn l D cy s.heap.size p2 0 40 ) rfl rfl ⟨Nat.le_of_ble_eq_true rfl, Nat.le_of_ble_eq_true rfl⟩ rfl hl.1 rfl (Nat.le_of_ble_eq_true rfl) dX11_bent_4 ⟨Nat.le_of_ble_eq_true rfl, Nat.le_of_ble_eq_true rfl⟩) (fun r_2 hw_1 => ?_)
  have hw_1 : tl_E r_2 ((0 : Int) ≤ p2.toInt ∧ p2.toInt ≤ (40 : Int)) 1 0 := hw_1
  refine lv_if_eq (tgt := 20) hx hb dX11_bent_7 (by decide) (fun c_3 => ?_) (fun c_3 => ?_)
  · have c_3 := hw_1.f c_3
    refine lv_ldc2 (v := (-2000000000)) hx hb hown (hta _ wk_961) dX11_bent_20 ?_
    exact W.lret (v := (-2000000000)) hx hb hr (fun t ht hW => ⟨_, rfl, rfl, ht⟩) (fun q h => by cases h) dX11_bent_23
  · have c_3 := hw_1.t c_3
    refine lv_aload_n hx hb dX11_bent_10 rfl (lv_at hl 0 rfl) ?_
    refine lv_iload_n hx hb dX11_bent_11 rfl (lv_at hl 1 rfl) ?_
    refine lv_iload_n hx hb dX11_bent_12 rfl (lv_at hl 2 rfl) ?_
    refine lv_iconst (v := (-1)) hx hb dX11_bent_13 (by decide) ?_
    refine tl_si (tl_rV (As := [.int p0, .int p1, .int (-1)]) (rest := []) ⟨hx, hb, hml, hown, hta⟩ hK hN hP hD (ci := 11) rfl 0 rfl lk_X11_246 (c_X11_look l D cy s.heap.size x p0 p1 (-1) b im la cu wa pa dr su mk vi re rd so fw wo gi ck ) rfl rfl ⟨Nat.le_of_ble_eq_true rfl, Nat.le_of_ble_eq_true rfl⟩ rfl hl.1 rfl (Nat.le_of_ble_eq_true rfl) dX11_bent_14 ⟨Nat.le_of_ble_eq_true rfl, Nat.le_of_ble_eq_true rfl⟩) (fun r_5 hw_4 => ?_)
    subst hw_4
    refine lv_if_ne (tgt := 24) hx hb dX11_bent_17 (by decide) (fun c => absurd c (by decide)) (fun _ => ?_)
    refine lv_ldc2 (v := (-2000000000)) hx hb hown (hta _ wk_961) dX11_bent_20 ?_
    exact W.lret (v := (-2000000000)) hx hb hr (fun t ht hW => ⟨_, rfl, rfl, ht⟩) (fun q h => by cases h) dX11_bent_23
set_option maxHeartbeats 4000000 in
set_option maxRecDepth 100000 in
theorem c_X11_best (l : Launch) (D : va_G) (cy : Nat → ClassId) (sz : Nat) (x : Nat) (p0 : Int32) (p1 : Int32) (p2 : Int32) (p3 : Int32) (b : Nat) (im : Nat) (la : Nat) (cu : Nat) (wa : Nat) (pa : Nat) (dr : Nat) (su : Nat) (mk : Nat) (vi : Nat) (re : Nat) (rd : Nat) (so : Nat) (fw : Nat) (wo : Nat) (gi : Nat) (ck : Nat)  : Met l yX11_best (tl_w yX11_best cX11_best 11 (some .long)) ({ frames := 2, cells := 0, slots := 0, locals := 45 }) (va_Pc [.ref x, .int p0, .int p1, .int p2, .int p3] (tl_P D cy [(x, .inr (11, [.ref b, .ref im, .ref la, .ref cu, .ref wa, .ref pa, .ref dr, .ref su, .ref mk, .ref vi, .ref re, .ref rd, .ref so, .ref fw, .ref wo, .ref gi])), (cu, .inr (8, [.ref ck, .int 0]))] sz)) (vp_Sl (fun r : Int64 => r = (-1))) 0 0 (fun _ => False) := by
  refine Met.ofW (cc := cX11_best) (maxL := 11) (ret := (some .long)) (by decide) rfl ?_
  intro p e s m args below meth c s₁ B hml hv
  obtain ⟨rfl, hsz, hP, hK, hD0, hN⟩ := hv
  have hx := B.exec
  have hb := B.bytes
  have hr := B.returns
  have hta := tl_hta (atoms_spec (ws := tl_w yX11_best cX11_best 11 (some .long)) B.pre)
  have hown : s.vm.findClass RX11 = some m.cls := findClass_of_methodNamed B.named
  have hlocks := B.notSynchronized
  subst hsz
  have hD := hD0
  have hP : va_P D vwCl [(x, .inr (11, [.ref b, .ref im, .ref la, .ref cu, .ref wa, .ref pa, .ref dr, .ref su, .ref mk, .ref vi, .ref re, .ref rd, .ref so, .ref fw, .ref wo, .ref gi])), (cu, .inr (8, [.ref ck, .int 0]))] s.heap := hP
  have hl := lv_entry ([.ref x, .int p0, .int p1, .int p2, .int p3]) (n := 11) (Nat.le_of_ble_eq_true rfl)
  rw [lg_entry_eq]
  generalize (lg_sl ([.ref x, .int p0, .int p1, .int p2, .int p3]) ++ List.replicate (11 - (lg_sl ([.ref x, .int p0, .int p1, .int p2, .int p3])).length) Slot.unset).toArray = ls at hl ⊢
  have hl : lv_has ls 11 [(0, .ref x), (1, .int p0), (2, .int p1), (3, .int p2), (4, .int p3)] := hl
  refine lv_iload_n hx hb dX11_best_0 rfl (lv_at hl 3 rfl) ?_
  refine lv_iconst (v := 0) hx hb dX11_best_1 (by decide) ?_
  refine lv_ldcw (v := 99999) hx hb hown (hta _ wk_1053) dX11_best_2 ?_
  have hPc := hP.sub (ws' := []) [] rfl
  have hDc := hD.sub (ws' := []) [] (by decide) rfl
  refine tl_si (tl_rS (As := [.int p2, .int 0, .int 99999]) (rest := []) ⟨hx, hb, hml, hown, hta⟩ hK hN hPc hDc lk_X11_105 (c_X11_isIn l D cy s.heap.size p2 0 99999 ) rfl rfl ⟨Nat.le_of_ble_eq_true rfl, Nat.le_of_ble_eq_true rfl⟩ rfl hl.1 rfl (Nat.le_of_ble_eq_true rfl) dX11_best_5 ⟨Nat.le_of_ble_eq_true rfl, Nat.le_of_ble_eq_true rfl⟩) (fun r_2 hw_1 => ?_)
  have hw_1 : tl_E r_2 ((0 : Int) ≤ p2.toInt ∧ p2.toInt ≤ (99999 : Int)) 1 0 := hw_1
  refine lv_if_eq (tgt := 31) hx hb dX11_best_8 (by decide) (fun c_3 => ?_) (fun c_3 => ?_)
  · have c_3 := hw_1.f c_3
    refine lv_ldc2 (v := (-1)) hx hb hown (hta _ wk_962) dX11_best_31 ?_
    exact W.lret (v := (-1)) hx hb hr (fun t ht hW => ⟨_, rfl, rfl, ht⟩) (fun q h => by cases h) dX11_best_34
  · have c_3 := hw_1.t c_3
    refine lv_iload hx hb dX11_best_11 (lv_at hl 4 rfl) ?_
    refine lv_iconst (v := 0) hx hb dX11_best_13 (by decide) ?_
    refine lv_iconst (v := 1) hx hb dX11_best_14 (by decide) ?_
    have hPc := hP.sub (ws' := []) [] rfl
    have hDc := hD.sub (ws' := []) [] (by decide) rfl
    refine tl_si (tl_rS (As := [.int p3, .int 0, .int 1]) (rest := []) ⟨hx, hb, hml, hown, hta⟩ hK hN hPc hDc lk_X11_105 (c_X11_isIn l D cy s.heap.size p3 0 1 ) rfl rfl ⟨Nat.le_of_ble_eq_true rfl, Nat.le_of_ble_eq_true rfl⟩ rfl hl.1 rfl (Nat.le_of_ble_eq_true rfl) dX11_best_15 ⟨Nat.le_of_ble_eq_true rfl, Nat.le_of_ble_eq_true rfl⟩) (fun r_5 hw_4 => ?_)
    have hw_4 : tl_E r_5 ((0 : Int) ≤ p3.toInt ∧ p3.toInt ≤ (1 : Int)) 1 0 := hw_4
    refine lv_if_eq (tgt := 31) hx hb dX11_best_18 (by decide) (fun c_6 => ?_) (fun c_6 => ?_)
    · have c_6 := hw_4.f c_6
      refine lv_ldc2 (v := (-1)) hx hb hown (hta _ wk_962) dX11_best_31 ?_
      exact W.lret (v := (-1)) hx hb hr (fun t ht hW => ⟨_, rfl, rfl, ht⟩) (fun q h => by cases h) dX11_best_34
    · have c_6 := hw_4.t c_6
      refine lv_aload_n hx hb dX11_best_21 rfl (lv_at hl 0 rfl) ?_
      refine lv_iload_n hx hb dX11_best_22 rfl (lv_at hl 1 rfl) ?_
      refine lv_iload_n hx hb dX11_best_23 rfl (lv_at hl 2 rfl) ?_
      refine lv_iconst (v := (-1)) hx hb dX11_best_24 (by decide) ?_
      refine tl_si (tl_rV (As := [.int p0, .int p1, .int (-1)]) (rest := []) ⟨hx, hb, hml, hown, hta⟩ hK hN hP hD (ci := 11) rfl 0 rfl lk_X11_246 (c_X11_look l D cy s.heap.size x p0 p1 (-1) b im la cu wa pa dr su mk vi re rd so fw wo gi ck ) rfl rfl ⟨Nat.le_of_ble_eq_true rfl, Nat.le_of_ble_eq_true rfl⟩ rfl hl.1 rfl (Nat.le_of_ble_eq_true rfl) dX11_best_25 ⟨Nat.le_of_ble_eq_true rfl, Nat.le_of_ble_eq_true rfl⟩) (fun r_8 hw_7 => ?_)
      subst hw_7
      refine lv_if_ne (tgt := 35) hx hb dX11_best_28 (by decide) (fun c => absurd c (by decide)) (fun _ => ?_)
      refine lv_ldc2 (v := (-1)) hx hb hown (hta _ wk_962) dX11_best_31 ?_
      exact W.lret (v := (-1)) hx hb hr (fun t ht hW => ⟨_, rfl, rfl, ht⟩) (fun q h => by cases h) dX11_best_34
set_option maxHeartbeats 4000000 in
set_option maxRecDepth 100000 in
theorem c_X11_taken (l : Launch) (D : va_G) (cy : Nat → ClassId) (sz : Nat) (x : Nat) (p0 : Int32) (p1 : Int32) (p2 : Int32) (p3 : Int32) (b : Nat) (im : Nat) (la : Nat) (cu : Nat) (wa : Nat) (pa : Nat) (dr : Nat) (su : Nat) (mk : Nat) (vi : Nat) (re : Nat) (rd : Nat) (so : Nat) (fw : Nat) (wo : Nat) (gi : Nat) (ck : Nat)  : Met l yX11_taken (tl_w yX11_taken cX11_taken 11 (some .int)) ({ frames := 2, cells := 0, slots := 0, locals := 45 }) (va_Pc [.ref x, .int p0, .int p1, .int p2, .int p3] (tl_P D cy [(x, .inr (11, [.ref b, .ref im, .ref la, .ref cu, .ref wa, .ref pa, .ref dr, .ref su, .ref mk, .ref vi, .ref re, .ref rd, .ref so, .ref fw, .ref wo, .ref gi])), (cu, .inr (8, [.ref ck, .int 0]))] sz)) (vp_Si (fun r : Int32 => r = (-2000000))) 0 0 (fun _ => False) := by
  refine Met.ofW (cc := cX11_taken) (maxL := 11) (ret := (some .int)) (by decide) rfl ?_
  intro p e s m args below meth c s₁ B hml hv
  obtain ⟨rfl, hsz, hP, hK, hD0, hN⟩ := hv
  have hx := B.exec
  have hb := B.bytes
  have hr := B.returns
  have hta := tl_hta (atoms_spec (ws := tl_w yX11_taken cX11_taken 11 (some .int)) B.pre)
  have hown : s.vm.findClass RX11 = some m.cls := findClass_of_methodNamed B.named
  have hlocks := B.notSynchronized
  subst hsz
  have hD := hD0
  have hP : va_P D vwCl [(x, .inr (11, [.ref b, .ref im, .ref la, .ref cu, .ref wa, .ref pa, .ref dr, .ref su, .ref mk, .ref vi, .ref re, .ref rd, .ref so, .ref fw, .ref wo, .ref gi])), (cu, .inr (8, [.ref ck, .int 0]))] s.heap := hP
  have hl := lv_entry ([.ref x, .int p0, .int p1, .int p2, .int p3]) (n := 11) (Nat.le_of_ble_eq_true rfl)
  rw [lg_entry_eq]
  generalize (lg_sl ([.ref x, .int p0, .int p1, .int p2, .int p3]) ++ List.replicate (11 - (lg_sl ([.ref x, .int p0, .int p1, .int p2, .int p3])).length) Slot.unset).toArray = ls at hl ⊢
  have hl : lv_has ls 11 [(0, .ref x), (1, .int p0), (2, .int p1), (3, .int p2), (4, .int p3)] := hl
  refine lv_iload_n hx hb dX11_taken_0 rfl (lv_at hl 3 rfl) ?_
  refine lv_iconst (v := 1) hx hb dX11_taken_1 (by decide) ?_
  refine lv_sipush (v := 9999) hx hb dX11_taken_2 (by decide) ?_
  have hPc := hP.sub (ws' := []) [] rfl
  have hDc := hD.sub (ws' := []) [] (by decide) rfl
  refine tl_si (tl_rS (As := [.int p2, .int 1, .int 9999]) (rest := []) ⟨hx, hb, hml, hown, hta⟩ hK hN hPc hDc lk_X11_105 (c_X11_isIn l D cy s.heap.size p2 1 9999 ) rfl rfl ⟨Nat.le_of_ble_eq_true rfl, Nat.le_of_ble_eq_true rfl⟩ rfl hl.1 rfl (Nat.le_of_ble_eq_true rfl) dX11_taken_5 ⟨Nat.le_of_ble_eq_true rfl, Nat.le_of_ble_eq_true rfl⟩) (fun r_2 hw_1 => ?_)
  have hw_1 : tl_E r_2 ((1 : Int) ≤ p2.toInt ∧ p2.toInt ≤ (9999 : Int)) 1 0 := hw_1
  refine lv_if_eq (tgt := 32) hx hb dX11_taken_8 (by decide) (fun c_3 => ?_) (fun c_3 => ?_)
  · have c_3 := hw_1.f c_3
    refine lv_ldc (v := (-2000000)) hx hb hown (hta _ wk_230) dX11_taken_32 ?_
    exact W.iret (v := (-2000000)) hx hb hr (fun t ht hW => ⟨_, rfl, rfl, ht⟩) (fun q h => by cases h) dX11_taken_34
  · have c_3 := hw_1.t c_3
    refine lv_iload hx hb dX11_taken_11 (lv_at hl 4 rfl) ?_
    refine lv_iconst (v := 1) hx hb dX11_taken_13 (by decide) ?_
    refine lv_bipush (v := 99) hx hb dX11_taken_14 (by decide) ?_
    have hPc := hP.sub (ws' := []) [] rfl
    have hDc := hD.sub (ws' := []) [] (by decide) rfl
    refine tl_si (tl_rS (As := [.int p3, .int 1, .int 99]) (rest := []) ⟨hx, hb, hml, hown, hta⟩ hK hN hPc hDc lk_X11_105 (c_X11_isIn l D cy s.heap.size p3 1 99 ) rfl rfl ⟨Nat.le_of_ble_eq_true rfl, Nat.le_of_ble_eq_true rfl⟩ rfl hl.1 rfl (Nat.le_of_ble_eq_true rfl) dX11_taken_16 ⟨Nat.le_of_ble_eq_true rfl, Nat.le_of_ble_eq_true rfl⟩) (fun r_5 hw_4 => ?_)
    have hw_4 : tl_E r_5 ((1 : Int) ≤ p3.toInt ∧ p3.toInt ≤ (99 : Int)) 1 0 := hw_4
    refine lv_if_eq (tgt := 32) hx hb dX11_taken_19 (by decide) (fun c_6 => ?_) (fun c_6 => ?_)
    · have c_6 := hw_4.f c_6
      refine lv_ldc (v := (-2000000)) hx hb hown (hta _ wk_230) dX11_taken_32 ?_
      exact W.iret (v := (-2000000)) hx hb hr (fun t ht hW => ⟨_, rfl, rfl, ht⟩) (fun q h => by cases h) dX11_taken_34
    · have c_6 := hw_4.t c_6
      refine lv_aload_n hx hb dX11_taken_22 rfl (lv_at hl 0 rfl) ?_
      refine lv_iload_n hx hb dX11_taken_23 rfl (lv_at hl 1 rfl) ?_
      refine lv_iload_n hx hb dX11_taken_24 rfl (lv_at hl 2 rfl) ?_
      refine lv_iconst (v := (-1)) hx hb dX11_taken_25 (by decide) ?_
      refine tl_si (tl_rV (As := [.int p0, .int p1, .int (-1)]) (rest := []) ⟨hx, hb, hml, hown, hta⟩ hK hN hP hD (ci := 11) rfl 0 rfl lk_X11_246 (c_X11_look l D cy s.heap.size x p0 p1 (-1) b im la cu wa pa dr su mk vi re rd so fw wo gi ck ) rfl rfl ⟨Nat.le_of_ble_eq_true rfl, Nat.le_of_ble_eq_true rfl⟩ rfl hl.1 rfl (Nat.le_of_ble_eq_true rfl) dX11_taken_26 ⟨Nat.le_of_ble_eq_true rfl, Nat.le_of_ble_eq_true rfl⟩) (fun r_8 hw_7 => ?_)
      subst hw_7
      refine lv_if_ne (tgt := 35) hx hb dX11_taken_29 (by decide) (fun c => absurd c (by decide)) (fun _ => ?_)
      refine lv_ldc (v := (-2000000)) hx hb hown (hta _ wk_230) dX11_taken_32 ?_
      exact W.iret (v := (-2000000)) hx hb hr (fun t ht hW => ⟨_, rfl, rfl, ht⟩) (fun q h => by cases h) dX11_taken_34
set_option maxHeartbeats 4000000 in
set_option maxRecDepth 100000 in
theorem c_X11_apart (l : Launch) (D : va_G) (cy : Nat → ClassId) (sz : Nat) (x : Nat) (p0 : Int32) (p1 : Int32) (p2 : Int32) (b : Nat) (im : Nat) (la : Nat) (cu : Nat) (wa : Nat) (pa : Nat) (dr : Nat) (su : Nat) (mk : Nat) (vi : Nat) (re : Nat) (rd : Nat) (so : Nat) (fw : Nat) (wo : Nat) (gi : Nat) (ck : Nat)  : Met l yX11_apart (tl_w yX11_apart cX11_apart 8 (some .int)) ({ frames := 1, cells := 0, slots := 0, locals := 21 }) (va_Pc [.ref x, .int p0, .int p1, .int p2] (tl_P D cy [(x, .inr (11, [.ref b, .ref im, .ref la, .ref cu, .ref wa, .ref pa, .ref dr, .ref su, .ref mk, .ref vi, .ref re, .ref rd, .ref so, .ref fw, .ref wo, .ref gi])), (cu, .inr (8, [.ref ck, .int 0]))] sz)) (vp_Si (fun r : Int32 => r = (-1))) 0 0 (fun _ => False) := by
  refine Met.ofW (cc := cX11_apart) (maxL := 8) (ret := (some .int)) (by decide) rfl ?_
  intro p e s m args below meth c s₁ B hml hv
  obtain ⟨rfl, hsz, hP, hK, hD0, hN⟩ := hv
  have hx := B.exec
  have hb := B.bytes
  have hr := B.returns
  have hta := tl_hta (atoms_spec (ws := tl_w yX11_apart cX11_apart 8 (some .int)) B.pre)
  have hown : s.vm.findClass RX11 = some m.cls := findClass_of_methodNamed B.named
  have hlocks := B.notSynchronized
  subst hsz
  have hD := hD0
  have hP : va_P D vwCl [(x, .inr (11, [.ref b, .ref im, .ref la, .ref cu, .ref wa, .ref pa, .ref dr, .ref su, .ref mk, .ref vi, .ref re, .ref rd, .ref so, .ref fw, .ref wo, .ref gi])), (cu, .inr (8, [.ref ck, .int 0]))] s.heap := hP
  have hl := lv_entry ([.ref x, .int p0, .int p1, .int p2]) (n := 8) (Nat.le_of_ble_eq_true rfl)
  rw [lg_entry_eq]
  generalize (lg_sl ([.ref x, .int p0, .int p1, .int p2]) ++ List.replicate (8 - (lg_sl ([.ref x, .int p0, .int p1, .int p2])).length) Slot.unset).toArray = ls at hl ⊢
  have hl : lv_has ls 8 [(0, .ref x), (1, .int p0), (2, .int p1), (3, .int p2)] := hl
  refine lv_aload_n hx hb dX11_apart_0 rfl (lv_at hl 0 rfl) ?_
  refine va_get (D := D) (ci := 11) (v := .ref cu) (C := RX11) (T := TX11) (N := 16) hx hb hta inlX11 hown hK hP 0 rfl rfl 3 (by decide) (hta _ wk_21) (fun _ h9 => h9) rfl dX11_apart_1 ?_
  refine lv_iload_n hx hb dX11_apart_4 rfl (lv_at hl 1 rfl) ?_
  have hPc := hP.sub (ws' := [(cu, .inr (8, [.ref ck, .int 0]))]) [1] rfl
  have hDc := hD.sub (ws' := [(cu, .inr (8, [.ref ck, .int 0]))]) [1] (by decide) rfl
  refine tl_sq (tl_rVN (As := [.int p0]) (rest := []) ⟨hx, hb, hml, hown, hta⟩ hK hN hPc hDc (ci := 8) rfl 0 rfl lk_X11_201 (c_X8_at l D cy s.heap.size cu p0 ck ) rfl rfl ⟨Nat.le_of_ble_eq_true rfl, Nat.le_of_ble_eq_true rfl⟩ rfl hl.1 rfl (Nat.le_of_ble_eq_true rfl) dX11_apart_5 ⟨Nat.le_of_ble_eq_true rfl, Nat.le_of_ble_eq_true rfl⟩) (fun r_2 hw_1 => ?_)
  subst hw_1
  refine W.eq (g2 := F0 m 8 ls [.null]) rfl ?_
  refine lv_ifnullN (tgt := 34) hx hb dX11_apart_8 (by decide) ?_
  refine lv_iconst (v := (-1)) hx hb dX11_apart_34 (by decide) ?_
  exact W.iret (v := (-1)) hx hb hr (fun t ht hW => ⟨_, rfl, rfl, ht⟩) (fun q h => by cases h) dX11_apart_35
set_option maxHeartbeats 4000000 in
set_option maxRecDepth 100000 in
theorem c_X11_stuff (l : Launch) (D : va_G) (cy : Nat → ClassId) (sz : Nat) (x : Nat) (p0 : Int32) (p1 : Int32) (p2 : Int32) (p3 : Int32) (b : Nat) (im : Nat) (la : Nat) (cu : Nat) (wa : Nat) (pa : Nat) (dr : Nat) (su : Nat) (mk : Nat) (vi : Nat) (re : Nat) (rd : Nat) (so : Nat) (fw : Nat) (wo : Nat) (gi : Nat) (ck : Nat)  : Met l yX11_stuff (tl_w yX11_stuff cX11_stuff 5 (some .long)) ({ frames := 2, cells := 0, slots := 0, locals := 45 }) (va_Pc [.ref x, .int p0, .int p1, .int p2, .int p3] (tl_P D cy [(x, .inr (11, [.ref b, .ref im, .ref la, .ref cu, .ref wa, .ref pa, .ref dr, .ref su, .ref mk, .ref vi, .ref re, .ref rd, .ref so, .ref fw, .ref wo, .ref gi])), (cu, .inr (8, [.ref ck, .int 0]))] sz)) (vp_Sl (fun r : Int64 => r = (-2))) 0 0 (fun _ => False) := by
  refine Met.ofW (cc := cX11_stuff) (maxL := 5) (ret := (some .long)) (by decide) rfl ?_
  intro p e s m args below meth c s₁ B hml hv
  obtain ⟨rfl, hsz, hP, hK, hD0, hN⟩ := hv
  have hx := B.exec
  have hb := B.bytes
  have hr := B.returns
  have hta := tl_hta (atoms_spec (ws := tl_w yX11_stuff cX11_stuff 5 (some .long)) B.pre)
  have hown : s.vm.findClass RX11 = some m.cls := findClass_of_methodNamed B.named
  have hlocks := B.notSynchronized
  subst hsz
  have hD := hD0
  have hP : va_P D vwCl [(x, .inr (11, [.ref b, .ref im, .ref la, .ref cu, .ref wa, .ref pa, .ref dr, .ref su, .ref mk, .ref vi, .ref re, .ref rd, .ref so, .ref fw, .ref wo, .ref gi])), (cu, .inr (8, [.ref ck, .int 0]))] s.heap := hP
  have hl := lv_entry ([.ref x, .int p0, .int p1, .int p2, .int p3]) (n := 5) (Nat.le_of_ble_eq_true rfl)
  rw [lg_entry_eq]
  generalize (lg_sl ([.ref x, .int p0, .int p1, .int p2, .int p3]) ++ List.replicate (5 - (lg_sl ([.ref x, .int p0, .int p1, .int p2, .int p3])).length) Slot.unset).toArray = ls at hl ⊢
  have hl : lv_has ls 5 [(0, .ref x), (1, .int p0), (2, .int p1), (3, .int p2), (4, .int p3)] := hl
  refine lv_iload_n hx hb dX11_stuff_0 rfl (lv_at hl 3 rfl) ?_
  have hPc := hP.sub (ws' := []) [] rfl
  have hDc := hD.sub (ws' := []) [] (by decide) rfl
  refine tl_si (tl_rS (As := [.int p2]) (rest := []) ⟨hx, hb, hml, hown, hta⟩ hK hN hPc hDc lk_X11_164 (c_X11_isStuff l D cy s.heap.size p2 ) rfl rfl ⟨Nat.le_of_ble_eq_true rfl, Nat.le_of_ble_eq_true rfl⟩ rfl hl.1 rfl (Nat.le_of_ble_eq_true rfl) dX11_stuff_1 ⟨Nat.le_of_ble_eq_true rfl, Nat.le_of_ble_eq_true rfl⟩) (fun r_2 hw_1 => ?_)
  have hw_1 : tl_E r_2 (0 ≤ p2.toInt ∧ p2.toInt ≤ 11) 1 0 := hw_1
  refine lv_if_eq (tgt := 27) hx hb dX11_stuff_4 (by decide) (fun c_3 => ?_) (fun c_3 => ?_)
  · have c_3 := hw_1.f c_3
    refine lv_ldc2 (v := (-2)) hx hb hown (hta _ wk_1055) dX11_stuff_27 ?_
    exact W.lret (v := (-2)) hx hb hr (fun t ht hW => ⟨_, rfl, rfl, ht⟩) (fun q h => by cases h) dX11_stuff_30
  · have c_3 := hw_1.t c_3
    refine lv_iload hx hb dX11_stuff_7 (lv_at hl 4 rfl) ?_
    refine lv_iconst (v := 0) hx hb dX11_stuff_9 (by decide) ?_
    refine lv_iconst (v := 3) hx hb dX11_stuff_10 (by decide) ?_
    have hPc := hP.sub (ws' := []) [] rfl
    have hDc := hD.sub (ws' := []) [] (by decide) rfl
    refine tl_si (tl_rS (As := [.int p3, .int 0, .int 3]) (rest := []) ⟨hx, hb, hml, hown, hta⟩ hK hN hPc hDc lk_X11_105 (c_X11_isIn l D cy s.heap.size p3 0 3 ) rfl rfl ⟨Nat.le_of_ble_eq_true rfl, Nat.le_of_ble_eq_true rfl⟩ rfl hl.1 rfl (Nat.le_of_ble_eq_true rfl) dX11_stuff_11 ⟨Nat.le_of_ble_eq_true rfl, Nat.le_of_ble_eq_true rfl⟩) (fun r_5 hw_4 => ?_)
    have hw_4 : tl_E r_5 ((0 : Int) ≤ p3.toInt ∧ p3.toInt ≤ (3 : Int)) 1 0 := hw_4
    refine lv_if_eq (tgt := 27) hx hb dX11_stuff_14 (by decide) (fun c_6 => ?_) (fun c_6 => ?_)
    · have c_6 := hw_4.f c_6
      refine lv_ldc2 (v := (-2)) hx hb hown (hta _ wk_1055) dX11_stuff_27 ?_
      exact W.lret (v := (-2)) hx hb hr (fun t ht hW => ⟨_, rfl, rfl, ht⟩) (fun q h => by cases h) dX11_stuff_30
    · have c_6 := hw_4.t c_6
      refine lv_aload_n hx hb dX11_stuff_17 rfl (lv_at hl 0 rfl) ?_
      refine lv_iload_n hx hb dX11_stuff_18 rfl (lv_at hl 1 rfl) ?_
      refine lv_iload_n hx hb dX11_stuff_19 rfl (lv_at hl 2 rfl) ?_
      refine lv_iconst (v := (-1)) hx hb dX11_stuff_20 (by decide) ?_
      refine tl_si (tl_rV (As := [.int p0, .int p1, .int (-1)]) (rest := []) ⟨hx, hb, hml, hown, hta⟩ hK hN hP hD (ci := 11) rfl 0 rfl lk_X11_246 (c_X11_look l D cy s.heap.size x p0 p1 (-1) b im la cu wa pa dr su mk vi re rd so fw wo gi ck ) rfl rfl ⟨Nat.le_of_ble_eq_true rfl, Nat.le_of_ble_eq_true rfl⟩ rfl hl.1 rfl (Nat.le_of_ble_eq_true rfl) dX11_stuff_21 ⟨Nat.le_of_ble_eq_true rfl, Nat.le_of_ble_eq_true rfl⟩) (fun r_8 hw_7 => ?_)
      subst hw_7
      refine lv_if_ne (tgt := 31) hx hb dX11_stuff_24 (by decide) (fun c => absurd c (by decide)) (fun _ => ?_)
      refine lv_ldc2 (v := (-2)) hx hb hown (hta _ wk_1055) dX11_stuff_27 ?_
      exact W.lret (v := (-2)) hx hb hr (fun t ht hW => ⟨_, rfl, rfl, ht⟩) (fun q h => by cases h) dX11_stuff_30
set_option maxHeartbeats 4000000 in
set_option maxRecDepth 100000 in
theorem c_X11_likeliest (l : Launch) (D : va_G) (cy : Nat → ClassId) (sz : Nat) (x : Nat) (p0 : Int32) (p1 : Int32) (b : Nat) (im : Nat) (la : Nat) (cu : Nat) (wa : Nat) (pa : Nat) (dr : Nat) (su : Nat) (mk : Nat) (vi : Nat) (re : Nat) (rd : Nat) (so : Nat) (fw : Nat) (wo : Nat) (gi : Nat) (ck : Nat)  : Met l yX11_likeliest (tl_w yX11_likeliest cX11_likeliest 11 (some .int)) ({ frames := 2, cells := 0, slots := 0, locals := 45 }) (va_Pc [.ref x, .int p0, .int p1] (tl_P D cy [(x, .inr (11, [.ref b, .ref im, .ref la, .ref cu, .ref wa, .ref pa, .ref dr, .ref su, .ref mk, .ref vi, .ref re, .ref rd, .ref so, .ref fw, .ref wo, .ref gi])), (cu, .inr (8, [.ref ck, .int 0]))] sz)) (vp_Si (fun r : Int32 => r = (-1))) 0 0 (fun _ => False) := by
  refine Met.ofW (cc := cX11_likeliest) (maxL := 11) (ret := (some .int)) (by decide) rfl ?_
  intro p e s m args below meth c s₁ B hml hv
  obtain ⟨rfl, hsz, hP, hK, hD0, hN⟩ := hv
  have hx := B.exec
  have hb := B.bytes
  have hr := B.returns
  have hta := tl_hta (atoms_spec (ws := tl_w yX11_likeliest cX11_likeliest 11 (some .int)) B.pre)
  have hown : s.vm.findClass RX11 = some m.cls := findClass_of_methodNamed B.named
  have hlocks := B.notSynchronized
  subst hsz
  have hD := hD0
  have hP : va_P D vwCl [(x, .inr (11, [.ref b, .ref im, .ref la, .ref cu, .ref wa, .ref pa, .ref dr, .ref su, .ref mk, .ref vi, .ref re, .ref rd, .ref so, .ref fw, .ref wo, .ref gi])), (cu, .inr (8, [.ref ck, .int 0]))] s.heap := hP
  have hl := lv_entry ([.ref x, .int p0, .int p1]) (n := 11) (Nat.le_of_ble_eq_true rfl)
  rw [lg_entry_eq]
  generalize (lg_sl ([.ref x, .int p0, .int p1]) ++ List.replicate (11 - (lg_sl ([.ref x, .int p0, .int p1])).length) Slot.unset).toArray = ls at hl ⊢
  have hl : lv_has ls 11 [(0, .ref x), (1, .int p0), (2, .int p1)] := hl
  refine lv_aload_n hx hb dX11_likeliest_0 rfl (lv_at hl 0 rfl) ?_
  refine lv_iload_n hx hb dX11_likeliest_1 rfl (lv_at hl 1 rfl) ?_
  refine lv_iload_n hx hb dX11_likeliest_2 rfl (lv_at hl 2 rfl) ?_
  refine lv_iconst (v := (-1)) hx hb dX11_likeliest_3 (by decide) ?_
  refine tl_si (tl_rV (As := [.int p0, .int p1, .int (-1)]) (rest := []) ⟨hx, hb, hml, hown, hta⟩ hK hN hP hD (ci := 11) rfl 0 rfl lk_X11_246 (c_X11_look l D cy s.heap.size x p0 p1 (-1) b im la cu wa pa dr su mk vi re rd so fw wo gi ck ) rfl rfl ⟨Nat.le_of_ble_eq_true rfl, Nat.le_of_ble_eq_true rfl⟩ rfl hl.1 rfl (Nat.le_of_ble_eq_true rfl) dX11_likeliest_4 ⟨Nat.le_of_ble_eq_true rfl, Nat.le_of_ble_eq_true rfl⟩) (fun r_2 hw_1 => ?_)
  subst hw_1
  refine lv_if_ne (tgt := 12) hx hb dX11_likeliest_7 (by decide) (fun c => absurd c (by decide)) (fun _ => ?_)
  refine lv_iconst (v := (-1)) hx hb dX11_likeliest_10 (by decide) ?_
  exact W.iret (v := (-1)) hx hb hr (fun t ht hW => ⟨_, rfl, rfl, ht⟩) (fun q h => by cases h) dX11_likeliest_11
set_option maxHeartbeats 4000000 in
set_option maxRecDepth 100000 in
theorem c_X11_together (l : Launch) (D : va_G) (cy : Nat → ClassId) (sz : Nat) (x : Nat) (p0 : Int32) (p1 : Int32) (p2 : Int32) (p3 : Int32) (b : Nat) (im : Nat) (la : Nat) (cu : Nat) (wa : Nat) (pa : Nat) (dr : Nat) (su : Nat) (mk : Nat) (vi : Nat) (re : Nat) (rd : Nat) (so : Nat) (fw : Nat) (wo : Nat) (gi : Nat) (ck : Nat)  : Met l yX11_together (tl_w yX11_together cX11_together 9 (some .int)) ({ frames := 1, cells := 0, slots := 0, locals := 21 }) (va_Pc [.ref x, .int p0, .int p1, .int p2, .int p3] (tl_P D cy [(x, .inr (11, [.ref b, .ref im, .ref la, .ref cu, .ref wa, .ref pa, .ref dr, .ref su, .ref mk, .ref vi, .ref re, .ref rd, .ref so, .ref fw, .ref wo, .ref gi])), (cu, .inr (8, [.ref ck, .int 0]))] sz)) (vp_Si (fun r : Int32 => r = (-2000000000))) 0 0 (fun _ => False) := by
  refine Met.ofW (cc := cX11_together) (maxL := 9) (ret := (some .int)) (by decide) rfl ?_
  intro p e s m args below meth c s₁ B hml hv
  obtain ⟨rfl, hsz, hP, hK, hD0, hN⟩ := hv
  have hx := B.exec
  have hb := B.bytes
  have hr := B.returns
  have hta := tl_hta (atoms_spec (ws := tl_w yX11_together cX11_together 9 (some .int)) B.pre)
  have hown : s.vm.findClass RX11 = some m.cls := findClass_of_methodNamed B.named
  have hlocks := B.notSynchronized
  subst hsz
  have hD := hD0
  have hP : va_P D vwCl [(x, .inr (11, [.ref b, .ref im, .ref la, .ref cu, .ref wa, .ref pa, .ref dr, .ref su, .ref mk, .ref vi, .ref re, .ref rd, .ref so, .ref fw, .ref wo, .ref gi])), (cu, .inr (8, [.ref ck, .int 0]))] s.heap := hP
  have hl := lv_entry ([.ref x, .int p0, .int p1, .int p2, .int p3]) (n := 9) (Nat.le_of_ble_eq_true rfl)
  rw [lg_entry_eq]
  generalize (lg_sl ([.ref x, .int p0, .int p1, .int p2, .int p3]) ++ List.replicate (9 - (lg_sl ([.ref x, .int p0, .int p1, .int p2, .int p3])).length) Slot.unset).toArray = ls at hl ⊢
  have hl : lv_has ls 9 [(0, .ref x), (1, .int p0), (2, .int p1), (3, .int p2), (4, .int p3)] := hl
  refine lv_aload_n hx hb dX11_together_0 rfl (lv_at hl 0 rfl) ?_
  refine va_get (D := D) (ci := 11) (v := .ref cu) (C := RX11) (T := TX11) (N := 16) hx hb hta inlX11 hown hK hP 0 rfl rfl 3 (by decide) (hta _ wk_21) (fun _ h9 => h9) rfl dX11_together_1 ?_
  refine lv_iload_n hx hb dX11_together_4 rfl (lv_at hl 1 rfl) ?_
  have hPc := hP.sub (ws' := [(cu, .inr (8, [.ref ck, .int 0]))]) [1] rfl
  have hDc := hD.sub (ws' := [(cu, .inr (8, [.ref ck, .int 0]))]) [1] (by decide) rfl
  refine tl_sq (tl_rVN (As := [.int p0]) (rest := []) ⟨hx, hb, hml, hown, hta⟩ hK hN hPc hDc (ci := 8) rfl 0 rfl lk_X11_201 (c_X8_at l D cy s.heap.size cu p0 ck ) rfl rfl ⟨Nat.le_of_ble_eq_true rfl, Nat.le_of_ble_eq_true rfl⟩ rfl hl.1 rfl (Nat.le_of_ble_eq_true rfl) dX11_together_5 ⟨Nat.le_of_ble_eq_true rfl, Nat.le_of_ble_eq_true rfl⟩) (fun r_2 hw_1 => ?_)
  subst hw_1
  refine W.eq (g2 := F0 m 8 ls [.null]) rfl ?_
  refine lv_ifnullN (tgt := 38) hx hb dX11_together_8 (by decide) ?_
  refine lv_ldcw (v := (-2000000000)) hx hb hown (hta _ wk_1157) dX11_together_38 ?_
  exact W.iret (v := (-2000000000)) hx hb hr (fun t ht hW => ⟨_, rfl, rfl, ht⟩) (fun q h => by cases h) dX11_together_41
set_option maxHeartbeats 4000000 in
set_option maxRecDepth 100000 in
theorem c_X11_hour (l : Launch) (D : va_G) (cy : Nat → ClassId) (sz : Nat) (x : Nat) (p0 : Int32) (p1 : Int32) (p2 : Int32) (b : Nat) (im : Nat) (la : Nat) (cu : Nat) (wa : Nat) (pa : Nat) (dr : Nat) (su : Nat) (mk : Nat) (vi : Nat) (re : Nat) (rd : Nat) (so : Nat) (fw : Nat) (wo : Nat) (gi : Nat) (ck : Nat)  : Met l yX11_hour (tl_w yX11_hour cX11_hour 8 (some .int)) ({ frames := 1, cells := 0, slots := 0, locals := 21 }) (va_Pc [.ref x, .int p0, .int p1, .int p2] (tl_P D cy [(x, .inr (11, [.ref b, .ref im, .ref la, .ref cu, .ref wa, .ref pa, .ref dr, .ref su, .ref mk, .ref vi, .ref re, .ref rd, .ref so, .ref fw, .ref wo, .ref gi])), (cu, .inr (8, [.ref ck, .int 0]))] sz)) (vp_Si (fun r : Int32 => r = (-1))) 0 0 (fun _ => False) := by
  refine Met.ofW (cc := cX11_hour) (maxL := 8) (ret := (some .int)) (by decide) rfl ?_
  intro p e s m args below meth c s₁ B hml hv
  obtain ⟨rfl, hsz, hP, hK, hD0, hN⟩ := hv
  have hx := B.exec
  have hb := B.bytes
  have hr := B.returns
  have hta := tl_hta (atoms_spec (ws := tl_w yX11_hour cX11_hour 8 (some .int)) B.pre)
  have hown : s.vm.findClass RX11 = some m.cls := findClass_of_methodNamed B.named
  have hlocks := B.notSynchronized
  subst hsz
  have hD := hD0
  have hP : va_P D vwCl [(x, .inr (11, [.ref b, .ref im, .ref la, .ref cu, .ref wa, .ref pa, .ref dr, .ref su, .ref mk, .ref vi, .ref re, .ref rd, .ref so, .ref fw, .ref wo, .ref gi])), (cu, .inr (8, [.ref ck, .int 0]))] s.heap := hP
  have hl := lv_entry ([.ref x, .int p0, .int p1, .int p2]) (n := 8) (Nat.le_of_ble_eq_true rfl)
  rw [lg_entry_eq]
  generalize (lg_sl ([.ref x, .int p0, .int p1, .int p2]) ++ List.replicate (8 - (lg_sl ([.ref x, .int p0, .int p1, .int p2])).length) Slot.unset).toArray = ls at hl ⊢
  have hl : lv_has ls 8 [(0, .ref x), (1, .int p0), (2, .int p1), (3, .int p2)] := hl
  refine lv_aload_n hx hb dX11_hour_0 rfl (lv_at hl 0 rfl) ?_
  refine va_get (D := D) (ci := 11) (v := .ref cu) (C := RX11) (T := TX11) (N := 16) hx hb hta inlX11 hown hK hP 0 rfl rfl 3 (by decide) (hta _ wk_21) (fun _ h9 => h9) rfl dX11_hour_1 ?_
  refine lv_iload_n hx hb dX11_hour_4 rfl (lv_at hl 1 rfl) ?_
  have hPc := hP.sub (ws' := [(cu, .inr (8, [.ref ck, .int 0]))]) [1] rfl
  have hDc := hD.sub (ws' := [(cu, .inr (8, [.ref ck, .int 0]))]) [1] (by decide) rfl
  refine tl_sq (tl_rVN (As := [.int p0]) (rest := []) ⟨hx, hb, hml, hown, hta⟩ hK hN hPc hDc (ci := 8) rfl 0 rfl lk_X11_201 (c_X8_at l D cy s.heap.size cu p0 ck ) rfl rfl ⟨Nat.le_of_ble_eq_true rfl, Nat.le_of_ble_eq_true rfl⟩ rfl hl.1 rfl (Nat.le_of_ble_eq_true rfl) dX11_hour_5 ⟨Nat.le_of_ble_eq_true rfl, Nat.le_of_ble_eq_true rfl⟩) (fun r_2 hw_1 => ?_)
  subst hw_1
  refine W.eq (g2 := F0 m 8 ls [.null]) rfl ?_
  refine lv_ifnullN (tgt := 27) hx hb dX11_hour_8 (by decide) ?_
  refine lv_iconst (v := (-1)) hx hb dX11_hour_27 (by decide) ?_
  exact W.iret (v := (-1)) hx hb hr (fun t ht hW => ⟨_, rfl, rfl, ht⟩) (fun q h => by cases h) dX11_hour_28
set_option maxHeartbeats 4000000 in
set_option maxRecDepth 100000 in
theorem c_X11_said (l : Launch) (D : va_G) (cy : Nat → ClassId) (sz : Nat) (x : Nat) (p0 : Int32) (p1 : Int32) (p2 : Int32) (b : Nat) (im : Nat) (la : Nat) (cu : Nat) (wa : Nat) (pa : Nat) (dr : Nat) (su : Nat) (mk : Nat) (vi : Nat) (re : Nat) (rd : Nat) (so : Nat) (fw : Nat) (wo : Nat) (gi : Nat) (ck : Nat)  : Met l yX11_said (tl_w yX11_said cX11_said 4 (some .int)) ({ frames := 1, cells := 0, slots := 0, locals := 21 }) (va_Pc [.ref x, .int p0, .int p1, .int p2] (tl_P D cy [(x, .inr (11, [.ref b, .ref im, .ref la, .ref cu, .ref wa, .ref pa, .ref dr, .ref su, .ref mk, .ref vi, .ref re, .ref rd, .ref so, .ref fw, .ref wo, .ref gi])), (cu, .inr (8, [.ref ck, .int 0]))] sz)) (vp_Si (fun r : Int32 => r = (-1))) 0 0 (fun _ => False) := by
  refine Met.ofW (cc := cX11_said) (maxL := 4) (ret := (some .int)) (by decide) rfl ?_
  intro p e s m args below meth c s₁ B hml hv
  obtain ⟨rfl, hsz, hP, hK, hD0, hN⟩ := hv
  have hx := B.exec
  have hb := B.bytes
  have hr := B.returns
  have hta := tl_hta (atoms_spec (ws := tl_w yX11_said cX11_said 4 (some .int)) B.pre)
  have hown : s.vm.findClass RX11 = some m.cls := findClass_of_methodNamed B.named
  have hlocks := B.notSynchronized
  subst hsz
  have hD := hD0
  have hP : va_P D vwCl [(x, .inr (11, [.ref b, .ref im, .ref la, .ref cu, .ref wa, .ref pa, .ref dr, .ref su, .ref mk, .ref vi, .ref re, .ref rd, .ref so, .ref fw, .ref wo, .ref gi])), (cu, .inr (8, [.ref ck, .int 0]))] s.heap := hP
  have hl := lv_entry ([.ref x, .int p0, .int p1, .int p2]) (n := 4) (Nat.le_of_ble_eq_true rfl)
  rw [lg_entry_eq]
  generalize (lg_sl ([.ref x, .int p0, .int p1, .int p2]) ++ List.replicate (4 - (lg_sl ([.ref x, .int p0, .int p1, .int p2])).length) Slot.unset).toArray = ls at hl ⊢
  have hl : lv_has ls 4 [(0, .ref x), (1, .int p0), (2, .int p1), (3, .int p2)] := hl
  refine lv_aload_n hx hb dX11_said_0 rfl (lv_at hl 0 rfl) ?_
  refine va_get (D := D) (ci := 11) (v := .ref cu) (C := RX11) (T := TX11) (N := 16) hx hb hta inlX11 hown hK hP 0 rfl rfl 3 (by decide) (hta _ wk_21) (fun _ h9 => h9) rfl dX11_said_1 ?_
  refine lv_iload_n hx hb dX11_said_4 rfl (lv_at hl 1 rfl) ?_
  have hPc := hP.sub (ws' := [(cu, .inr (8, [.ref ck, .int 0]))]) [1] rfl
  have hDc := hD.sub (ws' := [(cu, .inr (8, [.ref ck, .int 0]))]) [1] (by decide) rfl
  refine tl_sq (tl_rVN (As := [.int p0]) (rest := []) ⟨hx, hb, hml, hown, hta⟩ hK hN hPc hDc (ci := 8) rfl 0 rfl lk_X11_201 (c_X8_at l D cy s.heap.size cu p0 ck ) rfl rfl ⟨Nat.le_of_ble_eq_true rfl, Nat.le_of_ble_eq_true rfl⟩ rfl hl.1 rfl (Nat.le_of_ble_eq_true rfl) dX11_said_5 ⟨Nat.le_of_ble_eq_true rfl, Nat.le_of_ble_eq_true rfl⟩) (fun r_2 hw_1 => ?_)
  subst hw_1
  refine W.eq (g2 := F0 m 8 ls [.null]) rfl ?_
  refine lv_ifnullN (tgt := 25) hx hb dX11_said_8 (by decide) ?_
  refine lv_iconst (v := (-1)) hx hb dX11_said_25 (by decide) ?_
  exact W.iret (v := (-1)) hx hb hr (fun t ht hW => ⟨_, rfl, rfl, ht⟩) (fun q h => by cases h) dX11_said_26
set_option maxHeartbeats 4000000 in
set_option maxRecDepth 100000 in
theorem c_X11_weeks (l : Launch) (D : va_G) (cy : Nat → ClassId) (sz : Nat) (x : Nat) (p0 : Int32) (p1 : Int32) (p2 : Int32) (p3 : Int32) (p4 : Int32) (p5 : Int32) (b : Nat) (im : Nat) (la : Nat) (cu : Nat) (wa : Nat) (pa : Nat) (dr : Nat) (su : Nat) (mk : Nat) (vi : Nat) (re : Nat) (rd : Nat) (so : Nat) (fw : Nat) (wo : Nat) (gi : Nat) (ck : Nat)  : Met l yX11_weeks (tl_w yX11_weeks cX11_weeks 12 (some .int)) ({ frames := 2, cells := 0, slots := 0, locals := 42 }) (va_Pc [.ref x, .int p0, .int p1, .int p2, .int p3, .int p4, .int p5] (tl_P D cy [(x, .inr (11, [.ref b, .ref im, .ref la, .ref cu, .ref wa, .ref pa, .ref dr, .ref su, .ref mk, .ref vi, .ref re, .ref rd, .ref so, .ref fw, .ref wo, .ref gi])), (cu, .inr (8, [.ref ck, .int 0]))] sz)) (vp_Si (fun r : Int32 => r = (-1))) 0 0 (fun _ => False) := by
  refine Met.ofW (cc := cX11_weeks) (maxL := 12) (ret := (some .int)) (by decide) rfl ?_
  intro p e s m args below meth c s₁ B hml hv
  obtain ⟨rfl, hsz, hP, hK, hD0, hN⟩ := hv
  have hx := B.exec
  have hb := B.bytes
  have hr := B.returns
  have hta := tl_hta (atoms_spec (ws := tl_w yX11_weeks cX11_weeks 12 (some .int)) B.pre)
  have hown : s.vm.findClass RX11 = some m.cls := findClass_of_methodNamed B.named
  have hlocks := B.notSynchronized
  subst hsz
  have hD := hD0
  have hP : va_P D vwCl [(x, .inr (11, [.ref b, .ref im, .ref la, .ref cu, .ref wa, .ref pa, .ref dr, .ref su, .ref mk, .ref vi, .ref re, .ref rd, .ref so, .ref fw, .ref wo, .ref gi])), (cu, .inr (8, [.ref ck, .int 0]))] s.heap := hP
  have hl := lv_entry ([.ref x, .int p0, .int p1, .int p2, .int p3, .int p4, .int p5]) (n := 12) (Nat.le_of_ble_eq_true rfl)
  rw [lg_entry_eq]
  generalize (lg_sl ([.ref x, .int p0, .int p1, .int p2, .int p3, .int p4, .int p5]) ++ List.replicate (12 - (lg_sl ([.ref x, .int p0, .int p1, .int p2, .int p3, .int p4, .int p5])).length) Slot.unset).toArray = ls at hl ⊢
  have hl : lv_has ls 12 [(0, .ref x), (1, .int p0), (2, .int p1), (3, .int p2), (4, .int p3), (5, .int p4), (6, .int p5)] := hl
  refine lv_iload_n hx hb dX11_weeks_0 rfl (lv_at hl 2 rfl) ?_
  have hPc := hP.sub (ws' := []) [] rfl
  have hDc := hD.sub (ws' := []) [] (by decide) rfl
  refine tl_si (tl_rS (As := [.int p1]) (rest := []) ⟨hx, hb, hml, hown, hta⟩ hK hN hPc hDc lk_X11_94 (c_X11_isWeek l D cy s.heap.size p1 ) rfl rfl ⟨Nat.le_of_ble_eq_true rfl, Nat.le_of_ble_eq_true rfl⟩ rfl hl.1 rfl (Nat.le_of_ble_eq_true rfl) dX11_weeks_1 ⟨Nat.le_of_ble_eq_true rfl, Nat.le_of_ble_eq_true rfl⟩) (fun r_2 hw_1 => ?_)
  have hw_1 : tl_E r_2 (0 ≤ p1.toInt ∧ p1.toInt ≤ 399) 1 0 := hw_1
  refine lv_if_eq (tgt := 31) hx hb dX11_weeks_4 (by decide) (fun c_3 => ?_) (fun c_3 => ?_)
  · have c_3 := hw_1.f c_3
    refine lv_iconst (v := 0) hx hb dX11_weeks_31 (by decide) ?_
    refine lv_istore (lv' := [(7, .int 0), (0, .ref x), (1, .int p0), (2, .int p1), (3, .int p2), (4, .int p3), (5, .int p4), (6, .int p5)]) hx hb dX11_weeks_32 hl (by decide) rfl (fun ls hl => ?_)
    refine lv_aload_n hx hb dX11_weeks_34 rfl (lv_at hl 1 rfl) ?_
    refine va_get (D := D) (ci := 11) (v := .ref cu) (C := RX11) (T := TX11) (N := 16) hx hb hta inlX11 hown hK hP 0 rfl rfl 3 (by decide) (hta _ wk_21) (fun _ h9 => h9) rfl dX11_weeks_35 ?_
    refine lv_iload_n hx hb dX11_weeks_38 rfl (lv_at hl 2 rfl) ?_
    have hPc := hP.sub (ws' := [(cu, .inr (8, [.ref ck, .int 0]))]) [1] rfl
    have hDc := hD.sub (ws' := [(cu, .inr (8, [.ref ck, .int 0]))]) [1] (by decide) rfl
    refine tl_sq (tl_rVN (As := [.int p0]) (rest := []) ⟨hx, hb, hml, hown, hta⟩ hK hN hPc hDc (ci := 8) rfl 0 rfl lk_X11_201 (c_X8_at l D cy s.heap.size cu p0 ck ) rfl rfl ⟨Nat.le_of_ble_eq_true rfl, Nat.le_of_ble_eq_true rfl⟩ rfl hl.1 rfl (Nat.le_of_ble_eq_true rfl) dX11_weeks_39 ⟨Nat.le_of_ble_eq_true rfl, Nat.le_of_ble_eq_true rfl⟩) (fun r_5 hw_4 => ?_)
    subst hw_4
    refine W.eq (g2 := F0 m 42 ls [.null]) rfl ?_
    refine lv_ifnullN (tgt := 78) hx hb dX11_weeks_42 (by decide) ?_
    refine lv_iconst (v := (-1)) hx hb dX11_weeks_78 (by decide) ?_
    exact W.iret (v := (-1)) hx hb hr (fun t ht hW => ⟨_, rfl, rfl, ht⟩) (fun q h => by cases h) dX11_weeks_79
  · have c_3 := hw_1.t c_3
    refine lv_iload_n hx hb dX11_weeks_7 rfl (lv_at hl 3 rfl) ?_
    have hPc := hP.sub (ws' := []) [] rfl
    have hDc := hD.sub (ws' := []) [] (by decide) rfl
    refine tl_si (tl_rS (As := [.int p2]) (rest := []) ⟨hx, hb, hml, hown, hta⟩ hK hN hPc hDc lk_X11_94 (c_X11_isWeek l D cy s.heap.size p2 ) rfl rfl ⟨Nat.le_of_ble_eq_true rfl, Nat.le_of_ble_eq_true rfl⟩ rfl hl.1 rfl (Nat.le_of_ble_eq_true rfl) dX11_weeks_8 ⟨Nat.le_of_ble_eq_true rfl, Nat.le_of_ble_eq_true rfl⟩) (fun r_7 hw_6 => ?_)
    have hw_6 : tl_E r_7 (0 ≤ p2.toInt ∧ p2.toInt ≤ 399) 1 0 := hw_6
    refine lv_if_eq (tgt := 31) hx hb dX11_weeks_11 (by decide) (fun c_8 => ?_) (fun c_8 => ?_)
    · have c_8 := hw_6.f c_8
      refine lv_iconst (v := 0) hx hb dX11_weeks_31 (by decide) ?_
      refine lv_istore (lv' := [(7, .int 0), (0, .ref x), (1, .int p0), (2, .int p1), (3, .int p2), (4, .int p3), (5, .int p4), (6, .int p5)]) hx hb dX11_weeks_32 hl (by decide) rfl (fun ls hl => ?_)
      refine lv_aload_n hx hb dX11_weeks_34 rfl (lv_at hl 1 rfl) ?_
      refine va_get (D := D) (ci := 11) (v := .ref cu) (C := RX11) (T := TX11) (N := 16) hx hb hta inlX11 hown hK hP 0 rfl rfl 3 (by decide) (hta _ wk_21) (fun _ h9 => h9) rfl dX11_weeks_35 ?_
      refine lv_iload_n hx hb dX11_weeks_38 rfl (lv_at hl 2 rfl) ?_
      have hPc := hP.sub (ws' := [(cu, .inr (8, [.ref ck, .int 0]))]) [1] rfl
      have hDc := hD.sub (ws' := [(cu, .inr (8, [.ref ck, .int 0]))]) [1] (by decide) rfl
      refine tl_sq (tl_rVN (As := [.int p0]) (rest := []) ⟨hx, hb, hml, hown, hta⟩ hK hN hPc hDc (ci := 8) rfl 0 rfl lk_X11_201 (c_X8_at l D cy s.heap.size cu p0 ck ) rfl rfl ⟨Nat.le_of_ble_eq_true rfl, Nat.le_of_ble_eq_true rfl⟩ rfl hl.1 rfl (Nat.le_of_ble_eq_true rfl) dX11_weeks_39 ⟨Nat.le_of_ble_eq_true rfl, Nat.le_of_ble_eq_true rfl⟩) (fun r_10 hw_9 => ?_)
      subst hw_9
      refine W.eq (g2 := F0 m 42 ls [.null]) rfl ?_
      refine lv_ifnullN (tgt := 78) hx hb dX11_weeks_42 (by decide) ?_
      refine lv_iconst (v := (-1)) hx hb dX11_weeks_78 (by decide) ?_
      exact W.iret (v := (-1)) hx hb hr (fun t ht hW => ⟨_, rfl, rfl, ht⟩) (fun q h => by cases h) dX11_weeks_79
    · have c_8 := hw_6.t c_8
      refine lv_iload_n hx hb dX11_weeks_14 rfl (lv_at hl 2 rfl) ?_
      refine lv_iload_n hx hb dX11_weeks_15 rfl (lv_at hl 3 rfl) ?_
      refine lv_icmp_gt (tgt := 31) hx hb dX11_weeks_16 (by decide) (fun c_11 => ?_) (fun c_11 => ?_)
      · have c_11 : p2.toInt < p1.toInt := tl_lt c_11
        refine lv_iconst (v := 0) hx hb dX11_weeks_31 (by decide) ?_
        refine lv_istore (lv' := [(7, .int 0), (0, .ref x), (1, .int p0), (2, .int p1), (3, .int p2), (4, .int p3), (5, .int p4), (6, .int p5)]) hx hb dX11_weeks_32 hl (by decide) rfl (fun ls hl => ?_)
        refine lv_aload_n hx hb dX11_weeks_34 rfl (lv_at hl 1 rfl) ?_
        refine va_get (D := D) (ci := 11) (v := .ref cu) (C := RX11) (T := TX11) (N := 16) hx hb hta inlX11 hown hK hP 0 rfl rfl 3 (by decide) (hta _ wk_21) (fun _ h9 => h9) rfl dX11_weeks_35 ?_
        refine lv_iload_n hx hb dX11_weeks_38 rfl (lv_at hl 2 rfl) ?_
        have hPc := hP.sub (ws' := [(cu, .inr (8, [.ref ck, .int 0]))]) [1] rfl
        have hDc := hD.sub (ws' := [(cu, .inr (8, [.ref ck, .int 0]))]) [1] (by decide) rfl
        refine tl_sq (tl_rVN (As := [.int p0]) (rest := []) ⟨hx, hb, hml, hown, hta⟩ hK hN hPc hDc (ci := 8) rfl 0 rfl lk_X11_201 (c_X8_at l D cy s.heap.size cu p0 ck ) rfl rfl ⟨Nat.le_of_ble_eq_true rfl, Nat.le_of_ble_eq_true rfl⟩ rfl hl.1 rfl (Nat.le_of_ble_eq_true rfl) dX11_weeks_39 ⟨Nat.le_of_ble_eq_true rfl, Nat.le_of_ble_eq_true rfl⟩) (fun r_13 hw_12 => ?_)
        subst hw_12
        refine W.eq (g2 := F0 m 42 ls [.null]) rfl ?_
        refine lv_ifnullN (tgt := 78) hx hb dX11_weeks_42 (by decide) ?_
        refine lv_iconst (v := (-1)) hx hb dX11_weeks_78 (by decide) ?_
        exact W.iret (v := (-1)) hx hb hr (fun t ht hW => ⟨_, rfl, rfl, ht⟩) (fun q h => by cases h) dX11_weeks_79
      · have c_11 : p1.toInt ≤ p2.toInt := tl_nlt c_11
        refine lv_iload_n hx hb dX11_weeks_19 rfl (lv_at hl 3 rfl) ?_
        refine lv_iload_n hx hb dX11_weeks_20 rfl (lv_at hl 2 rfl) ?_
        refine lv_isub hx hb dX11_weeks_21 ?_
        refine lv_topi (fun z_14 ez_14 => ?_)
        refine lv_bipush (v := 100) hx hb dX11_weeks_22 (by decide) ?_
        refine lv_icmp_ge (tgt := 31) hx hb dX11_weeks_24 (by decide) (fun c_15 => ?_) (fun c_15 => ?_)
        · have c_15 : (100 : Int) ≤ z_14.toInt := tl_le c_15
          refine lv_iconst (v := 0) hx hb dX11_weeks_31 (by decide) ?_
          refine lv_istore (lv' := [(7, .int 0), (0, .ref x), (1, .int p0), (2, .int p1), (3, .int p2), (4, .int p3), (5, .int p4), (6, .int p5)]) hx hb dX11_weeks_32 hl (by decide) rfl (fun ls hl => ?_)
          refine lv_aload_n hx hb dX11_weeks_34 rfl (lv_at hl 1 rfl) ?_
          refine va_get (D := D) (ci := 11) (v := .ref cu) (C := RX11) (T := TX11) (N := 16) hx hb hta inlX11 hown hK hP 0 rfl rfl 3 (by decide) (hta _ wk_21) (fun _ h9 => h9) rfl dX11_weeks_35 ?_
          refine lv_iload_n hx hb dX11_weeks_38 rfl (lv_at hl 2 rfl) ?_
          have hPc := hP.sub (ws' := [(cu, .inr (8, [.ref ck, .int 0]))]) [1] rfl
          have hDc := hD.sub (ws' := [(cu, .inr (8, [.ref ck, .int 0]))]) [1] (by decide) rfl
          refine tl_sq (tl_rVN (As := [.int p0]) (rest := []) ⟨hx, hb, hml, hown, hta⟩ hK hN hPc hDc (ci := 8) rfl 0 rfl lk_X11_201 (c_X8_at l D cy s.heap.size cu p0 ck ) rfl rfl ⟨Nat.le_of_ble_eq_true rfl, Nat.le_of_ble_eq_true rfl⟩ rfl hl.1 rfl (Nat.le_of_ble_eq_true rfl) dX11_weeks_39 ⟨Nat.le_of_ble_eq_true rfl, Nat.le_of_ble_eq_true rfl⟩) (fun r_17 hw_16 => ?_)
          subst hw_16
          refine W.eq (g2 := F0 m 42 ls [.null]) rfl ?_
          refine lv_ifnullN (tgt := 78) hx hb dX11_weeks_42 (by decide) ?_
          refine lv_iconst (v := (-1)) hx hb dX11_weeks_78 (by decide) ?_
          exact W.iret (v := (-1)) hx hb hr (fun t ht hW => ⟨_, rfl, rfl, ht⟩) (fun q h => by cases h) dX11_weeks_79
        · have c_15 : z_14.toInt < (100 : Int) := tl_nle c_15
          refine lv_iconst (v := 1) hx hb dX11_weeks_27 (by decide) ?_
          refine lv_goto (tgt := 32) hx hb dX11_weeks_28 (by decide) ?_
          refine lv_istore (lv' := [(7, .int 1), (0, .ref x), (1, .int p0), (2, .int p1), (3, .int p2), (4, .int p3), (5, .int p4), (6, .int p5)]) hx hb dX11_weeks_32 hl (by decide) rfl (fun ls hl => ?_)
          refine lv_aload_n hx hb dX11_weeks_34 rfl (lv_at hl 1 rfl) ?_
          refine va_get (D := D) (ci := 11) (v := .ref cu) (C := RX11) (T := TX11) (N := 16) hx hb hta inlX11 hown hK hP 0 rfl rfl 3 (by decide) (hta _ wk_21) (fun _ h9 => h9) rfl dX11_weeks_35 ?_
          refine lv_iload_n hx hb dX11_weeks_38 rfl (lv_at hl 2 rfl) ?_
          have hPc := hP.sub (ws' := [(cu, .inr (8, [.ref ck, .int 0]))]) [1] rfl
          have hDc := hD.sub (ws' := [(cu, .inr (8, [.ref ck, .int 0]))]) [1] (by decide) rfl
          refine tl_sq (tl_rVN (As := [.int p0]) (rest := []) ⟨hx, hb, hml, hown, hta⟩ hK hN hPc hDc (ci := 8) rfl 0 rfl lk_X11_201 (c_X8_at l D cy s.heap.size cu p0 ck ) rfl rfl ⟨Nat.le_of_ble_eq_true rfl, Nat.le_of_ble_eq_true rfl⟩ rfl hl.1 rfl (Nat.le_of_ble_eq_true rfl) dX11_weeks_39 ⟨Nat.le_of_ble_eq_true rfl, Nat.le_of_ble_eq_true rfl⟩) (fun r_19 hw_18 => ?_)
          subst hw_18
          refine W.eq (g2 := F0 m 42 ls [.null]) rfl ?_
          refine lv_ifnullN (tgt := 78) hx hb dX11_weeks_42 (by decide) ?_
          refine lv_iconst (v := (-1)) hx hb dX11_weeks_78 (by decide) ?_
          exact W.iret (v := (-1)) hx hb hr (fun t ht hW => ⟨_, rfl, rfl, ht⟩) (fun q h => by cases h) dX11_weeks_79
set_option maxHeartbeats 4000000 in
set_option maxRecDepth 100000 in
theorem c_X11_odd (l : Launch) (D : va_G) (cy : Nat → ClassId) (sz : Nat) (x : Nat) (p0 : Int32) (p1 : Int32) (b : Nat) (im : Nat) (la : Nat) (cu : Nat) (wa : Nat) (pa : Nat) (dr : Nat) (su : Nat) (mk : Nat) (vi : Nat) (re : Nat) (rd : Nat) (so : Nat) (fw : Nat) (wo : Nat) (gi : Nat) (ck : Nat)  : Met l yX11_odd (tl_w yX11_odd cX11_odd 5 (some .int)) ({ frames := 1, cells := 0, slots := 0, locals := 21 }) (va_Pc [.ref x, .int p0, .int p1] (tl_P D cy [(x, .inr (11, [.ref b, .ref im, .ref la, .ref cu, .ref wa, .ref pa, .ref dr, .ref su, .ref mk, .ref vi, .ref re, .ref rd, .ref so, .ref fw, .ref wo, .ref gi])), (cu, .inr (8, [.ref ck, .int 0]))] sz)) (vp_Si (fun r : Int32 => r = (-1))) 0 0 (fun _ => False) := by
  refine Met.ofW (cc := cX11_odd) (maxL := 5) (ret := (some .int)) (by decide) rfl ?_
  intro p e s m args below meth c s₁ B hml hv
  obtain ⟨rfl, hsz, hP, hK, hD0, hN⟩ := hv
  have hx := B.exec
  have hb := B.bytes
  have hr := B.returns
  have hta := tl_hta (atoms_spec (ws := tl_w yX11_odd cX11_odd 5 (some .int)) B.pre)
  have hown : s.vm.findClass RX11 = some m.cls := findClass_of_methodNamed B.named
  have hlocks := B.notSynchronized
  subst hsz
  have hD := hD0
  have hP : va_P D vwCl [(x, .inr (11, [.ref b, .ref im, .ref la, .ref cu, .ref wa, .ref pa, .ref dr, .ref su, .ref mk, .ref vi, .ref re, .ref rd, .ref so, .ref fw, .ref wo, .ref gi])), (cu, .inr (8, [.ref ck, .int 0]))] s.heap := hP
  have hl := lv_entry ([.ref x, .int p0, .int p1]) (n := 5) (Nat.le_of_ble_eq_true rfl)
  rw [lg_entry_eq]
  generalize (lg_sl ([.ref x, .int p0, .int p1]) ++ List.replicate (5 - (lg_sl ([.ref x, .int p0, .int p1])).length) Slot.unset).toArray = ls at hl ⊢
  have hl : lv_has ls 5 [(0, .ref x), (1, .int p0), (2, .int p1)] := hl
  refine lv_aload_n hx hb dX11_odd_0 rfl (lv_at hl 0 rfl) ?_
  refine va_get (D := D) (ci := 11) (v := .ref cu) (C := RX11) (T := TX11) (N := 16) hx hb hta inlX11 hown hK hP 0 rfl rfl 3 (by decide) (hta _ wk_21) (fun _ h9 => h9) rfl dX11_odd_1 ?_
  refine lv_iload_n hx hb dX11_odd_4 rfl (lv_at hl 1 rfl) ?_
  have hPc := hP.sub (ws' := [(cu, .inr (8, [.ref ck, .int 0]))]) [1] rfl
  have hDc := hD.sub (ws' := [(cu, .inr (8, [.ref ck, .int 0]))]) [1] (by decide) rfl
  refine tl_sq (tl_rVN (As := [.int p0]) (rest := []) ⟨hx, hb, hml, hown, hta⟩ hK hN hPc hDc (ci := 8) rfl 0 rfl lk_X11_201 (c_X8_at l D cy s.heap.size cu p0 ck ) rfl rfl ⟨Nat.le_of_ble_eq_true rfl, Nat.le_of_ble_eq_true rfl⟩ rfl hl.1 rfl (Nat.le_of_ble_eq_true rfl) dX11_odd_5 ⟨Nat.le_of_ble_eq_true rfl, Nat.le_of_ble_eq_true rfl⟩) (fun r_2 hw_1 => ?_)
  subst hw_1
  refine W.eq (g2 := F0 m 8 ls [.null]) rfl ?_
  refine lv_ifnullN (tgt := 18) hx hb dX11_odd_8 (by decide) ?_
  refine lv_iconst (v := (-1)) hx hb dX11_odd_18 (by decide) ?_
  exact W.iret (v := (-1)) hx hb hr (fun t ht hW => ⟨_, rfl, rfl, ht⟩) (fun q h => by cases h) dX11_odd_19
set_option maxHeartbeats 4000000 in
set_option maxRecDepth 100000 in
theorem c_X11_ripple (l : Launch) (D : va_G) (cy : Nat → ClassId) (sz : Nat) (x : Nat) (p0 : Int32) (p1 : Int32) (p2 : Int32) (b : Nat) (im : Nat) (la : Nat) (cu : Nat) (wa : Nat) (pa : Nat) (dr : Nat) (su : Nat) (mk : Nat) (vi : Nat) (re : Nat) (rd : Nat) (so : Nat) (fw : Nat) (wo : Nat) (gi : Nat) (ck : Nat)  : Met l yX11_ripple (tl_w yX11_ripple cX11_ripple 5 (some .long)) ({ frames := 2, cells := 0, slots := 0, locals := 45 }) (va_Pc [.ref x, .int p0, .int p1, .int p2] (tl_P D cy [(x, .inr (11, [.ref b, .ref im, .ref la, .ref cu, .ref wa, .ref pa, .ref dr, .ref su, .ref mk, .ref vi, .ref re, .ref rd, .ref so, .ref fw, .ref wo, .ref gi])), (cu, .inr (8, [.ref ck, .int 0]))] sz)) (vp_Sl (fun r : Int64 => r = (-2))) 0 0 (fun _ => False) := by
  refine Met.ofW (cc := cX11_ripple) (maxL := 5) (ret := (some .long)) (by decide) rfl ?_
  intro p e s m args below meth c s₁ B hml hv
  obtain ⟨rfl, hsz, hP, hK, hD0, hN⟩ := hv
  have hx := B.exec
  have hb := B.bytes
  have hr := B.returns
  have hta := tl_hta (atoms_spec (ws := tl_w yX11_ripple cX11_ripple 5 (some .long)) B.pre)
  have hown : s.vm.findClass RX11 = some m.cls := findClass_of_methodNamed B.named
  have hlocks := B.notSynchronized
  subst hsz
  have hD := hD0
  have hP : va_P D vwCl [(x, .inr (11, [.ref b, .ref im, .ref la, .ref cu, .ref wa, .ref pa, .ref dr, .ref su, .ref mk, .ref vi, .ref re, .ref rd, .ref so, .ref fw, .ref wo, .ref gi])), (cu, .inr (8, [.ref ck, .int 0]))] s.heap := hP
  have hl := lv_entry ([.ref x, .int p0, .int p1, .int p2]) (n := 5) (Nat.le_of_ble_eq_true rfl)
  rw [lg_entry_eq]
  generalize (lg_sl ([.ref x, .int p0, .int p1, .int p2]) ++ List.replicate (5 - (lg_sl ([.ref x, .int p0, .int p1, .int p2])).length) Slot.unset).toArray = ls at hl ⊢
  have hl : lv_has ls 5 [(0, .ref x), (1, .int p0), (2, .int p1), (3, .int p2)] := hl
  refine lv_iload_n hx hb dX11_ripple_0 rfl (lv_at hl 3 rfl) ?_
  refine lv_iconst (v := 0) hx hb dX11_ripple_1 (by decide) ?_
  refine lv_iconst (v := 1) hx hb dX11_ripple_2 (by decide) ?_
  have hPc := hP.sub (ws' := []) [] rfl
  have hDc := hD.sub (ws' := []) [] (by decide) rfl
  refine tl_si (tl_rS (As := [.int p2, .int 0, .int 1]) (rest := []) ⟨hx, hb, hml, hown, hta⟩ hK hN hPc hDc lk_X11_105 (c_X11_isIn l D cy s.heap.size p2 0 1 ) rfl rfl ⟨Nat.le_of_ble_eq_true rfl, Nat.le_of_ble_eq_true rfl⟩ rfl hl.1 rfl (Nat.le_of_ble_eq_true rfl) dX11_ripple_3 ⟨Nat.le_of_ble_eq_true rfl, Nat.le_of_ble_eq_true rfl⟩) (fun r_2 hw_1 => ?_)
  have hw_1 : tl_E r_2 ((0 : Int) ≤ p2.toInt ∧ p2.toInt ≤ (1 : Int)) 1 0 := hw_1
  refine lv_if_eq (tgt := 19) hx hb dX11_ripple_6 (by decide) (fun c_3 => ?_) (fun c_3 => ?_)
  · have c_3 := hw_1.f c_3
    refine lv_ldc2 (v := (-2)) hx hb hown (hta _ wk_1055) dX11_ripple_19 ?_
    exact W.lret (v := (-2)) hx hb hr (fun t ht hW => ⟨_, rfl, rfl, ht⟩) (fun q h => by cases h) dX11_ripple_22
  · have c_3 := hw_1.t c_3
    refine lv_aload_n hx hb dX11_ripple_9 rfl (lv_at hl 0 rfl) ?_
    refine lv_iload_n hx hb dX11_ripple_10 rfl (lv_at hl 1 rfl) ?_
    refine lv_iload_n hx hb dX11_ripple_11 rfl (lv_at hl 2 rfl) ?_
    refine lv_iconst (v := (-1)) hx hb dX11_ripple_12 (by decide) ?_
    refine tl_si (tl_rV (As := [.int p0, .int p1, .int (-1)]) (rest := []) ⟨hx, hb, hml, hown, hta⟩ hK hN hP hD (ci := 11) rfl 0 rfl lk_X11_246 (c_X11_look l D cy s.heap.size x p0 p1 (-1) b im la cu wa pa dr su mk vi re rd so fw wo gi ck ) rfl rfl ⟨Nat.le_of_ble_eq_true rfl, Nat.le_of_ble_eq_true rfl⟩ rfl hl.1 rfl (Nat.le_of_ble_eq_true rfl) dX11_ripple_13 ⟨Nat.le_of_ble_eq_true rfl, Nat.le_of_ble_eq_true rfl⟩) (fun r_5 hw_4 => ?_)
    subst hw_4
    refine lv_if_ne (tgt := 23) hx hb dX11_ripple_16 (by decide) (fun c => absurd c (by decide)) (fun _ => ?_)
    refine lv_ldc2 (v := (-2)) hx hb hown (hta _ wk_1055) dX11_ripple_19 ?_
    exact W.lret (v := (-2)) hx hb hr (fun t ht hW => ⟨_, rfl, rfl, ht⟩) (fun q h => by cases h) dX11_ripple_22
set_option maxHeartbeats 4000000 in
set_option maxRecDepth 100000 in
theorem c_X11_smooth (l : Launch) (D : va_G) (cy : Nat → ClassId) (sz : Nat) (x : Nat) (p0 : Int32) (p1 : Int32) (b : Nat) (im : Nat) (la : Nat) (cu : Nat) (wa : Nat) (pa : Nat) (dr : Nat) (su : Nat) (mk : Nat) (vi : Nat) (re : Nat) (rd : Nat) (so : Nat) (fw : Nat) (wo : Nat) (gi : Nat) (ck : Nat)  : Met l yX11_smooth (tl_w yX11_smooth cX11_smooth 7 (some .int)) ({ frames := 2, cells := 0, slots := 0, locals := 45 }) (va_Pc [.ref x, .int p0, .int p1] (tl_P D cy [(x, .inr (11, [.ref b, .ref im, .ref la, .ref cu, .ref wa, .ref pa, .ref dr, .ref su, .ref mk, .ref vi, .ref re, .ref rd, .ref so, .ref fw, .ref wo, .ref gi])), (cu, .inr (8, [.ref ck, .int 0]))] sz)) (vp_Si (fun r : Int32 => r = (-2000000))) 0 0 (fun _ => False) := by
  refine Met.ofW (cc := cX11_smooth) (maxL := 7) (ret := (some .int)) (by decide) rfl ?_
  intro p e s m args below meth c s₁ B hml hv
  obtain ⟨rfl, hsz, hP, hK, hD0, hN⟩ := hv
  have hx := B.exec
  have hb := B.bytes
  have hr := B.returns
  have hta := tl_hta (atoms_spec (ws := tl_w yX11_smooth cX11_smooth 7 (some .int)) B.pre)
  have hown : s.vm.findClass RX11 = some m.cls := findClass_of_methodNamed B.named
  have hlocks := B.notSynchronized
  subst hsz
  have hD := hD0
  have hP : va_P D vwCl [(x, .inr (11, [.ref b, .ref im, .ref la, .ref cu, .ref wa, .ref pa, .ref dr, .ref su, .ref mk, .ref vi, .ref re, .ref rd, .ref so, .ref fw, .ref wo, .ref gi])), (cu, .inr (8, [.ref ck, .int 0]))] s.heap := hP
  have hl := lv_entry ([.ref x, .int p0, .int p1]) (n := 7) (Nat.le_of_ble_eq_true rfl)
  rw [lg_entry_eq]
  generalize (lg_sl ([.ref x, .int p0, .int p1]) ++ List.replicate (7 - (lg_sl ([.ref x, .int p0, .int p1])).length) Slot.unset).toArray = ls at hl ⊢
  have hl : lv_has ls 7 [(0, .ref x), (1, .int p0), (2, .int p1)] := hl
  refine lv_aload_n hx hb dX11_smooth_0 rfl (lv_at hl 0 rfl) ?_
  refine lv_iload_n hx hb dX11_smooth_1 rfl (lv_at hl 1 rfl) ?_
  refine lv_iload_n hx hb dX11_smooth_2 rfl (lv_at hl 2 rfl) ?_
  refine lv_iconst (v := (-1)) hx hb dX11_smooth_3 (by decide) ?_
  refine tl_si (tl_rV (As := [.int p0, .int p1, .int (-1)]) (rest := []) ⟨hx, hb, hml, hown, hta⟩ hK hN hP hD (ci := 11) rfl 0 rfl lk_X11_246 (c_X11_look l D cy s.heap.size x p0 p1 (-1) b im la cu wa pa dr su mk vi re rd so fw wo gi ck ) rfl rfl ⟨Nat.le_of_ble_eq_true rfl, Nat.le_of_ble_eq_true rfl⟩ rfl hl.1 rfl (Nat.le_of_ble_eq_true rfl) dX11_smooth_4 ⟨Nat.le_of_ble_eq_true rfl, Nat.le_of_ble_eq_true rfl⟩) (fun r_2 hw_1 => ?_)
  subst hw_1
  refine lv_if_ne (tgt := 13) hx hb dX11_smooth_7 (by decide) (fun c => absurd c (by decide)) (fun _ => ?_)
  refine lv_ldc (v := (-2000000)) hx hb hown (hta _ wk_230) dX11_smooth_10 ?_
  exact W.iret (v := (-2000000)) hx hb hr (fun t ht hW => ⟨_, rfl, rfl, ht⟩) (fun q h => by cases h) dX11_smooth_12
set_option maxHeartbeats 4000000 in
set_option maxRecDepth 100000 in
theorem c_X11_without (l : Launch) (D : va_G) (cy : Nat → ClassId) (sz : Nat) (x : Nat) (p0 : Int32) (p1 : Int32) (p2 : Int32) (b : Nat) (im : Nat) (la : Nat) (cu : Nat) (wa : Nat) (pa : Nat) (dr : Nat) (su : Nat) (mk : Nat) (vi : Nat) (re : Nat) (rd : Nat) (so : Nat) (fw : Nat) (wo : Nat) (gi : Nat) (to : Nat) (ro : Nat) (sl : Nat) (li : Nat) (ca : Nat) (ho : Nat) (ta : Nat) (sc : Nat)  : Met l yX11_without (tl_w yX11_without cX11_without 4 (some .int)) ({ frames := 1, cells := 0, slots := 0, locals := 21 }) (va_Pc [.ref x, .int p0, .int p1, .int p2] (tl_P D cy [(x, .inr (11, [.ref b, .ref im, .ref la, .ref cu, .ref wa, .ref pa, .ref dr, .ref su, .ref mk, .ref vi, .ref re, .ref rd, .ref so, .ref fw, .ref wo, .ref gi])), (b, .inr (0, [.int 0, .ref to, .ref ro, .ref sl, .ref li, .ref ca, .ref ho, .ref ta, .int 0])), (sl, .inr (6, [.int 40, .ref sc, .int 0]))] sz)) (vp_Si (fun r : Int32 => r = (-2000000))) 0 0 (fun _ => False) := by
  refine Met.ofW (cc := cX11_without) (maxL := 4) (ret := (some .int)) (by decide) rfl ?_
  intro p e s m args below meth c s₁ B hml hv
  obtain ⟨rfl, hsz, hP, hK, hD0, hN⟩ := hv
  have hx := B.exec
  have hb := B.bytes
  have hr := B.returns
  have hta := tl_hta (atoms_spec (ws := tl_w yX11_without cX11_without 4 (some .int)) B.pre)
  have hown : s.vm.findClass RX11 = some m.cls := findClass_of_methodNamed B.named
  have hlocks := B.notSynchronized
  subst hsz
  have hD := hD0
  have hP : va_P D vwCl [(x, .inr (11, [.ref b, .ref im, .ref la, .ref cu, .ref wa, .ref pa, .ref dr, .ref su, .ref mk, .ref vi, .ref re, .ref rd, .ref so, .ref fw, .ref wo, .ref gi])), (b, .inr (0, [.int 0, .ref to, .ref ro, .ref sl, .ref li, .ref ca, .ref ho, .ref ta, .int 0])), (sl, .inr (6, [.int 40, .ref sc, .int 0]))] s.heap := hP
  have hl := lv_entry ([.ref x, .int p0, .int p1, .int p2]) (n := 4) (Nat.le_of_ble_eq_true rfl)
  rw [lg_entry_eq]
  generalize (lg_sl ([.ref x, .int p0, .int p1, .int p2]) ++ List.replicate (4 - (lg_sl ([.ref x, .int p0, .int p1, .int p2])).length) Slot.unset).toArray = ls at hl ⊢
  have hl : lv_has ls 4 [(0, .ref x), (1, .int p0), (2, .int p1), (3, .int p2)] := hl
  refine lv_aload_n hx hb dX11_without_0 rfl (lv_at hl 0 rfl) ?_
  refine va_get (D := D) (ci := 11) (v := .ref b) (C := RX11) (T := TX11) (N := 16) hx hb hta inlX11 hown hK hP 0 rfl rfl 0 (by decide) (hta _ wk_15) (fun _ h9 => h9) rfl dX11_without_1 ?_
  refine va_getN (D := D) (ci := 0) (v := .ref sl) (C := RX0) (T := TX0) (N := 9) hx hb hta inlX0 hown hK hP 1 rfl rfl 3 (by decide) (va_Nw.use rfl (hN.1 21 _ nk_21)) (fun _ h9 => h9) rfl dX11_without_4 ?_
  refine lv_iload_n hx hb dX11_without_7 rfl (lv_at hl 3 rfl) ?_
  have hPc := hP.sub (ws' := [(sl, .inr (6, [.int 40, .ref sc, .int 0]))]) [2] rfl
  have hDc := hD.sub (ws' := [(sl, .inr (6, [.int 40, .ref sc, .int 0]))]) [2] (by decide) rfl
  refine tl_si (tl_rVN (As := [.int p2]) (rest := []) ⟨hx, hb, hml, hown, hta⟩ hK hN hPc hDc (ci := 6) rfl 0 rfl lk_X11_156 (c_X6_has l D cy s.heap.size sl p2 40 sc ) rfl rfl ⟨Nat.le_of_ble_eq_true rfl, Nat.le_of_ble_eq_true rfl⟩ rfl hl.1 rfl (Nat.le_of_ble_eq_true rfl) dX11_without_8 ⟨Nat.le_of_ble_eq_true rfl, Nat.le_of_ble_eq_true rfl⟩) (fun r_2 hw_1 => ?_)
  subst hw_1
  refine lv_if_eq (tgt := 24) hx hb dX11_without_11 (by decide) (fun _ => ?_) (fun c => absurd c (by decide))
  refine lv_ldc (v := (-2000000)) hx hb hown (hta _ wk_230) dX11_without_24 ?_
  exact W.iret (v := (-2000000)) hx hb hr (fun t ht hW => ⟨_, rfl, rfl, ht⟩) (fun q h => by cases h) dX11_without_26
set_option maxHeartbeats 4000000 in
set_option maxRecDepth 100000 in
theorem c_X11_weightiest (l : Launch) (D : va_G) (cy : Nat → ClassId) (sz : Nat) (x : Nat) (p0 : Int32) (p1 : Int32) (b : Nat) (im : Nat) (la : Nat) (cu : Nat) (wa : Nat) (pa : Nat) (dr : Nat) (su : Nat) (mk : Nat) (vi : Nat) (re : Nat) (rd : Nat) (so : Nat) (fw : Nat) (wo : Nat) (gi : Nat) (ck : Nat)  : Met l yX11_weightiest (tl_w yX11_weightiest cX11_weightiest 8 (some .int)) ({ frames := 2, cells := 0, slots := 0, locals := 45 }) (va_Pc [.ref x, .int p0, .int p1] (tl_P D cy [(x, .inr (11, [.ref b, .ref im, .ref la, .ref cu, .ref wa, .ref pa, .ref dr, .ref su, .ref mk, .ref vi, .ref re, .ref rd, .ref so, .ref fw, .ref wo, .ref gi])), (cu, .inr (8, [.ref ck, .int 0]))] sz)) (vp_Si (fun r : Int32 => r = (-1))) 0 0 (fun _ => False) := by
  refine Met.ofW (cc := cX11_weightiest) (maxL := 8) (ret := (some .int)) (by decide) rfl ?_
  intro p e s m args below meth c s₁ B hml hv
  obtain ⟨rfl, hsz, hP, hK, hD0, hN⟩ := hv
  have hx := B.exec
  have hb := B.bytes
  have hr := B.returns
  have hta := tl_hta (atoms_spec (ws := tl_w yX11_weightiest cX11_weightiest 8 (some .int)) B.pre)
  have hown : s.vm.findClass RX11 = some m.cls := findClass_of_methodNamed B.named
  have hlocks := B.notSynchronized
  subst hsz
  have hD := hD0
  have hP : va_P D vwCl [(x, .inr (11, [.ref b, .ref im, .ref la, .ref cu, .ref wa, .ref pa, .ref dr, .ref su, .ref mk, .ref vi, .ref re, .ref rd, .ref so, .ref fw, .ref wo, .ref gi])), (cu, .inr (8, [.ref ck, .int 0]))] s.heap := hP
  have hl := lv_entry ([.ref x, .int p0, .int p1]) (n := 8) (Nat.le_of_ble_eq_true rfl)
  rw [lg_entry_eq]
  generalize (lg_sl ([.ref x, .int p0, .int p1]) ++ List.replicate (8 - (lg_sl ([.ref x, .int p0, .int p1])).length) Slot.unset).toArray = ls at hl ⊢
  have hl : lv_has ls 8 [(0, .ref x), (1, .int p0), (2, .int p1)] := hl
  refine lv_aload_n hx hb dX11_weightiest_0 rfl (lv_at hl 0 rfl) ?_
  refine lv_iload_n hx hb dX11_weightiest_1 rfl (lv_at hl 1 rfl) ?_
  refine lv_iload_n hx hb dX11_weightiest_2 rfl (lv_at hl 2 rfl) ?_
  refine lv_iconst (v := (-1)) hx hb dX11_weightiest_3 (by decide) ?_
  refine tl_si (tl_rV (As := [.int p0, .int p1, .int (-1)]) (rest := []) ⟨hx, hb, hml, hown, hta⟩ hK hN hP hD (ci := 11) rfl 0 rfl lk_X11_246 (c_X11_look l D cy s.heap.size x p0 p1 (-1) b im la cu wa pa dr su mk vi re rd so fw wo gi ck ) rfl rfl ⟨Nat.le_of_ble_eq_true rfl, Nat.le_of_ble_eq_true rfl⟩ rfl hl.1 rfl (Nat.le_of_ble_eq_true rfl) dX11_weightiest_4 ⟨Nat.le_of_ble_eq_true rfl, Nat.le_of_ble_eq_true rfl⟩) (fun r_2 hw_1 => ?_)
  subst hw_1
  refine lv_if_ne (tgt := 12) hx hb dX11_weightiest_7 (by decide) (fun c => absurd c (by decide)) (fun _ => ?_)
  refine lv_iconst (v := (-1)) hx hb dX11_weightiest_10 (by decide) ?_
  exact W.iret (v := (-1)) hx hb hr (fun t ht hW => ⟨_, rfl, rfl, ht⟩) (fun q h => by cases h) dX11_weightiest_11
set_option maxHeartbeats 4000000 in
set_option maxRecDepth 100000 in
theorem c_X11_house (l : Launch) (D : va_G) (cy : Nat → ClassId) (sz : Nat) (x : Nat) (p0 : Int32) (p1 : Int32) (p2 : Int32) (b : Nat) (im : Nat) (la : Nat) (cu : Nat) (wa : Nat) (pa : Nat) (dr : Nat) (su : Nat) (mk : Nat) (vi : Nat) (re : Nat) (rd : Nat) (so : Nat) (fw : Nat) (wo : Nat) (gi : Nat) (ck : Nat)  : Met l yX11_house (tl_w yX11_house cX11_house 4 (some .int)) ({ frames := 1, cells := 0, slots := 0, locals := 21 }) (va_Pc [.ref x, .int p0, .int p1, .int p2] (tl_P D cy [(x, .inr (11, [.ref b, .ref im, .ref la, .ref cu, .ref wa, .ref pa, .ref dr, .ref su, .ref mk, .ref vi, .ref re, .ref rd, .ref so, .ref fw, .ref wo, .ref gi])), (cu, .inr (8, [.ref ck, .int 0]))] sz)) (vp_Si (fun r : Int32 => r = (-1))) 0 0 (fun _ => False) := by
  refine Met.ofW (cc := cX11_house) (maxL := 4) (ret := (some .int)) (by decide) rfl ?_
  intro p e s m args below meth c s₁ B hml hv
  obtain ⟨rfl, hsz, hP, hK, hD0, hN⟩ := hv
  have hx := B.exec
  have hb := B.bytes
  have hr := B.returns
  have hta := tl_hta (atoms_spec (ws := tl_w yX11_house cX11_house 4 (some .int)) B.pre)
  have hown : s.vm.findClass RX11 = some m.cls := findClass_of_methodNamed B.named
  have hlocks := B.notSynchronized
  subst hsz
  have hD := hD0
  have hP : va_P D vwCl [(x, .inr (11, [.ref b, .ref im, .ref la, .ref cu, .ref wa, .ref pa, .ref dr, .ref su, .ref mk, .ref vi, .ref re, .ref rd, .ref so, .ref fw, .ref wo, .ref gi])), (cu, .inr (8, [.ref ck, .int 0]))] s.heap := hP
  have hl := lv_entry ([.ref x, .int p0, .int p1, .int p2]) (n := 4) (Nat.le_of_ble_eq_true rfl)
  rw [lg_entry_eq]
  generalize (lg_sl ([.ref x, .int p0, .int p1, .int p2]) ++ List.replicate (4 - (lg_sl ([.ref x, .int p0, .int p1, .int p2])).length) Slot.unset).toArray = ls at hl ⊢
  have hl : lv_has ls 4 [(0, .ref x), (1, .int p0), (2, .int p1), (3, .int p2)] := hl
  refine lv_aload_n hx hb dX11_house_0 rfl (lv_at hl 0 rfl) ?_
  refine va_get (D := D) (ci := 11) (v := .ref cu) (C := RX11) (T := TX11) (N := 16) hx hb hta inlX11 hown hK hP 0 rfl rfl 3 (by decide) (hta _ wk_21) (fun _ h9 => h9) rfl dX11_house_1 ?_
  refine lv_iload_n hx hb dX11_house_4 rfl (lv_at hl 1 rfl) ?_
  have hPc := hP.sub (ws' := [(cu, .inr (8, [.ref ck, .int 0]))]) [1] rfl
  have hDc := hD.sub (ws' := [(cu, .inr (8, [.ref ck, .int 0]))]) [1] (by decide) rfl
  refine tl_sq (tl_rVN (As := [.int p0]) (rest := []) ⟨hx, hb, hml, hown, hta⟩ hK hN hPc hDc (ci := 8) rfl 0 rfl lk_X11_201 (c_X8_at l D cy s.heap.size cu p0 ck ) rfl rfl ⟨Nat.le_of_ble_eq_true rfl, Nat.le_of_ble_eq_true rfl⟩ rfl hl.1 rfl (Nat.le_of_ble_eq_true rfl) dX11_house_5 ⟨Nat.le_of_ble_eq_true rfl, Nat.le_of_ble_eq_true rfl⟩) (fun r_2 hw_1 => ?_)
  subst hw_1
  refine W.eq (g2 := F0 m 8 ls [.null]) rfl ?_
  refine lv_ifnullN (tgt := 28) hx hb dX11_house_8 (by decide) ?_
  refine lv_iconst (v := (-1)) hx hb dX11_house_28 (by decide) ?_
  exact W.iret (v := (-1)) hx hb hr (fun t ht hW => ⟨_, rfl, rfl, ht⟩) (fun q h => by cases h) dX11_house_29
set_option maxHeartbeats 4000000 in
set_option maxRecDepth 100000 in
theorem c_X11_says (l : Launch) (D : va_G) (cy : Nat → ClassId) (sz : Nat) (x : Nat) (p0 : Int32) (p1 : Int32) (b : Nat) (im : Nat) (la : Nat) (cu : Nat) (wa : Nat) (pa : Nat) (dr : Nat) (su : Nat) (mk : Nat) (vi : Nat) (re : Nat) (rd : Nat) (so : Nat) (fw : Nat) (wo : Nat) (gi : Nat) (to : Nat) (ro : Nat) (sl : Nat) (li : Nat) (ca : Nat) (ho : Nat) (ta : Nat) (hc : Nat)  : Met l yX11_says (tl_w yX11_says cX11_says 3 (some .int)) ({ frames := 1, cells := 0, slots := 0, locals := 21 }) (va_Pc [.ref x, .int p0, .int p1] (tl_P D cy [(x, .inr (11, [.ref b, .ref im, .ref la, .ref cu, .ref wa, .ref pa, .ref dr, .ref su, .ref mk, .ref vi, .ref re, .ref rd, .ref so, .ref fw, .ref wo, .ref gi])), (b, .inr (0, [.int 0, .ref to, .ref ro, .ref sl, .ref li, .ref ca, .ref ho, .ref ta, .int 0])), (ho, .inr (6, [.int 8, .ref hc, .int 0]))] sz)) (vp_Si (fun r : Int32 => r = (-1))) 0 0 (fun _ => False) := by
  refine Met.ofW (cc := cX11_says) (maxL := 3) (ret := (some .int)) (by decide) rfl ?_
  intro p e s m args below meth c s₁ B hml hv
  obtain ⟨rfl, hsz, hP, hK, hD0, hN⟩ := hv
  have hx := B.exec
  have hb := B.bytes
  have hr := B.returns
  have hta := tl_hta (atoms_spec (ws := tl_w yX11_says cX11_says 3 (some .int)) B.pre)
  have hown : s.vm.findClass RX11 = some m.cls := findClass_of_methodNamed B.named
  have hlocks := B.notSynchronized
  subst hsz
  have hD := hD0
  have hP : va_P D vwCl [(x, .inr (11, [.ref b, .ref im, .ref la, .ref cu, .ref wa, .ref pa, .ref dr, .ref su, .ref mk, .ref vi, .ref re, .ref rd, .ref so, .ref fw, .ref wo, .ref gi])), (b, .inr (0, [.int 0, .ref to, .ref ro, .ref sl, .ref li, .ref ca, .ref ho, .ref ta, .int 0])), (ho, .inr (6, [.int 8, .ref hc, .int 0]))] s.heap := hP
  have hl := lv_entry ([.ref x, .int p0, .int p1]) (n := 3) (Nat.le_of_ble_eq_true rfl)
  rw [lg_entry_eq]
  generalize (lg_sl ([.ref x, .int p0, .int p1]) ++ List.replicate (3 - (lg_sl ([.ref x, .int p0, .int p1])).length) Slot.unset).toArray = ls at hl ⊢
  have hl : lv_has ls 3 [(0, .ref x), (1, .int p0), (2, .int p1)] := hl
  refine lv_aload_n hx hb dX11_says_0 rfl (lv_at hl 0 rfl) ?_
  refine va_get (D := D) (ci := 11) (v := .ref b) (C := RX11) (T := TX11) (N := 16) hx hb hta inlX11 hown hK hP 0 rfl rfl 0 (by decide) (hta _ wk_15) (fun _ h9 => h9) rfl dX11_says_1 ?_
  refine va_getN (D := D) (ci := 0) (v := .ref ho) (C := RX0) (T := TX0) (N := 9) hx hb hta inlX0 hown hK hP 1 rfl rfl 6 (by decide) (va_Nw.use rfl (hN.1 24 _ nk_24)) (fun _ h9 => h9) rfl dX11_says_4 ?_
  refine lv_iload_n hx hb dX11_says_7 rfl (lv_at hl 1 rfl) ?_
  have hPc := hP.sub (ws' := [(ho, .inr (6, [.int 8, .ref hc, .int 0]))]) [2] rfl
  have hDc := hD.sub (ws' := [(ho, .inr (6, [.int 8, .ref hc, .int 0]))]) [2] (by decide) rfl
  refine tl_si (tl_rVN (As := [.int p0]) (rest := []) ⟨hx, hb, hml, hown, hta⟩ hK hN hPc hDc (ci := 6) rfl 0 rfl lk_X11_156 (c_X6_has l D cy s.heap.size ho p0 8 hc ) rfl rfl ⟨Nat.le_of_ble_eq_true rfl, Nat.le_of_ble_eq_true rfl⟩ rfl hl.1 rfl (Nat.le_of_ble_eq_true rfl) dX11_says_8 ⟨Nat.le_of_ble_eq_true rfl, Nat.le_of_ble_eq_true rfl⟩) (fun r_2 hw_1 => ?_)
  subst hw_1
  refine lv_if_eq (tgt := 21) hx hb dX11_says_11 (by decide) (fun _ => ?_) (fun c => absurd c (by decide))
  refine lv_iconst (v := (-1)) hx hb dX11_says_21 (by decide) ?_
  exact W.iret (v := (-1)) hx hb hr (fun t ht hW => ⟨_, rfl, rfl, ht⟩) (fun q h => by cases h) dX11_says_22
set_option maxHeartbeats 4000000 in
set_option maxRecDepth 100000 in
theorem c_X11_next (l : Launch) (D : va_G) (cy : Nat → ClassId) (sz : Nat) (x : Nat) (p0 : Int32) (p1 : Int32) (p2 : Int32) (b : Nat) (im : Nat) (la : Nat) (cu : Nat) (wa : Nat) (pa : Nat) (dr : Nat) (su : Nat) (mk : Nat) (vi : Nat) (re : Nat) (rd : Nat) (so : Nat) (fw : Nat) (wo : Nat) (gi : Nat) (ck : Nat)  : Met l yX11_next (tl_w yX11_next cX11_next 12 (some .long)) ({ frames := 1, cells := 0, slots := 0, locals := 21 }) (va_Pc [.ref x, .int p0, .int p1, .int p2] (tl_P D cy [(x, .inr (11, [.ref b, .ref im, .ref la, .ref cu, .ref wa, .ref pa, .ref dr, .ref su, .ref mk, .ref vi, .ref re, .ref rd, .ref so, .ref fw, .ref wo, .ref gi])), (cu, .inr (8, [.ref ck, .int 0]))] sz)) (vp_Sl (fun r : Int64 => r = (-1))) 0 0 (fun _ => False) := by
  refine Met.ofW (cc := cX11_next) (maxL := 12) (ret := (some .long)) (by decide) rfl ?_
  intro p e s m args below meth c s₁ B hml hv
  obtain ⟨rfl, hsz, hP, hK, hD0, hN⟩ := hv
  have hx := B.exec
  have hb := B.bytes
  have hr := B.returns
  have hta := tl_hta (atoms_spec (ws := tl_w yX11_next cX11_next 12 (some .long)) B.pre)
  have hown : s.vm.findClass RX11 = some m.cls := findClass_of_methodNamed B.named
  have hlocks := B.notSynchronized
  subst hsz
  have hD := hD0
  have hP : va_P D vwCl [(x, .inr (11, [.ref b, .ref im, .ref la, .ref cu, .ref wa, .ref pa, .ref dr, .ref su, .ref mk, .ref vi, .ref re, .ref rd, .ref so, .ref fw, .ref wo, .ref gi])), (cu, .inr (8, [.ref ck, .int 0]))] s.heap := hP
  have hl := lv_entry ([.ref x, .int p0, .int p1, .int p2]) (n := 12) (Nat.le_of_ble_eq_true rfl)
  rw [lg_entry_eq]
  generalize (lg_sl ([.ref x, .int p0, .int p1, .int p2]) ++ List.replicate (12 - (lg_sl ([.ref x, .int p0, .int p1, .int p2])).length) Slot.unset).toArray = ls at hl ⊢
  have hl : lv_has ls 12 [(0, .ref x), (1, .int p0), (2, .int p1), (3, .int p2)] := hl
  refine lv_aload_n hx hb dX11_next_0 rfl (lv_at hl 0 rfl) ?_
  refine va_get (D := D) (ci := 11) (v := .ref cu) (C := RX11) (T := TX11) (N := 16) hx hb hta inlX11 hown hK hP 0 rfl rfl 3 (by decide) (hta _ wk_21) (fun _ h9 => h9) rfl dX11_next_1 ?_
  refine lv_iload_n hx hb dX11_next_4 rfl (lv_at hl 1 rfl) ?_
  have hPc := hP.sub (ws' := [(cu, .inr (8, [.ref ck, .int 0]))]) [1] rfl
  have hDc := hD.sub (ws' := [(cu, .inr (8, [.ref ck, .int 0]))]) [1] (by decide) rfl
  refine tl_sq (tl_rVN (As := [.int p0]) (rest := []) ⟨hx, hb, hml, hown, hta⟩ hK hN hPc hDc (ci := 8) rfl 0 rfl lk_X11_201 (c_X8_at l D cy s.heap.size cu p0 ck ) rfl rfl ⟨Nat.le_of_ble_eq_true rfl, Nat.le_of_ble_eq_true rfl⟩ rfl hl.1 rfl (Nat.le_of_ble_eq_true rfl) dX11_next_5 ⟨Nat.le_of_ble_eq_true rfl, Nat.le_of_ble_eq_true rfl⟩) (fun r_2 hw_1 => ?_)
  subst hw_1
  refine W.eq (g2 := F0 m 8 ls [.null]) rfl ?_
  refine lv_ifnullN (tgt := 31) hx hb dX11_next_8 (by decide) ?_
  refine lv_ldc2 (v := (-1)) hx hb hown (hta _ wk_962) dX11_next_31 ?_
  exact W.lret (v := (-1)) hx hb hr (fun t ht hW => ⟨_, rfl, rfl, ht⟩) (fun q h => by cases h) dX11_next_34
set_option maxHeartbeats 4000000 in
set_option maxRecDepth 100000 in
theorem c_X11_gives (l : Launch) (D : va_G) (cy : Nat → ClassId) (sz : Nat) (x : Nat) (p0 : Int32) (b : Nat) (im : Nat) (la : Nat) (cu : Nat) (wa : Nat) (pa : Nat) (dr : Nat) (su : Nat) (mk : Nat) (vi : Nat) (re : Nat) (rd : Nat) (so : Nat) (fw : Nat) (wo : Nat) (gi : Nat) (wk : Nat)  : Met l yX11_gives (tl_w yX11_gives cX11_gives 3 (some .int)) ({ frames := 1, cells := 0, slots := 0, locals := 21 }) (va_Pc [.ref x, .int p0] (tl_P D cy [(x, .inr (11, [.ref b, .ref im, .ref la, .ref cu, .ref wa, .ref pa, .ref dr, .ref su, .ref mk, .ref vi, .ref re, .ref rd, .ref so, .ref fw, .ref wo, .ref gi])), (wa, .inr (8, [.ref wk, .int 0]))] sz)) (vp_Si (fun r : Int32 => r = (-1))) 0 0 (fun _ => False) := by
  refine Met.ofW (cc := cX11_gives) (maxL := 3) (ret := (some .int)) (by decide) rfl ?_
  intro p e s m args below meth c s₁ B hml hv
  obtain ⟨rfl, hsz, hP, hK, hD0, hN⟩ := hv
  have hx := B.exec
  have hb := B.bytes
  have hr := B.returns
  have hta := tl_hta (atoms_spec (ws := tl_w yX11_gives cX11_gives 3 (some .int)) B.pre)
  have hown : s.vm.findClass RX11 = some m.cls := findClass_of_methodNamed B.named
  have hlocks := B.notSynchronized
  subst hsz
  have hD := hD0
  have hP : va_P D vwCl [(x, .inr (11, [.ref b, .ref im, .ref la, .ref cu, .ref wa, .ref pa, .ref dr, .ref su, .ref mk, .ref vi, .ref re, .ref rd, .ref so, .ref fw, .ref wo, .ref gi])), (wa, .inr (8, [.ref wk, .int 0]))] s.heap := hP
  have hl := lv_entry ([.ref x, .int p0]) (n := 3) (Nat.le_of_ble_eq_true rfl)
  rw [lg_entry_eq]
  generalize (lg_sl ([.ref x, .int p0]) ++ List.replicate (3 - (lg_sl ([.ref x, .int p0])).length) Slot.unset).toArray = ls at hl ⊢
  have hl : lv_has ls 3 [(0, .ref x), (1, .int p0)] := hl
  refine lv_aload_n hx hb dX11_gives_0 rfl (lv_at hl 0 rfl) ?_
  refine va_get (D := D) (ci := 11) (v := .ref wa) (C := RX11) (T := TX11) (N := 16) hx hb hta inlX11 hown hK hP 0 rfl rfl 4 (by decide) (hta _ wk_22) (fun _ h9 => h9) rfl dX11_gives_1 ?_
  refine lv_iload_n hx hb dX11_gives_4 rfl (lv_at hl 1 rfl) ?_
  have hPc := hP.sub (ws' := [(wa, .inr (8, [.ref wk, .int 0]))]) [1] rfl
  have hDc := hD.sub (ws' := [(wa, .inr (8, [.ref wk, .int 0]))]) [1] (by decide) rfl
  refine tl_sq (tl_rVN (As := [.int p0]) (rest := []) ⟨hx, hb, hml, hown, hta⟩ hK hN hPc hDc (ci := 8) rfl 0 rfl lk_X11_201 (c_X8_at l D cy s.heap.size wa p0 wk ) rfl rfl ⟨Nat.le_of_ble_eq_true rfl, Nat.le_of_ble_eq_true rfl⟩ rfl hl.1 rfl (Nat.le_of_ble_eq_true rfl) dX11_gives_5 ⟨Nat.le_of_ble_eq_true rfl, Nat.le_of_ble_eq_true rfl⟩) (fun r_2 hw_1 => ?_)
  subst hw_1
  refine W.eq (g2 := F0 m 8 ls [.null]) rfl ?_
  refine lv_astore_nN (lv' := [(2, .null), (0, .ref x), (1, .int p0)]) hx hb dX11_gives_8 rfl hl (by decide) rfl (fun ls hl => ?_)
  refine lv_aload_nN hx hb dX11_gives_9 rfl (lv_at hl 0 rfl) ?_
  refine lv_ifnonnullN hx hb dX11_gives_10 ?_
  refine lv_iconst (v := (-1)) hx hb dX11_gives_13 (by decide) ?_
  refine lv_goto (tgt := 22) hx hb dX11_gives_14 (by decide) ?_
  exact W.iret (v := (-1)) hx hb hr (fun t ht hW => ⟨_, rfl, rfl, ht⟩) (fun q h => by cases h) dX11_gives_22
set_option maxHeartbeats 4000000 in
set_option maxRecDepth 100000 in
theorem c_X11_count (l : Launch) (D : va_G) (cy : Nat → ClassId) (sz : Nat) (x : Nat) (p0 : Int32) (b : Nat) (im : Nat) (la : Nat) (cu : Nat) (wa : Nat) (pa : Nat) (dr : Nat) (su : Nat) (mk : Nat) (vi : Nat) (re : Nat) (rd : Nat) (so : Nat) (fw : Nat) (wo : Nat) (gi : Nat) (to : Nat) (ro : Nat) (sl : Nat) (li : Nat) (ca : Nat) (ho : Nat) (ta : Nat) (rg : Nat) (rh : Nat) (rk : Nat) (rr : Nat) (sc : Nat) (lc : Nat) (cc : Nat) (hc : Nat) (lk : Nat) (ck : Nat) (wk : Nat)  : Met l yX11_count (tl_w yX11_count cX11_count 2 (some .int)) ({ frames := 0, cells := 0, slots := 0, locals := 0 }) (va_Pc [.ref x, .int p0] (tl_P D cy [(x, .inr (11, [.ref b, .ref im, .ref la, .ref cu, .ref wa, .ref pa, .ref dr, .ref su, .ref mk, .ref vi, .ref re, .ref rd, .ref so, .ref fw, .ref wo, .ref gi])), (b, .inr (0, [.int 0, .ref to, .ref ro, .ref sl, .ref li, .ref ca, .ref ho, .ref ta, .int 0])), (ro, .inr (4, [.int 0, .int 0, .ref rg, .ref rh, .ref rk, .ref rr])), (sl, .inr (6, [.int 40, .ref sc, .int 0])), (li, .inr (6, [.int 60, .ref lc, .int 0])), (ca, .inr (6, [.int 10, .ref cc, .int 0])), (ho, .inr (6, [.int 8, .ref hc, .int 0])), (la, .inr (8, [.ref lk, .int 0])), (cu, .inr (8, [.ref ck, .int 0])), (wa, .inr (8, [.ref wk, .int 0]))] sz)) (vp_Si (fun r : Int32 => tl_E r (0 ≤ p0.toInt ∧ p0.toInt ≤ 10) 0 (-1))) 0 0 (fun _ => False) := by
  refine Met.ofW (cc := cX11_count) (maxL := 2) (ret := (some .int)) (by decide) rfl ?_
  intro p e s m args below meth c s₁ B hml hv
  obtain ⟨rfl, hsz, hP, hK, hD0, hN⟩ := hv
  have hx := B.exec
  have hb := B.bytes
  have hr := B.returns
  have hta := tl_hta (atoms_spec (ws := tl_w yX11_count cX11_count 2 (some .int)) B.pre)
  have hown : s.vm.findClass RX11 = some m.cls := findClass_of_methodNamed B.named
  have hlocks := B.notSynchronized
  subst hsz
  have hD := hD0
  have hP : va_P D vwCl [(x, .inr (11, [.ref b, .ref im, .ref la, .ref cu, .ref wa, .ref pa, .ref dr, .ref su, .ref mk, .ref vi, .ref re, .ref rd, .ref so, .ref fw, .ref wo, .ref gi])), (b, .inr (0, [.int 0, .ref to, .ref ro, .ref sl, .ref li, .ref ca, .ref ho, .ref ta, .int 0])), (ro, .inr (4, [.int 0, .int 0, .ref rg, .ref rh, .ref rk, .ref rr])), (sl, .inr (6, [.int 40, .ref sc, .int 0])), (li, .inr (6, [.int 60, .ref lc, .int 0])), (ca, .inr (6, [.int 10, .ref cc, .int 0])), (ho, .inr (6, [.int 8, .ref hc, .int 0])), (la, .inr (8, [.ref lk, .int 0])), (cu, .inr (8, [.ref ck, .int 0])), (wa, .inr (8, [.ref wk, .int 0]))] s.heap := hP
  have hl := lv_entry ([.ref x, .int p0]) (n := 2) (Nat.le_of_ble_eq_true rfl)
  rw [lg_entry_eq]
  generalize (lg_sl ([.ref x, .int p0]) ++ List.replicate (2 - (lg_sl ([.ref x, .int p0])).length) Slot.unset).toArray = ls at hl ⊢
  have hl : lv_has ls 2 [(0, .ref x), (1, .int p0)] := hl
  refine lv_iload_n hx hb dX11_count_0 rfl (lv_at hl 1 rfl) ?_
  rcases (show p0.toInt = 0 ∨ p0.toInt = 1 ∨ p0.toInt = 2 ∨ p0.toInt = 3 ∨ p0.toInt = 4 ∨ p0.toInt = 5 ∨ p0.toInt = 6 ∨ p0.toInt = 7 ∨ p0.toInt = 8 ∨ p0.toInt = 9 ∨ p0.toInt = 10 ∨ (p0.toInt < 0 ∨ 10 < p0.toInt) by omega) with c_1 | c_1 | c_1 | c_1 | c_1 | c_1 | c_1 | c_1 | c_1 | c_1 | c_1 | c_1
  · refine lv_tableIn (tgt := 60) hx hb dX11_count_1 (by omega) (by omega) (by rw [c_1]; rfl) (by decide) ?_
    refine lv_aload_n hx hb dX11_count_60 rfl (lv_at hl 0 rfl) ?_
    refine va_get (D := D) (ci := 11) (v := .ref b) (C := RX11) (T := TX11) (N := 16) hx hb hta inlX11 hown hK hP 0 rfl rfl 0 (by decide) (hta _ wk_15) (fun _ h9 => h9) rfl dX11_count_61 ?_
    refine va_getN (D := D) (ci := 0) (v := .int 0) (C := RX0) (T := TX0) (N := 9) hx hb hta inlX0 hown hK hP 1 rfl rfl 0 (by decide) (va_Nw.use rfl (hN.1 16 _ nk_16)) (fun _ h9 => h9) rfl dX11_count_64 ?_
    exact W.iret (v := 0) hx hb hr (fun t ht hW => ⟨_, rfl, (Or.inl ⟨by omega, rfl⟩), ht⟩) (fun q h => by cases h) dX11_count_67
  · refine lv_tableIn (tgt := 68) hx hb dX11_count_1 (by omega) (by omega) (by rw [c_1]; rfl) (by decide) ?_
    refine lv_aload_n hx hb dX11_count_68 rfl (lv_at hl 0 rfl) ?_
    refine va_get (D := D) (ci := 11) (v := .ref b) (C := RX11) (T := TX11) (N := 16) hx hb hta inlX11 hown hK hP 0 rfl rfl 0 (by decide) (hta _ wk_15) (fun _ h9 => h9) rfl dX11_count_69 ?_
    refine va_getN (D := D) (ci := 0) (v := .ref ro) (C := RX0) (T := TX0) (N := 9) hx hb hta inlX0 hown hK hP 1 rfl rfl 2 (by decide) (va_Nw.use rfl (hN.1 20 _ nk_20)) (fun _ h9 => h9) rfl dX11_count_72 ?_
    refine va_getN (D := D) (ci := 4) (v := .int 0) (C := RX4) (T := TX4) (N := 6) hx hb hta inlX4 hown hK hP 2 rfl rfl 0 (by decide) (va_Nw.use rfl (hN.1 2 _ nk_2)) (fun _ h9 => h9) rfl dX11_count_75 ?_
    exact W.iret (v := 0) hx hb hr (fun t ht hW => ⟨_, rfl, (Or.inl ⟨by omega, rfl⟩), ht⟩) (fun q h => by cases h) dX11_count_78
  · refine lv_tableIn (tgt := 79) hx hb dX11_count_1 (by omega) (by omega) (by rw [c_1]; rfl) (by decide) ?_
    refine lv_aload_n hx hb dX11_count_79 rfl (lv_at hl 0 rfl) ?_
    refine va_get (D := D) (ci := 11) (v := .ref b) (C := RX11) (T := TX11) (N := 16) hx hb hta inlX11 hown hK hP 0 rfl rfl 0 (by decide) (hta _ wk_15) (fun _ h9 => h9) rfl dX11_count_80 ?_
    refine va_getN (D := D) (ci := 0) (v := .ref sl) (C := RX0) (T := TX0) (N := 9) hx hb hta inlX0 hown hK hP 1 rfl rfl 3 (by decide) (va_Nw.use rfl (hN.1 21 _ nk_21)) (fun _ h9 => h9) rfl dX11_count_83 ?_
    refine va_getN (D := D) (ci := 6) (v := .int 0) (C := RX6) (T := TX6) (N := 3) hx hb hta inlX6 hown hK hP 3 rfl rfl 2 (by decide) (va_Nw.use rfl (hN.1 15 _ nk_15)) (fun _ h9 => h9) rfl dX11_count_86 ?_
    exact W.iret (v := 0) hx hb hr (fun t ht hW => ⟨_, rfl, (Or.inl ⟨by omega, rfl⟩), ht⟩) (fun q h => by cases h) dX11_count_89
  · refine lv_tableIn (tgt := 90) hx hb dX11_count_1 (by omega) (by omega) (by rw [c_1]; rfl) (by decide) ?_
    refine lv_aload_n hx hb dX11_count_90 rfl (lv_at hl 0 rfl) ?_
    refine va_get (D := D) (ci := 11) (v := .ref b) (C := RX11) (T := TX11) (N := 16) hx hb hta inlX11 hown hK hP 0 rfl rfl 0 (by decide) (hta _ wk_15) (fun _ h9 => h9) rfl dX11_count_91 ?_
    refine va_getN (D := D) (ci := 0) (v := .ref li) (C := RX0) (T := TX0) (N := 9) hx hb hta inlX0 hown hK hP 1 rfl rfl 4 (by decide) (va_Nw.use rfl (hN.1 22 _ nk_22)) (fun _ h9 => h9) rfl dX11_count_94 ?_
    refine va_getN (D := D) (ci := 6) (v := .int 0) (C := RX6) (T := TX6) (N := 3) hx hb hta inlX6 hown hK hP 4 rfl rfl 2 (by decide) (va_Nw.use rfl (hN.1 15 _ nk_15)) (fun _ h9 => h9) rfl dX11_count_97 ?_
    exact W.iret (v := 0) hx hb hr (fun t ht hW => ⟨_, rfl, (Or.inl ⟨by omega, rfl⟩), ht⟩) (fun q h => by cases h) dX11_count_100
  · refine lv_tableIn (tgt := 101) hx hb dX11_count_1 (by omega) (by omega) (by rw [c_1]; rfl) (by decide) ?_
    refine lv_aload_n hx hb dX11_count_101 rfl (lv_at hl 0 rfl) ?_
    refine va_get (D := D) (ci := 11) (v := .ref la) (C := RX11) (T := TX11) (N := 16) hx hb hta inlX11 hown hK hP 0 rfl rfl 2 (by decide) (hta _ wk_20) (fun _ h9 => h9) rfl dX11_count_102 ?_
    refine va_getN (D := D) (ci := 8) (v := .int 0) (C := RX8) (T := TX8) (N := 2) hx hb hta inlX8 hown hK hP 7 rfl rfl 1 (by decide) (va_Nw.use rfl (hN.1 28 _ nk_28)) (fun _ h9 => h9) rfl dX11_count_105 ?_
    exact W.iret (v := 0) hx hb hr (fun t ht hW => ⟨_, rfl, (Or.inl ⟨by omega, rfl⟩), ht⟩) (fun q h => by cases h) dX11_count_108
  · refine lv_tableIn (tgt := 109) hx hb dX11_count_1 (by omega) (by omega) (by rw [c_1]; rfl) (by decide) ?_
    refine lv_aload_n hx hb dX11_count_109 rfl (lv_at hl 0 rfl) ?_
    refine va_get (D := D) (ci := 11) (v := .ref cu) (C := RX11) (T := TX11) (N := 16) hx hb hta inlX11 hown hK hP 0 rfl rfl 3 (by decide) (hta _ wk_21) (fun _ h9 => h9) rfl dX11_count_110 ?_
    refine va_getN (D := D) (ci := 8) (v := .int 0) (C := RX8) (T := TX8) (N := 2) hx hb hta inlX8 hown hK hP 8 rfl rfl 1 (by decide) (va_Nw.use rfl (hN.1 28 _ nk_28)) (fun _ h9 => h9) rfl dX11_count_113 ?_
    exact W.iret (v := 0) hx hb hr (fun t ht hW => ⟨_, rfl, (Or.inl ⟨by omega, rfl⟩), ht⟩) (fun q h => by cases h) dX11_count_116
  · refine lv_tableIn (tgt := 117) hx hb dX11_count_1 (by omega) (by omega) (by rw [c_1]; rfl) (by decide) ?_
    refine lv_aload_n hx hb dX11_count_117 rfl (lv_at hl 0 rfl) ?_
    refine va_get (D := D) (ci := 11) (v := .ref wa) (C := RX11) (T := TX11) (N := 16) hx hb hta inlX11 hown hK hP 0 rfl rfl 4 (by decide) (hta _ wk_22) (fun _ h9 => h9) rfl dX11_count_118 ?_
    refine va_getN (D := D) (ci := 8) (v := .int 0) (C := RX8) (T := TX8) (N := 2) hx hb hta inlX8 hown hK hP 9 rfl rfl 1 (by decide) (va_Nw.use rfl (hN.1 28 _ nk_28)) (fun _ h9 => h9) rfl dX11_count_121 ?_
    exact W.iret (v := 0) hx hb hr (fun t ht hW => ⟨_, rfl, (Or.inl ⟨by omega, rfl⟩), ht⟩) (fun q h => by cases h) dX11_count_124
  · refine lv_tableIn (tgt := 125) hx hb dX11_count_1 (by omega) (by omega) (by rw [c_1]; rfl) (by decide) ?_
    refine lv_aload_n hx hb dX11_count_125 rfl (lv_at hl 0 rfl) ?_
    refine va_get (D := D) (ci := 11) (v := .ref b) (C := RX11) (T := TX11) (N := 16) hx hb hta inlX11 hown hK hP 0 rfl rfl 0 (by decide) (hta _ wk_15) (fun _ h9 => h9) rfl dX11_count_126 ?_
    refine va_getN (D := D) (ci := 0) (v := .ref ca) (C := RX0) (T := TX0) (N := 9) hx hb hta inlX0 hown hK hP 1 rfl rfl 5 (by decide) (va_Nw.use rfl (hN.1 23 _ nk_23)) (fun _ h9 => h9) rfl dX11_count_129 ?_
    refine va_getN (D := D) (ci := 6) (v := .int 0) (C := RX6) (T := TX6) (N := 3) hx hb hta inlX6 hown hK hP 5 rfl rfl 2 (by decide) (va_Nw.use rfl (hN.1 15 _ nk_15)) (fun _ h9 => h9) rfl dX11_count_132 ?_
    exact W.iret (v := 0) hx hb hr (fun t ht hW => ⟨_, rfl, (Or.inl ⟨by omega, rfl⟩), ht⟩) (fun q h => by cases h) dX11_count_135
  · refine lv_tableIn (tgt := 136) hx hb dX11_count_1 (by omega) (by omega) (by rw [c_1]; rfl) (by decide) ?_
    refine lv_aload_n hx hb dX11_count_136 rfl (lv_at hl 0 rfl) ?_
    refine va_get (D := D) (ci := 11) (v := .ref b) (C := RX11) (T := TX11) (N := 16) hx hb hta inlX11 hown hK hP 0 rfl rfl 0 (by decide) (hta _ wk_15) (fun _ h9 => h9) rfl dX11_count_137 ?_
    refine va_getN (D := D) (ci := 0) (v := .ref ro) (C := RX0) (T := TX0) (N := 9) hx hb hta inlX0 hown hK hP 1 rfl rfl 2 (by decide) (va_Nw.use rfl (hN.1 20 _ nk_20)) (fun _ h9 => h9) rfl dX11_count_140 ?_
    refine va_getN (D := D) (ci := 4) (v := .int 0) (C := RX4) (T := TX4) (N := 6) hx hb hta inlX4 hown hK hP 2 rfl rfl 1 (by decide) (va_Nw.use rfl (hN.1 3 _ nk_3)) (fun _ h9 => h9) rfl dX11_count_143 ?_
    exact W.iret (v := 0) hx hb hr (fun t ht hW => ⟨_, rfl, (Or.inl ⟨by omega, rfl⟩), ht⟩) (fun q h => by cases h) dX11_count_146
  · refine lv_tableIn (tgt := 147) hx hb dX11_count_1 (by omega) (by omega) (by rw [c_1]; rfl) (by decide) ?_
    refine lv_aload_n hx hb dX11_count_147 rfl (lv_at hl 0 rfl) ?_
    refine va_get (D := D) (ci := 11) (v := .ref b) (C := RX11) (T := TX11) (N := 16) hx hb hta inlX11 hown hK hP 0 rfl rfl 0 (by decide) (hta _ wk_15) (fun _ h9 => h9) rfl dX11_count_148 ?_
    refine va_getN (D := D) (ci := 0) (v := .int 0) (C := RX0) (T := TX0) (N := 9) hx hb hta inlX0 hown hK hP 1 rfl rfl 8 (by decide) (va_Nw.use rfl (hN.1 26 _ nk_26)) (fun _ h9 => h9) rfl dX11_count_151 ?_
    exact W.iret (v := 0) hx hb hr (fun t ht hW => ⟨_, rfl, (Or.inl ⟨by omega, rfl⟩), ht⟩) (fun q h => by cases h) dX11_count_154
  · refine lv_tableIn (tgt := 155) hx hb dX11_count_1 (by omega) (by omega) (by rw [c_1]; rfl) (by decide) ?_
    refine lv_aload_n hx hb dX11_count_155 rfl (lv_at hl 0 rfl) ?_
    refine va_get (D := D) (ci := 11) (v := .ref b) (C := RX11) (T := TX11) (N := 16) hx hb hta inlX11 hown hK hP 0 rfl rfl 0 (by decide) (hta _ wk_15) (fun _ h9 => h9) rfl dX11_count_156 ?_
    refine va_getN (D := D) (ci := 0) (v := .ref ho) (C := RX0) (T := TX0) (N := 9) hx hb hta inlX0 hown hK hP 1 rfl rfl 6 (by decide) (va_Nw.use rfl (hN.1 24 _ nk_24)) (fun _ h9 => h9) rfl dX11_count_159 ?_
    refine va_getN (D := D) (ci := 6) (v := .int 0) (C := RX6) (T := TX6) (N := 3) hx hb hta inlX6 hown hK hP 6 rfl rfl 2 (by decide) (va_Nw.use rfl (hN.1 15 _ nk_15)) (fun _ h9 => h9) rfl dX11_count_162 ?_
    exact W.iret (v := 0) hx hb hr (fun t ht hW => ⟨_, rfl, (Or.inl ⟨by omega, rfl⟩), ht⟩) (fun q h => by cases h) dX11_count_165
  · refine lv_tableOut (tgt := 166) hx hb dX11_count_1 (by omega) (by decide) ?_
    refine lv_iconst (v := (-1)) hx hb dX11_count_166 (by decide) ?_
    exact W.iret (v := (-1)) hx hb hr (fun t ht hW => ⟨_, rfl, (Or.inr ⟨by omega, rfl⟩), ht⟩) (fun q h => by cases h) dX11_count_167
set_option maxHeartbeats 4000000 in
set_option maxRecDepth 100000 in
theorem c_X11_back (l : Launch) (D : va_G) (cy : Nat → ClassId) (sz : Nat) (x : Nat) (p0 : Int32) (b : Nat) (im : Nat) (la : Nat) (cu : Nat) (wa : Nat) (pa : Nat) (dr : Nat) (su : Nat) (mk : Nat) (vi : Nat) (re : Nat) (rd : Nat) (so : Nat) (fw : Nat) (wo : Nat) (gi : Nat)  : Met l yX11_back (tl_w yX11_back cX11_back 2 (some .int)) ({ frames := 1, cells := 0, slots := 0, locals := 22 }) (va_Pc [.ref x, .int p0] (tl_P D cy [(x, .inr (11, [.ref b, .ref im, .ref la, .ref cu, .ref wa, .ref pa, .ref dr, .ref su, .ref mk, .ref vi, .ref re, .ref rd, .ref so, .ref fw, .ref wo, .ref gi])), (im, .inl (cy 4, 4, .inr (.inr (.inr (.inr (fun _ => none))))))] sz)) (vp_Si (fun r : Int32 => r = (-1))) 0 0 (fun _ => False) := by
  refine Met.ofW (cc := cX11_back) (maxL := 2) (ret := (some .int)) (by decide) rfl ?_
  intro p e s m args below meth c s₁ B hml hv
  obtain ⟨rfl, hsz, hP, hK, hD0, hN⟩ := hv
  have hx := B.exec
  have hb := B.bytes
  have hr := B.returns
  have hta := tl_hta (atoms_spec (ws := tl_w yX11_back cX11_back 2 (some .int)) B.pre)
  have hown : s.vm.findClass RX11 = some m.cls := findClass_of_methodNamed B.named
  have hlocks := B.notSynchronized
  subst hsz
  have hD := hD0
  have hP : va_P D vwCl [(x, .inr (11, [.ref b, .ref im, .ref la, .ref cu, .ref wa, .ref pa, .ref dr, .ref su, .ref mk, .ref vi, .ref re, .ref rd, .ref so, .ref fw, .ref wo, .ref gi])), (im, .inl (cy 4, 4, .inr (.inr (.inr (.inr (fun _ => none))))))] s.heap := hP
  have hl := lv_entry ([.ref x, .int p0]) (n := 2) (Nat.le_of_ble_eq_true rfl)
  rw [lg_entry_eq]
  generalize (lg_sl ([.ref x, .int p0]) ++ List.replicate (2 - (lg_sl ([.ref x, .int p0])).length) Slot.unset).toArray = ls at hl ⊢
  have hl : lv_has ls 2 [(0, .ref x), (1, .int p0)] := hl
  refine lv_iload_n hx hb dX11_back_0 rfl (lv_at hl 1 rfl) ?_
  refine lv_iconst (v := 0) hx hb dX11_back_1 (by decide) ?_
  refine lv_iconst (v := 3) hx hb dX11_back_2 (by decide) ?_
  have hPc := hP.sub (ws' := []) [] rfl
  have hDc := hD.sub (ws' := []) [] (by decide) rfl
  refine tl_si (tl_rS (As := [.int p0, .int 0, .int 3]) (rest := []) ⟨hx, hb, hml, hown, hta⟩ hK hN hPc hDc lk_X11_105 (c_X11_isIn l D cy s.heap.size p0 0 3 ) rfl rfl ⟨Nat.le_of_ble_eq_true rfl, Nat.le_of_ble_eq_true rfl⟩ rfl hl.1 rfl (Nat.le_of_ble_eq_true rfl) dX11_back_3 ⟨Nat.le_of_ble_eq_true rfl, Nat.le_of_ble_eq_true rfl⟩) (fun r_2 hw_1 => ?_)
  have hw_1 : tl_E r_2 ((0 : Int) ≤ p0.toInt ∧ p0.toInt ≤ (3 : Int)) 1 0 := hw_1
  refine lv_if_eq (tgt := 18) hx hb dX11_back_6 (by decide) (fun c_3 => ?_) (fun c_3 => ?_)
  · have c_3 := hw_1.f c_3
    refine lv_iconst (v := (-1)) hx hb dX11_back_18 (by decide) ?_
    exact W.iret (v := (-1)) hx hb hr (fun t ht hW => ⟨_, rfl, rfl, ht⟩) (fun q h => by cases h) dX11_back_19
  · have c_3 := hw_1.t c_3
    refine lv_aload_n hx hb dX11_back_9 rfl (lv_at hl 0 rfl) ?_
    refine va_get (D := D) (ci := 11) (v := .ref im) (C := RX11) (T := TX11) (N := 16) hx hb hta inlX11 hown hK hP 0 rfl rfl 1 (by decide) (hta _ wk_16) (fun _ h9 => h9) rfl dX11_back_10 ?_
    refine lv_iload_n hx hb dX11_back_13 rfl (lv_at hl 1 rfl) ?_
    refine va_aldq (D := D) hx hb hK hP 1 4 rfl rfl (tl_in (by omega) (by omega)) dX11_back_14 ?_
    refine W.eq (g2 := F0 m 15 ls ([.null])) rfl ?_
    refine lv_ifnonnullN hx hb dX11_back_15 ?_
    refine lv_iconst (v := (-1)) hx hb dX11_back_18 (by decide) ?_
    exact W.iret (v := (-1)) hx hb hr (fun t ht hW => ⟨_, rfl, rfl, ht⟩) (fun q h => by cases h) dX11_back_19
set_option maxHeartbeats 4000000 in
set_option maxRecDepth 100000 in
theorem c_X11_findGiven (l : Launch) (D : va_G) (cy : Nat → ClassId) (sz : Nat) (x : Nat) (b : Nat) (im : Nat) (la : Nat) (cu : Nat) (wa : Nat) (pa : Nat) (dr : Nat) (su : Nat) (mk : Nat) (vi : Nat) (re : Nat) (rd : Nat) (so : Nat) (fw : Nat) (wo : Nat) (gi : Nat) (wk : Nat)  : Met l yX11_findGiven (tl_w yX11_findGiven cX11_findGiven 5 (some .long)) ({ frames := 0, cells := 0, slots := 0, locals := 0 }) (va_Pc [.ref x] (tl_P D cy [(x, .inr (11, [.ref b, .ref im, .ref la, .ref cu, .ref wa, .ref pa, .ref dr, .ref su, .ref mk, .ref vi, .ref re, .ref rd, .ref so, .ref fw, .ref wo, .ref gi])), (wa, .inr (8, [.ref wk, .int 0]))] sz)) (vp_Sl (fun r : Int64 => r = 0)) 0 0 (fun _ => False) := by
  refine Met.ofW (cc := cX11_findGiven) (maxL := 5) (ret := (some .long)) (by decide) rfl ?_
  intro p e s m args below meth c s₁ B hml hv
  obtain ⟨rfl, hsz, hP, hK, hD0, hN⟩ := hv
  have hx := B.exec
  have hb := B.bytes
  have hr := B.returns
  have hta := tl_hta (atoms_spec (ws := tl_w yX11_findGiven cX11_findGiven 5 (some .long)) B.pre)
  have hown : s.vm.findClass RX11 = some m.cls := findClass_of_methodNamed B.named
  have hlocks := B.notSynchronized
  subst hsz
  have hD := hD0
  have hP : va_P D vwCl [(x, .inr (11, [.ref b, .ref im, .ref la, .ref cu, .ref wa, .ref pa, .ref dr, .ref su, .ref mk, .ref vi, .ref re, .ref rd, .ref so, .ref fw, .ref wo, .ref gi])), (wa, .inr (8, [.ref wk, .int 0]))] s.heap := hP
  have hl := lv_entry ([.ref x]) (n := 5) (Nat.le_of_ble_eq_true rfl)
  rw [lg_entry_eq]
  generalize (lg_sl ([.ref x]) ++ List.replicate (5 - (lg_sl ([.ref x])).length) Slot.unset).toArray = ls at hl ⊢
  have hl : lv_has ls 5 [(0, .ref x)] := hl
  refine lv_lconst (v := 0) hx hb dX11_findGiven_0 (by decide) ?_
  refine lv_lstore_n (lv' := [(1, .long 0), (0, .ref x)]) hx hb dX11_findGiven_1 rfl hl (by decide) rfl (fun ls hl => ?_)
  refine lv_iconst (v := 0) hx hb dX11_findGiven_2 (by decide) ?_
  refine lv_istore_n (lv' := [(3, .int 0), (1, .long 0), (0, .ref x)]) hx hb dX11_findGiven_3 rfl hl (by decide) rfl (fun ls hl => ?_)
  refine lv_iload_n hx hb dX11_findGiven_4 rfl (lv_at hl 0 rfl) ?_
  refine lv_aload_n hx hb dX11_findGiven_5 rfl (lv_at hl 2 rfl) ?_
  refine va_get (D := D) (ci := 11) (v := .ref wa) (C := RX11) (T := TX11) (N := 16) hx hb hta inlX11 hown hK hP 0 rfl rfl 4 (by decide) (hta _ wk_22) (fun _ h9 => h9) rfl dX11_findGiven_6 ?_
  refine va_getN (D := D) (ci := 8) (v := .int 0) (C := RX8) (T := TX8) (N := 2) hx hb hta inlX8 hown hK hP 1 rfl rfl 1 (by decide) (va_Nw.use rfl (hN.1 28 _ nk_28)) (fun _ h9 => h9) rfl dX11_findGiven_9 ?_
  refine lv_icmp_ge (tgt := 71) hx hb dX11_findGiven_12 (by decide) (fun _ => ?_) (fun c => absurd c (by decide))
  refine lv_lload_n hx hb dX11_findGiven_71 rfl (lv_at hl 1 rfl) ?_
  exact W.lret (v := 0) hx hb hr (fun t ht hW => ⟨_, rfl, rfl, ht⟩) (fun q h => by cases h) dX11_findGiven_72
set_option maxHeartbeats 4000000 in
set_option maxRecDepth 100000 in
theorem c_X11_brief (l : Launch) (D : va_G) (cy : Nat → ClassId) (sz : Nat) (x : Nat) (p0 : Int32) (b : Nat) (im : Nat) (la : Nat) (cu : Nat) (wa : Nat) (pa : Nat) (dr : Nat) (su : Nat) (mk : Nat) (vi : Nat) (re : Nat) (rd : Nat) (so : Nat) (fw : Nat) (wo : Nat) (gi : Nat) (wk : Nat)  : Met l yX11_brief (tl_w yX11_brief cX11_brief 2 (some .int)) ({ frames := 2, cells := 0, slots := 0, locals := 42 }) (va_Pc [.ref x, .int p0] (tl_P D cy [(x, .inr (11, [.ref b, .ref im, .ref la, .ref cu, .ref wa, .ref pa, .ref dr, .ref su, .ref mk, .ref vi, .ref re, .ref rd, .ref so, .ref fw, .ref wo, .ref gi])), (wa, .inr (8, [.ref wk, .int 0]))] sz)) (vp_Si (fun r : Int32 => tl_E r (0 ≤ p0.toInt ∧ p0.toInt ≤ 999999999) p0 (-1))) 0 0 (fun _ => False) := by
  refine Met.ofW (cc := cX11_brief) (maxL := 2) (ret := (some .int)) (by decide) rfl ?_
  intro p e s m args below meth c s₁ B hml hv
  obtain ⟨rfl, hsz, hP, hK, hD0, hN⟩ := hv
  have hx := B.exec
  have hb := B.bytes
  have hr := B.returns
  have hta := tl_hta (atoms_spec (ws := tl_w yX11_brief cX11_brief 2 (some .int)) B.pre)
  have hown : s.vm.findClass RX11 = some m.cls := findClass_of_methodNamed B.named
  have hlocks := B.notSynchronized
  subst hsz
  have hD := hD0
  have hP : va_P D vwCl [(x, .inr (11, [.ref b, .ref im, .ref la, .ref cu, .ref wa, .ref pa, .ref dr, .ref su, .ref mk, .ref vi, .ref re, .ref rd, .ref so, .ref fw, .ref wo, .ref gi])), (wa, .inr (8, [.ref wk, .int 0]))] s.heap := hP
  have hl := lv_entry ([.ref x, .int p0]) (n := 2) (Nat.le_of_ble_eq_true rfl)
  rw [lg_entry_eq]
  generalize (lg_sl ([.ref x, .int p0]) ++ List.replicate (2 - (lg_sl ([.ref x, .int p0])).length) Slot.unset).toArray = ls at hl ⊢
  have hl : lv_has ls 2 [(0, .ref x), (1, .int p0)] := hl
  refine lv_iload_n hx hb dX11_brief_0 rfl (lv_at hl 1 rfl) ?_
  have hPc := hP.sub (ws' := []) [] rfl
  have hDc := hD.sub (ws' := []) [] (by decide) rfl
  refine tl_si (tl_rS (As := [.int p0]) (rest := []) ⟨hx, hb, hml, hown, hta⟩ hK hN hPc hDc lk_X11_474 (c_X11_isNeed l D cy s.heap.size p0 ) rfl rfl ⟨Nat.le_of_ble_eq_true rfl, Nat.le_of_ble_eq_true rfl⟩ rfl hl.1 rfl (Nat.le_of_ble_eq_true rfl) dX11_brief_1 ⟨Nat.le_of_ble_eq_true rfl, Nat.le_of_ble_eq_true rfl⟩) (fun r_2 hw_1 => ?_)
  have hw_1 : tl_E r_2 (0 ≤ p0.toInt ∧ p0.toInt ≤ 999999999) 1 0 := hw_1
  refine lv_if_ne (tgt := 9) hx hb dX11_brief_4 (by decide) (fun c_3 => ?_) (fun c_3 => ?_)
  · have c_3 := hw_1.t c_3
    refine lv_lconst (v := 0) hx hb dX11_brief_9 (by decide) ?_
    refine lv_iload_n hx hb dX11_brief_10 rfl (lv_at hl 1 rfl) ?_
    refine lv_i2l (v := p0.toInt64) hx hb dX11_brief_11 (by first | rfl | decide) ?_
    refine lv_aload_n hx hb dX11_brief_12 rfl (lv_at hl 0 rfl) ?_
    refine tl_sl (tl_rV (As := []) (rest := [.long p0.toInt64, .long 0]) ⟨hx, hb, hml, hown, hta⟩ hK hN hP hD (ci := 11) rfl 0 rfl lk_X11_477 (c_X11_findGiven l D cy s.heap.size x b im la cu wa pa dr su mk vi re rd so fw wo gi wk ) rfl rfl ⟨Nat.le_of_ble_eq_true rfl, Nat.le_of_ble_eq_true rfl⟩ rfl hl.1 rfl (Nat.le_of_ble_eq_true rfl) dX11_brief_13 ⟨Nat.le_of_ble_eq_true rfl, Nat.le_of_ble_eq_true rfl⟩) (fun r_5 hw_4 => ?_)
    subst hw_4
    refine lv_lsub hx hb dX11_brief_16 ?_
    refine lv_topl (fun z_6 ez_6 => ?_)
    refine va_mmax_long hx hb (by rw [hml]; exact hl.1.symm) hown (hta _ wk_762) (hta _ wk_763) (hta _ wk_83) (hta _ wk_764) (Nat.le_of_ble_eq_true rfl) (Nat.le_of_ble_eq_true rfl) (Nat.le_of_ble_eq_true rfl) (Nat.le_of_ble_eq_true rfl) dX11_brief_17 ?_
    refine lv_topl (fun z_7 ez_7 => ?_)
    refine lv_l2i hx hb dX11_brief_20 rfl ?_
    refine lv_topi (fun z_8 ez_8 => ?_)
    exact W.iret (v := z_8) hx hb hr (fun t ht hW => ⟨_, rfl, (Or.inl ⟨by omega, by first | (subst_vars; exact tl_brief (by omega)) | (simp only [*]; exact tl_brief (by omega))⟩), ht⟩) (fun q h => by cases h) dX11_brief_21
  · have c_3 := hw_1.f c_3
    refine lv_iconst (v := (-1)) hx hb dX11_brief_7 (by decide) ?_
    exact W.iret (v := (-1)) hx hb hr (fun t ht hW => ⟨_, rfl, (Or.inr ⟨by omega, rfl⟩), ht⟩) (fun q h => by cases h) dX11_brief_8
set_option maxHeartbeats 4000000 in
set_option maxRecDepth 100000 in
theorem c_bitCount_0 (l : Launch) (D : va_G) (cy : Nat → ClassId) (sz : Nat)   : Met l yJ6_bitCount_0f7a4 (tl_w yJ6_bitCount_0f7a4 cJ6_bitCount_0f7a4 1 (some .int)) ({ frames := 0, cells := 0, slots := 0, locals := 0 }) (va_Pc [.int 0] (tl_P D cy [] sz)) (vp_Si (fun r : Int32 => r = 0)) 0 0 (fun _ => False) := by
  refine Met.ofW (cc := cJ6_bitCount_0f7a4) (maxL := 1) (ret := (some .int)) (by decide) rfl ?_
  intro p e s m args below meth c s₁ B hml hv
  obtain ⟨rfl, hsz, hP, hK, hD0, hN⟩ := hv
  have hx := B.exec
  have hb := B.bytes
  have hr := B.returns
  have hta := tl_hta (atoms_spec (ws := tl_w yJ6_bitCount_0f7a4 cJ6_bitCount_0f7a4 1 (some .int)) B.pre)
  have hown : s.vm.findClass RJ6 = some m.cls := findClass_of_methodNamed B.named
  have hlocks := B.notSynchronized
  subst hsz
  have hD := hD0
  have hP : va_P D vwCl [] s.heap := hP
  have hl := lv_entry ([.int 0]) (n := 1) (Nat.le_of_ble_eq_true rfl)
  rw [lg_entry_eq]
  generalize (lg_sl ([.int 0]) ++ List.replicate (1 - (lg_sl ([.int 0])).length) Slot.unset).toArray = ls at hl ⊢
  have hl : lv_has ls 1 [(0, .int 0)] := hl
  refine lv_iload_n hx hb dJ6_bitCount_0f7a4_0 rfl (lv_at hl 0 rfl) ?_
  refine lv_iload_n hx hb dJ6_bitCount_0f7a4_1 rfl (lv_at hl 0 rfl) ?_
  refine lv_iconst (v := 1) hx hb dJ6_bitCount_0f7a4_2 (by decide) ?_
  refine lv_iushr hx hb dJ6_bitCount_0f7a4_3 rfl ?_
  refine lv_topi (fun z_1 ez_1 => ?_)
  obtain rfl : z_1 = (0 : Int32) := ez_1.trans (by decide)
  refine lv_ldcw (v := 1431655765) hx hb hown (hta _ wk_1473) dJ6_bitCount_0f7a4_4 ?_
  refine lv_iand hx hb dJ6_bitCount_0f7a4_7 ?_
  refine lv_topi (fun z_2 ez_2 => ?_)
  obtain rfl : z_2 = (0 : Int32) := ez_2.trans (by decide)
  refine lv_isub hx hb dJ6_bitCount_0f7a4_8 ?_
  refine lv_topi (fun z_3 ez_3 => ?_)
  obtain rfl : z_3 = (0 : Int32) := ez_3.trans (by decide)
  refine lv_istore_n (lv' := [(0, .int 0)]) hx hb dJ6_bitCount_0f7a4_9 rfl hl (by decide) rfl (fun ls hl => ?_)
  refine lv_iload_n hx hb dJ6_bitCount_0f7a4_10 rfl (lv_at hl 0 rfl) ?_
  refine lv_ldcw (v := 858993459) hx hb hown (hta _ wk_1474) dJ6_bitCount_0f7a4_11 ?_
  refine lv_iand hx hb dJ6_bitCount_0f7a4_14 ?_
  refine lv_topi (fun z_4 ez_4 => ?_)
  obtain rfl : z_4 = (0 : Int32) := ez_4.trans (by decide)
  refine lv_iload_n hx hb dJ6_bitCount_0f7a4_15 rfl (lv_at hl 0 rfl) ?_
  refine lv_iconst (v := 2) hx hb dJ6_bitCount_0f7a4_16 (by decide) ?_
  refine lv_iushr hx hb dJ6_bitCount_0f7a4_17 rfl ?_
  refine lv_topi (fun z_5 ez_5 => ?_)
  obtain rfl : z_5 = (0 : Int32) := ez_5.trans (by decide)
  refine lv_ldcw (v := 858993459) hx hb hown (hta _ wk_1474) dJ6_bitCount_0f7a4_18 ?_
  refine lv_iand hx hb dJ6_bitCount_0f7a4_21 ?_
  refine lv_topi (fun z_6 ez_6 => ?_)
  obtain rfl : z_6 = (0 : Int32) := ez_6.trans (by decide)
  refine lv_iadd hx hb dJ6_bitCount_0f7a4_22 ?_
  refine lv_topi (fun z_7 ez_7 => ?_)
  obtain rfl : z_7 = (0 : Int32) := ez_7.trans (by decide)
  refine lv_istore_n (lv' := [(0, .int 0)]) hx hb dJ6_bitCount_0f7a4_23 rfl hl (by decide) rfl (fun ls hl => ?_)
  refine lv_iload_n hx hb dJ6_bitCount_0f7a4_24 rfl (lv_at hl 0 rfl) ?_
  refine lv_iload_n hx hb dJ6_bitCount_0f7a4_25 rfl (lv_at hl 0 rfl) ?_
  refine lv_iconst (v := 4) hx hb dJ6_bitCount_0f7a4_26 (by decide) ?_
  refine lv_iushr hx hb dJ6_bitCount_0f7a4_27 rfl ?_
  refine lv_topi (fun z_8 ez_8 => ?_)
  obtain rfl : z_8 = (0 : Int32) := ez_8.trans (by decide)
  refine lv_iadd hx hb dJ6_bitCount_0f7a4_28 ?_
  refine lv_topi (fun z_9 ez_9 => ?_)
  obtain rfl : z_9 = (0 : Int32) := ez_9.trans (by decide)
  refine lv_ldcw (v := 252645135) hx hb hown (hta _ wk_1475) dJ6_bitCount_0f7a4_29 ?_
  refine lv_iand hx hb dJ6_bitCount_0f7a4_32 ?_
  refine lv_topi (fun z_10 ez_10 => ?_)
  obtain rfl : z_10 = (0 : Int32) := ez_10.trans (by decide)
  refine lv_istore_n (lv' := [(0, .int 0)]) hx hb dJ6_bitCount_0f7a4_33 rfl hl (by decide) rfl (fun ls hl => ?_)
  refine lv_iload_n hx hb dJ6_bitCount_0f7a4_34 rfl (lv_at hl 0 rfl) ?_
  refine lv_iload_n hx hb dJ6_bitCount_0f7a4_35 rfl (lv_at hl 0 rfl) ?_
  refine lv_bipush (v := 8) hx hb dJ6_bitCount_0f7a4_36 (by decide) ?_
  refine lv_iushr hx hb dJ6_bitCount_0f7a4_38 rfl ?_
  refine lv_topi (fun z_11 ez_11 => ?_)
  obtain rfl : z_11 = (0 : Int32) := ez_11.trans (by decide)
  refine lv_iadd hx hb dJ6_bitCount_0f7a4_39 ?_
  refine lv_topi (fun z_12 ez_12 => ?_)
  obtain rfl : z_12 = (0 : Int32) := ez_12.trans (by decide)
  refine lv_istore_n (lv' := [(0, .int 0)]) hx hb dJ6_bitCount_0f7a4_40 rfl hl (by decide) rfl (fun ls hl => ?_)
  refine lv_iload_n hx hb dJ6_bitCount_0f7a4_41 rfl (lv_at hl 0 rfl) ?_
  refine lv_iload_n hx hb dJ6_bitCount_0f7a4_42 rfl (lv_at hl 0 rfl) ?_
  refine lv_bipush (v := 16) hx hb dJ6_bitCount_0f7a4_43 (by decide) ?_
  refine lv_iushr hx hb dJ6_bitCount_0f7a4_45 rfl ?_
  refine lv_topi (fun z_13 ez_13 => ?_)
  obtain rfl : z_13 = (0 : Int32) := ez_13.trans (by decide)
  refine lv_iadd hx hb dJ6_bitCount_0f7a4_46 ?_
  refine lv_topi (fun z_14 ez_14 => ?_)
  obtain rfl : z_14 = (0 : Int32) := ez_14.trans (by decide)
  refine lv_istore_n (lv' := [(0, .int 0)]) hx hb dJ6_bitCount_0f7a4_47 rfl hl (by decide) rfl (fun ls hl => ?_)
  refine lv_iload_n hx hb dJ6_bitCount_0f7a4_48 rfl (lv_at hl 0 rfl) ?_
  refine lv_bipush (v := 63) hx hb dJ6_bitCount_0f7a4_49 (by decide) ?_
  refine lv_iand hx hb dJ6_bitCount_0f7a4_51 ?_
  refine lv_topi (fun z_15 ez_15 => ?_)
  obtain rfl : z_15 = (0 : Int32) := ez_15.trans (by decide)
  exact W.iret (v := 0) hx hb hr (fun t ht hW => ⟨_, rfl, rfl, ht⟩) (fun q h => by cases h) dJ6_bitCount_0f7a4_52
set_option maxHeartbeats 4000000 in
set_option maxRecDepth 100000 in
theorem c_X11_givenTogether (l : Launch) (D : va_G) (cy : Nat → ClassId) (sz : Nat) (x : Nat) (b : Nat) (im : Nat) (la : Nat) (cu : Nat) (wa : Nat) (pa : Nat) (dr : Nat) (su : Nat) (mk : Nat) (vi : Nat) (re : Nat) (rd : Nat) (so : Nat) (fw : Nat) (wo : Nat) (gi : Nat)  : Met l yX11_givenTogether (tl_w yX11_givenTogether cX11_givenTogether 5 (some .long)) ({ frames := 0, cells := 0, slots := 0, locals := 0 }) (va_Pc [.ref x, .int 0] (tl_P D cy [(x, .inr (11, [.ref b, .ref im, .ref la, .ref cu, .ref wa, .ref pa, .ref dr, .ref su, .ref mk, .ref vi, .ref re, .ref rd, .ref so, .ref fw, .ref wo, .ref gi])), (gi, .inl (cy 0, 8, .inl (fun _ => 0)))] sz)) (vp_Sl (fun r : Int64 => r = 0)) 0 0 (fun _ => False) := by
  refine Met.ofW (cc := cX11_givenTogether) (maxL := 5) (ret := (some .long)) (by decide) rfl ?_
  intro p e s m args below meth c s₁ B hml hv
  obtain ⟨rfl, hsz, hP, hK, hD0, hN⟩ := hv
  have hx := B.exec
  have hb := B.bytes
  have hr := B.returns
  have hta := tl_hta (atoms_spec (ws := tl_w yX11_givenTogether cX11_givenTogether 5 (some .long)) B.pre)
  have hown : s.vm.findClass RX11 = some m.cls := findClass_of_methodNamed B.named
  have hlocks := B.notSynchronized
  subst hsz
  have hD := hD0
  have hP : va_P D vwCl [(x, .inr (11, [.ref b, .ref im, .ref la, .ref cu, .ref wa, .ref pa, .ref dr, .ref su, .ref mk, .ref vi, .ref re, .ref rd, .ref so, .ref fw, .ref wo, .ref gi])), (gi, .inl (cy 0, 8, .inl (fun _ => 0)))] s.heap := hP
  have hl := lv_entry ([.ref x, .int 0]) (n := 5) (Nat.le_of_ble_eq_true rfl)
  rw [lg_entry_eq]
  generalize (lg_sl ([.ref x, .int 0]) ++ List.replicate (5 - (lg_sl ([.ref x, .int 0])).length) Slot.unset).toArray = ls at hl ⊢
  have hl : lv_has ls 5 [(0, .ref x), (1, .int 0)] := hl
  refine lv_lconst (v := 0) hx hb dX11_givenTogether_0 (by decide) ?_
  refine lv_lstore_n (lv' := [(2, .long 0), (0, .ref x), (1, .int 0)]) hx hb dX11_givenTogether_1 rfl hl (by decide) rfl (fun ls hl => ?_)
  refine lv_iconst (v := 0) hx hb dX11_givenTogether_2 (by decide) ?_
  refine lv_istore (lv' := [(4, .int 0), (2, .long 0), (0, .ref x), (1, .int 0)]) hx hb dX11_givenTogether_3 hl (by decide) rfl (fun ls hl => ?_)
  refine lv_iload hx hb dX11_givenTogether_5 (lv_at hl 0 rfl) ?_
  refine lv_aload_n hx hb dX11_givenTogether_7 rfl (lv_at hl 2 rfl) ?_
  refine va_get (D := D) (ci := 11) (v := .ref gi) (C := RX11) (T := TX11) (N := 16) hx hb hta inlX11 hown hK hP 0 rfl rfl 15 (by decide) (hta _ wk_53) (fun _ h9 => h9) rfl dX11_givenTogether_8 ?_
  refine va_alen (D := D) (v := 8) hx hb hK hP 1 0 rfl rfl rfl dX11_givenTogether_11 ?_
  refine lv_icmp_ge (tgt := 39) hx hb dX11_givenTogether_12 (by decide) (fun c => absurd c (by decide)) (fun _ => ?_)
  refine lv_lload_n hx hb dX11_givenTogether_15 rfl (lv_at hl 1 rfl) ?_
  refine lv_iload_n hx hb dX11_givenTogether_16 rfl (lv_at hl 3 rfl) ?_
  refine lv_iload hx hb dX11_givenTogether_17 (lv_at hl 0 rfl) ?_
  refine lv_ishr hx hb dX11_givenTogether_19 ?_
  refine lv_topi (fun z_1 ez_1 => ?_)
  obtain rfl : z_1 = (0 : Int32) := ez_1.trans (by decide)
  refine lv_iconst (v := 1) hx hb dX11_givenTogether_20 (by decide) ?_
  refine lv_iand hx hb dX11_givenTogether_21 ?_
  refine lv_topi (fun z_2 ez_2 => ?_)
  obtain rfl : z_2 = (0 : Int32) := ez_2.trans (by decide)
  refine lv_aload_n hx hb dX11_givenTogether_22 rfl (lv_at hl 2 rfl) ?_
  refine va_get (D := D) (ci := 11) (v := .ref gi) (C := RX11) (T := TX11) (N := 16) hx hb hta inlX11 hown hK hP 0 rfl rfl 15 (by decide) (hta _ wk_53) (fun _ h9 => h9) rfl dX11_givenTogether_23 ?_
  refine lv_iload hx hb dX11_givenTogether_26 (lv_at hl 0 rfl) ?_
  refine va_iald (D := D) hx hb hK hP 1 0 rfl rfl (tl_in (by decide) (by decide)) dX11_givenTogether_28 ?_
  refine W.eq (g2 := F0 m 29 ls ([.int 0, .int 0, .long 0])) rfl ?_
  refine lv_imul hx hb dX11_givenTogether_29 ?_
  refine lv_topi (fun z_3 ez_3 => ?_)
  obtain rfl : z_3 = (0 : Int32) := ez_3.trans (by decide)
  refine lv_i2l (v := 0) hx hb dX11_givenTogether_30 (by first | rfl | decide) ?_
  refine lv_ladd hx hb dX11_givenTogether_31 ?_
  refine lv_topl (fun z_4 ez_4 => ?_)
  obtain rfl : z_4 = (0 : Int64) := ez_4.trans (by decide)
  refine lv_lstore_n (lv' := [(2, .long 0), (4, .int 0), (0, .ref x), (1, .int 0)]) hx hb dX11_givenTogether_32 rfl hl (by decide) rfl (fun ls hl => ?_)
  refine lv_iinc (v := 1) (lv' := [(4, .int 1), (2, .long 0), (0, .ref x), (1, .int 0)]) hx hb dX11_givenTogether_33 hl (k := 1) rfl (by decide) (by decide) rfl (fun ls hl => ?_)
  refine lv_goto (tgt := 5) hx hb dX11_givenTogether_36 (by decide) ?_
  refine lv_iload hx hb dX11_givenTogether_5 (lv_at hl 0 rfl) ?_
  refine lv_aload_n hx hb dX11_givenTogether_7 rfl (lv_at hl 2 rfl) ?_
  refine va_get (D := D) (ci := 11) (v := .ref gi) (C := RX11) (T := TX11) (N := 16) hx hb hta inlX11 hown hK hP 0 rfl rfl 15 (by decide) (hta _ wk_53) (fun _ h9 => h9) rfl dX11_givenTogether_8 ?_
  refine va_alen (D := D) (v := 8) hx hb hK hP 1 0 rfl rfl rfl dX11_givenTogether_11 ?_
  refine lv_icmp_ge (tgt := 39) hx hb dX11_givenTogether_12 (by decide) (fun c => absurd c (by decide)) (fun _ => ?_)
  refine lv_lload_n hx hb dX11_givenTogether_15 rfl (lv_at hl 1 rfl) ?_
  refine lv_iload_n hx hb dX11_givenTogether_16 rfl (lv_at hl 3 rfl) ?_
  refine lv_iload hx hb dX11_givenTogether_17 (lv_at hl 0 rfl) ?_
  refine lv_ishr hx hb dX11_givenTogether_19 ?_
  refine lv_topi (fun z_5 ez_5 => ?_)
  obtain rfl : z_5 = (0 : Int32) := ez_5.trans (by decide)
  refine lv_iconst (v := 1) hx hb dX11_givenTogether_20 (by decide) ?_
  refine lv_iand hx hb dX11_givenTogether_21 ?_
  refine lv_topi (fun z_6 ez_6 => ?_)
  obtain rfl : z_6 = (0 : Int32) := ez_6.trans (by decide)
  refine lv_aload_n hx hb dX11_givenTogether_22 rfl (lv_at hl 2 rfl) ?_
  refine va_get (D := D) (ci := 11) (v := .ref gi) (C := RX11) (T := TX11) (N := 16) hx hb hta inlX11 hown hK hP 0 rfl rfl 15 (by decide) (hta _ wk_53) (fun _ h9 => h9) rfl dX11_givenTogether_23 ?_
  refine lv_iload hx hb dX11_givenTogether_26 (lv_at hl 0 rfl) ?_
  refine va_iald (D := D) hx hb hK hP 1 0 rfl rfl (tl_in (by decide) (by decide)) dX11_givenTogether_28 ?_
  refine W.eq (g2 := F0 m 29 ls ([.int 0, .int 0, .long 0])) rfl ?_
  refine lv_imul hx hb dX11_givenTogether_29 ?_
  refine lv_topi (fun z_7 ez_7 => ?_)
  obtain rfl : z_7 = (0 : Int32) := ez_7.trans (by decide)
  refine lv_i2l (v := 0) hx hb dX11_givenTogether_30 (by first | rfl | decide) ?_
  refine lv_ladd hx hb dX11_givenTogether_31 ?_
  refine lv_topl (fun z_8 ez_8 => ?_)
  obtain rfl : z_8 = (0 : Int64) := ez_8.trans (by decide)
  refine lv_lstore_n (lv' := [(2, .long 0), (4, .int 1), (0, .ref x), (1, .int 0)]) hx hb dX11_givenTogether_32 rfl hl (by decide) rfl (fun ls hl => ?_)
  refine lv_iinc (v := 2) (lv' := [(4, .int 2), (2, .long 0), (0, .ref x), (1, .int 0)]) hx hb dX11_givenTogether_33 hl (k := 1) rfl (by decide) (by decide) rfl (fun ls hl => ?_)
  refine lv_goto (tgt := 5) hx hb dX11_givenTogether_36 (by decide) ?_
  refine lv_iload hx hb dX11_givenTogether_5 (lv_at hl 0 rfl) ?_
  refine lv_aload_n hx hb dX11_givenTogether_7 rfl (lv_at hl 2 rfl) ?_
  refine va_get (D := D) (ci := 11) (v := .ref gi) (C := RX11) (T := TX11) (N := 16) hx hb hta inlX11 hown hK hP 0 rfl rfl 15 (by decide) (hta _ wk_53) (fun _ h9 => h9) rfl dX11_givenTogether_8 ?_
  refine va_alen (D := D) (v := 8) hx hb hK hP 1 0 rfl rfl rfl dX11_givenTogether_11 ?_
  refine lv_icmp_ge (tgt := 39) hx hb dX11_givenTogether_12 (by decide) (fun c => absurd c (by decide)) (fun _ => ?_)
  refine lv_lload_n hx hb dX11_givenTogether_15 rfl (lv_at hl 1 rfl) ?_
  refine lv_iload_n hx hb dX11_givenTogether_16 rfl (lv_at hl 3 rfl) ?_
  refine lv_iload hx hb dX11_givenTogether_17 (lv_at hl 0 rfl) ?_
  refine lv_ishr hx hb dX11_givenTogether_19 ?_
  refine lv_topi (fun z_9 ez_9 => ?_)
  obtain rfl : z_9 = (0 : Int32) := ez_9.trans (by decide)
  refine lv_iconst (v := 1) hx hb dX11_givenTogether_20 (by decide) ?_
  refine lv_iand hx hb dX11_givenTogether_21 ?_
  refine lv_topi (fun z_10 ez_10 => ?_)
  obtain rfl : z_10 = (0 : Int32) := ez_10.trans (by decide)
  refine lv_aload_n hx hb dX11_givenTogether_22 rfl (lv_at hl 2 rfl) ?_
  refine va_get (D := D) (ci := 11) (v := .ref gi) (C := RX11) (T := TX11) (N := 16) hx hb hta inlX11 hown hK hP 0 rfl rfl 15 (by decide) (hta _ wk_53) (fun _ h9 => h9) rfl dX11_givenTogether_23 ?_
  refine lv_iload hx hb dX11_givenTogether_26 (lv_at hl 0 rfl) ?_
  refine va_iald (D := D) hx hb hK hP 1 0 rfl rfl (tl_in (by decide) (by decide)) dX11_givenTogether_28 ?_
  refine W.eq (g2 := F0 m 29 ls ([.int 0, .int 0, .long 0])) rfl ?_
  refine lv_imul hx hb dX11_givenTogether_29 ?_
  refine lv_topi (fun z_11 ez_11 => ?_)
  obtain rfl : z_11 = (0 : Int32) := ez_11.trans (by decide)
  refine lv_i2l (v := 0) hx hb dX11_givenTogether_30 (by first | rfl | decide) ?_
  refine lv_ladd hx hb dX11_givenTogether_31 ?_
  refine lv_topl (fun z_12 ez_12 => ?_)
  obtain rfl : z_12 = (0 : Int64) := ez_12.trans (by decide)
  refine lv_lstore_n (lv' := [(2, .long 0), (4, .int 2), (0, .ref x), (1, .int 0)]) hx hb dX11_givenTogether_32 rfl hl (by decide) rfl (fun ls hl => ?_)
  refine lv_iinc (v := 3) (lv' := [(4, .int 3), (2, .long 0), (0, .ref x), (1, .int 0)]) hx hb dX11_givenTogether_33 hl (k := 1) rfl (by decide) (by decide) rfl (fun ls hl => ?_)
  refine lv_goto (tgt := 5) hx hb dX11_givenTogether_36 (by decide) ?_
  refine lv_iload hx hb dX11_givenTogether_5 (lv_at hl 0 rfl) ?_
  refine lv_aload_n hx hb dX11_givenTogether_7 rfl (lv_at hl 2 rfl) ?_
  refine va_get (D := D) (ci := 11) (v := .ref gi) (C := RX11) (T := TX11) (N := 16) hx hb hta inlX11 hown hK hP 0 rfl rfl 15 (by decide) (hta _ wk_53) (fun _ h9 => h9) rfl dX11_givenTogether_8 ?_
  refine va_alen (D := D) (v := 8) hx hb hK hP 1 0 rfl rfl rfl dX11_givenTogether_11 ?_
  refine lv_icmp_ge (tgt := 39) hx hb dX11_givenTogether_12 (by decide) (fun c => absurd c (by decide)) (fun _ => ?_)
  refine lv_lload_n hx hb dX11_givenTogether_15 rfl (lv_at hl 1 rfl) ?_
  refine lv_iload_n hx hb dX11_givenTogether_16 rfl (lv_at hl 3 rfl) ?_
  refine lv_iload hx hb dX11_givenTogether_17 (lv_at hl 0 rfl) ?_
  refine lv_ishr hx hb dX11_givenTogether_19 ?_
  refine lv_topi (fun z_13 ez_13 => ?_)
  obtain rfl : z_13 = (0 : Int32) := ez_13.trans (by decide)
  refine lv_iconst (v := 1) hx hb dX11_givenTogether_20 (by decide) ?_
  refine lv_iand hx hb dX11_givenTogether_21 ?_
  refine lv_topi (fun z_14 ez_14 => ?_)
  obtain rfl : z_14 = (0 : Int32) := ez_14.trans (by decide)
  refine lv_aload_n hx hb dX11_givenTogether_22 rfl (lv_at hl 2 rfl) ?_
  refine va_get (D := D) (ci := 11) (v := .ref gi) (C := RX11) (T := TX11) (N := 16) hx hb hta inlX11 hown hK hP 0 rfl rfl 15 (by decide) (hta _ wk_53) (fun _ h9 => h9) rfl dX11_givenTogether_23 ?_
  refine lv_iload hx hb dX11_givenTogether_26 (lv_at hl 0 rfl) ?_
  refine va_iald (D := D) hx hb hK hP 1 0 rfl rfl (tl_in (by decide) (by decide)) dX11_givenTogether_28 ?_
  refine W.eq (g2 := F0 m 29 ls ([.int 0, .int 0, .long 0])) rfl ?_
  refine lv_imul hx hb dX11_givenTogether_29 ?_
  refine lv_topi (fun z_15 ez_15 => ?_)
  obtain rfl : z_15 = (0 : Int32) := ez_15.trans (by decide)
  refine lv_i2l (v := 0) hx hb dX11_givenTogether_30 (by first | rfl | decide) ?_
  refine lv_ladd hx hb dX11_givenTogether_31 ?_
  refine lv_topl (fun z_16 ez_16 => ?_)
  obtain rfl : z_16 = (0 : Int64) := ez_16.trans (by decide)
  refine lv_lstore_n (lv' := [(2, .long 0), (4, .int 3), (0, .ref x), (1, .int 0)]) hx hb dX11_givenTogether_32 rfl hl (by decide) rfl (fun ls hl => ?_)
  refine lv_iinc (v := 4) (lv' := [(4, .int 4), (2, .long 0), (0, .ref x), (1, .int 0)]) hx hb dX11_givenTogether_33 hl (k := 1) rfl (by decide) (by decide) rfl (fun ls hl => ?_)
  refine lv_goto (tgt := 5) hx hb dX11_givenTogether_36 (by decide) ?_
  refine lv_iload hx hb dX11_givenTogether_5 (lv_at hl 0 rfl) ?_
  refine lv_aload_n hx hb dX11_givenTogether_7 rfl (lv_at hl 2 rfl) ?_
  refine va_get (D := D) (ci := 11) (v := .ref gi) (C := RX11) (T := TX11) (N := 16) hx hb hta inlX11 hown hK hP 0 rfl rfl 15 (by decide) (hta _ wk_53) (fun _ h9 => h9) rfl dX11_givenTogether_8 ?_
  refine va_alen (D := D) (v := 8) hx hb hK hP 1 0 rfl rfl rfl dX11_givenTogether_11 ?_
  refine lv_icmp_ge (tgt := 39) hx hb dX11_givenTogether_12 (by decide) (fun c => absurd c (by decide)) (fun _ => ?_)
  refine lv_lload_n hx hb dX11_givenTogether_15 rfl (lv_at hl 1 rfl) ?_
  refine lv_iload_n hx hb dX11_givenTogether_16 rfl (lv_at hl 3 rfl) ?_
  refine lv_iload hx hb dX11_givenTogether_17 (lv_at hl 0 rfl) ?_
  refine lv_ishr hx hb dX11_givenTogether_19 ?_
  refine lv_topi (fun z_17 ez_17 => ?_)
  obtain rfl : z_17 = (0 : Int32) := ez_17.trans (by decide)
  refine lv_iconst (v := 1) hx hb dX11_givenTogether_20 (by decide) ?_
  refine lv_iand hx hb dX11_givenTogether_21 ?_
  refine lv_topi (fun z_18 ez_18 => ?_)
  obtain rfl : z_18 = (0 : Int32) := ez_18.trans (by decide)
  refine lv_aload_n hx hb dX11_givenTogether_22 rfl (lv_at hl 2 rfl) ?_
  refine va_get (D := D) (ci := 11) (v := .ref gi) (C := RX11) (T := TX11) (N := 16) hx hb hta inlX11 hown hK hP 0 rfl rfl 15 (by decide) (hta _ wk_53) (fun _ h9 => h9) rfl dX11_givenTogether_23 ?_
  refine lv_iload hx hb dX11_givenTogether_26 (lv_at hl 0 rfl) ?_
  refine va_iald (D := D) hx hb hK hP 1 0 rfl rfl (tl_in (by decide) (by decide)) dX11_givenTogether_28 ?_
  refine W.eq (g2 := F0 m 29 ls ([.int 0, .int 0, .long 0])) rfl ?_
  refine lv_imul hx hb dX11_givenTogether_29 ?_
  refine lv_topi (fun z_19 ez_19 => ?_)
  obtain rfl : z_19 = (0 : Int32) := ez_19.trans (by decide)
  refine lv_i2l (v := 0) hx hb dX11_givenTogether_30 (by first | rfl | decide) ?_
  refine lv_ladd hx hb dX11_givenTogether_31 ?_
  refine lv_topl (fun z_20 ez_20 => ?_)
  obtain rfl : z_20 = (0 : Int64) := ez_20.trans (by decide)
  refine lv_lstore_n (lv' := [(2, .long 0), (4, .int 4), (0, .ref x), (1, .int 0)]) hx hb dX11_givenTogether_32 rfl hl (by decide) rfl (fun ls hl => ?_)
  refine lv_iinc (v := 5) (lv' := [(4, .int 5), (2, .long 0), (0, .ref x), (1, .int 0)]) hx hb dX11_givenTogether_33 hl (k := 1) rfl (by decide) (by decide) rfl (fun ls hl => ?_)
  refine lv_goto (tgt := 5) hx hb dX11_givenTogether_36 (by decide) ?_
  refine lv_iload hx hb dX11_givenTogether_5 (lv_at hl 0 rfl) ?_
  refine lv_aload_n hx hb dX11_givenTogether_7 rfl (lv_at hl 2 rfl) ?_
  refine va_get (D := D) (ci := 11) (v := .ref gi) (C := RX11) (T := TX11) (N := 16) hx hb hta inlX11 hown hK hP 0 rfl rfl 15 (by decide) (hta _ wk_53) (fun _ h9 => h9) rfl dX11_givenTogether_8 ?_
  refine va_alen (D := D) (v := 8) hx hb hK hP 1 0 rfl rfl rfl dX11_givenTogether_11 ?_
  refine lv_icmp_ge (tgt := 39) hx hb dX11_givenTogether_12 (by decide) (fun c => absurd c (by decide)) (fun _ => ?_)
  refine lv_lload_n hx hb dX11_givenTogether_15 rfl (lv_at hl 1 rfl) ?_
  refine lv_iload_n hx hb dX11_givenTogether_16 rfl (lv_at hl 3 rfl) ?_
  refine lv_iload hx hb dX11_givenTogether_17 (lv_at hl 0 rfl) ?_
  refine lv_ishr hx hb dX11_givenTogether_19 ?_
  refine lv_topi (fun z_21 ez_21 => ?_)
  obtain rfl : z_21 = (0 : Int32) := ez_21.trans (by decide)
  refine lv_iconst (v := 1) hx hb dX11_givenTogether_20 (by decide) ?_
  refine lv_iand hx hb dX11_givenTogether_21 ?_
  refine lv_topi (fun z_22 ez_22 => ?_)
  obtain rfl : z_22 = (0 : Int32) := ez_22.trans (by decide)
  refine lv_aload_n hx hb dX11_givenTogether_22 rfl (lv_at hl 2 rfl) ?_
  refine va_get (D := D) (ci := 11) (v := .ref gi) (C := RX11) (T := TX11) (N := 16) hx hb hta inlX11 hown hK hP 0 rfl rfl 15 (by decide) (hta _ wk_53) (fun _ h9 => h9) rfl dX11_givenTogether_23 ?_
  refine lv_iload hx hb dX11_givenTogether_26 (lv_at hl 0 rfl) ?_
  refine va_iald (D := D) hx hb hK hP 1 0 rfl rfl (tl_in (by decide) (by decide)) dX11_givenTogether_28 ?_
  refine W.eq (g2 := F0 m 29 ls ([.int 0, .int 0, .long 0])) rfl ?_
  refine lv_imul hx hb dX11_givenTogether_29 ?_
  refine lv_topi (fun z_23 ez_23 => ?_)
  obtain rfl : z_23 = (0 : Int32) := ez_23.trans (by decide)
  refine lv_i2l (v := 0) hx hb dX11_givenTogether_30 (by first | rfl | decide) ?_
  refine lv_ladd hx hb dX11_givenTogether_31 ?_
  refine lv_topl (fun z_24 ez_24 => ?_)
  obtain rfl : z_24 = (0 : Int64) := ez_24.trans (by decide)
  refine lv_lstore_n (lv' := [(2, .long 0), (4, .int 5), (0, .ref x), (1, .int 0)]) hx hb dX11_givenTogether_32 rfl hl (by decide) rfl (fun ls hl => ?_)
  refine lv_iinc (v := 6) (lv' := [(4, .int 6), (2, .long 0), (0, .ref x), (1, .int 0)]) hx hb dX11_givenTogether_33 hl (k := 1) rfl (by decide) (by decide) rfl (fun ls hl => ?_)
  refine lv_goto (tgt := 5) hx hb dX11_givenTogether_36 (by decide) ?_
  refine lv_iload hx hb dX11_givenTogether_5 (lv_at hl 0 rfl) ?_
  refine lv_aload_n hx hb dX11_givenTogether_7 rfl (lv_at hl 2 rfl) ?_
  refine va_get (D := D) (ci := 11) (v := .ref gi) (C := RX11) (T := TX11) (N := 16) hx hb hta inlX11 hown hK hP 0 rfl rfl 15 (by decide) (hta _ wk_53) (fun _ h9 => h9) rfl dX11_givenTogether_8 ?_
  refine va_alen (D := D) (v := 8) hx hb hK hP 1 0 rfl rfl rfl dX11_givenTogether_11 ?_
  refine lv_icmp_ge (tgt := 39) hx hb dX11_givenTogether_12 (by decide) (fun c => absurd c (by decide)) (fun _ => ?_)
  refine lv_lload_n hx hb dX11_givenTogether_15 rfl (lv_at hl 1 rfl) ?_
  refine lv_iload_n hx hb dX11_givenTogether_16 rfl (lv_at hl 3 rfl) ?_
  refine lv_iload hx hb dX11_givenTogether_17 (lv_at hl 0 rfl) ?_
  refine lv_ishr hx hb dX11_givenTogether_19 ?_
  refine lv_topi (fun z_25 ez_25 => ?_)
  obtain rfl : z_25 = (0 : Int32) := ez_25.trans (by decide)
  refine lv_iconst (v := 1) hx hb dX11_givenTogether_20 (by decide) ?_
  refine lv_iand hx hb dX11_givenTogether_21 ?_
  refine lv_topi (fun z_26 ez_26 => ?_)
  obtain rfl : z_26 = (0 : Int32) := ez_26.trans (by decide)
  refine lv_aload_n hx hb dX11_givenTogether_22 rfl (lv_at hl 2 rfl) ?_
  refine va_get (D := D) (ci := 11) (v := .ref gi) (C := RX11) (T := TX11) (N := 16) hx hb hta inlX11 hown hK hP 0 rfl rfl 15 (by decide) (hta _ wk_53) (fun _ h9 => h9) rfl dX11_givenTogether_23 ?_
  refine lv_iload hx hb dX11_givenTogether_26 (lv_at hl 0 rfl) ?_
  refine va_iald (D := D) hx hb hK hP 1 0 rfl rfl (tl_in (by decide) (by decide)) dX11_givenTogether_28 ?_
  refine W.eq (g2 := F0 m 29 ls ([.int 0, .int 0, .long 0])) rfl ?_
  refine lv_imul hx hb dX11_givenTogether_29 ?_
  refine lv_topi (fun z_27 ez_27 => ?_)
  obtain rfl : z_27 = (0 : Int32) := ez_27.trans (by decide)
  refine lv_i2l (v := 0) hx hb dX11_givenTogether_30 (by first | rfl | decide) ?_
  refine lv_ladd hx hb dX11_givenTogether_31 ?_
  refine lv_topl (fun z_28 ez_28 => ?_)
  obtain rfl : z_28 = (0 : Int64) := ez_28.trans (by decide)
  refine lv_lstore_n (lv' := [(2, .long 0), (4, .int 6), (0, .ref x), (1, .int 0)]) hx hb dX11_givenTogether_32 rfl hl (by decide) rfl (fun ls hl => ?_)
  refine lv_iinc (v := 7) (lv' := [(4, .int 7), (2, .long 0), (0, .ref x), (1, .int 0)]) hx hb dX11_givenTogether_33 hl (k := 1) rfl (by decide) (by decide) rfl (fun ls hl => ?_)
  refine lv_goto (tgt := 5) hx hb dX11_givenTogether_36 (by decide) ?_
  refine lv_iload hx hb dX11_givenTogether_5 (lv_at hl 0 rfl) ?_
  refine lv_aload_n hx hb dX11_givenTogether_7 rfl (lv_at hl 2 rfl) ?_
  refine va_get (D := D) (ci := 11) (v := .ref gi) (C := RX11) (T := TX11) (N := 16) hx hb hta inlX11 hown hK hP 0 rfl rfl 15 (by decide) (hta _ wk_53) (fun _ h9 => h9) rfl dX11_givenTogether_8 ?_
  refine va_alen (D := D) (v := 8) hx hb hK hP 1 0 rfl rfl rfl dX11_givenTogether_11 ?_
  refine lv_icmp_ge (tgt := 39) hx hb dX11_givenTogether_12 (by decide) (fun c => absurd c (by decide)) (fun _ => ?_)
  refine lv_lload_n hx hb dX11_givenTogether_15 rfl (lv_at hl 1 rfl) ?_
  refine lv_iload_n hx hb dX11_givenTogether_16 rfl (lv_at hl 3 rfl) ?_
  refine lv_iload hx hb dX11_givenTogether_17 (lv_at hl 0 rfl) ?_
  refine lv_ishr hx hb dX11_givenTogether_19 ?_
  refine lv_topi (fun z_29 ez_29 => ?_)
  obtain rfl : z_29 = (0 : Int32) := ez_29.trans (by decide)
  refine lv_iconst (v := 1) hx hb dX11_givenTogether_20 (by decide) ?_
  refine lv_iand hx hb dX11_givenTogether_21 ?_
  refine lv_topi (fun z_30 ez_30 => ?_)
  obtain rfl : z_30 = (0 : Int32) := ez_30.trans (by decide)
  refine lv_aload_n hx hb dX11_givenTogether_22 rfl (lv_at hl 2 rfl) ?_
  refine va_get (D := D) (ci := 11) (v := .ref gi) (C := RX11) (T := TX11) (N := 16) hx hb hta inlX11 hown hK hP 0 rfl rfl 15 (by decide) (hta _ wk_53) (fun _ h9 => h9) rfl dX11_givenTogether_23 ?_
  refine lv_iload hx hb dX11_givenTogether_26 (lv_at hl 0 rfl) ?_
  refine va_iald (D := D) hx hb hK hP 1 0 rfl rfl (tl_in (by decide) (by decide)) dX11_givenTogether_28 ?_
  refine W.eq (g2 := F0 m 29 ls ([.int 0, .int 0, .long 0])) rfl ?_
  refine lv_imul hx hb dX11_givenTogether_29 ?_
  refine lv_topi (fun z_31 ez_31 => ?_)
  obtain rfl : z_31 = (0 : Int32) := ez_31.trans (by decide)
  refine lv_i2l (v := 0) hx hb dX11_givenTogether_30 (by first | rfl | decide) ?_
  refine lv_ladd hx hb dX11_givenTogether_31 ?_
  refine lv_topl (fun z_32 ez_32 => ?_)
  obtain rfl : z_32 = (0 : Int64) := ez_32.trans (by decide)
  refine lv_lstore_n (lv' := [(2, .long 0), (4, .int 7), (0, .ref x), (1, .int 0)]) hx hb dX11_givenTogether_32 rfl hl (by decide) rfl (fun ls hl => ?_)
  refine lv_iinc (v := 8) (lv' := [(4, .int 8), (2, .long 0), (0, .ref x), (1, .int 0)]) hx hb dX11_givenTogether_33 hl (k := 1) rfl (by decide) (by decide) rfl (fun ls hl => ?_)
  refine lv_goto (tgt := 5) hx hb dX11_givenTogether_36 (by decide) ?_
  refine lv_iload hx hb dX11_givenTogether_5 (lv_at hl 0 rfl) ?_
  refine lv_aload_n hx hb dX11_givenTogether_7 rfl (lv_at hl 2 rfl) ?_
  refine va_get (D := D) (ci := 11) (v := .ref gi) (C := RX11) (T := TX11) (N := 16) hx hb hta inlX11 hown hK hP 0 rfl rfl 15 (by decide) (hta _ wk_53) (fun _ h9 => h9) rfl dX11_givenTogether_8 ?_
  refine va_alen (D := D) (v := 8) hx hb hK hP 1 0 rfl rfl rfl dX11_givenTogether_11 ?_
  refine lv_icmp_ge (tgt := 39) hx hb dX11_givenTogether_12 (by decide) (fun _ => ?_) (fun c => absurd c (by decide))
  refine lv_lload_n hx hb dX11_givenTogether_39 rfl (lv_at hl 1 rfl) ?_
  exact W.lret (v := 0) hx hb hr (fun t ht hW => ⟨_, rfl, rfl, ht⟩) (fun q h => by cases h) dX11_givenTogether_40
set_option maxHeartbeats 4000000 in
set_option maxRecDepth 100000 in
theorem c_X11_fewest (l : Launch) (D : va_G) (cy : Nat → ClassId) (sz : Nat) (x : Nat) (p0 : Int32) (p1 : Int32) (b : Nat) (im : Nat) (la : Nat) (cu : Nat) (wa : Nat) (pa : Nat) (dr : Nat) (su : Nat) (mk : Nat) (vi : Nat) (re : Nat) (rd : Nat) (so : Nat) (fw : Nat) (wo : Nat) (gi : Nat) (wk : Nat)  : Met l yX11_fewest (tl_w yX11_fewest cX11_fewest 12 (some .int)) ({ frames := 2, cells := 0, slots := 0, locals := 42 }) (va_Pc [.ref x, .int p0, .int p1] (tl_P D cy [(x, .inr (11, [.ref b, .ref im, .ref la, .ref cu, .ref wa, .ref pa, .ref dr, .ref su, .ref mk, .ref vi, .ref re, .ref rd, .ref so, .ref fw, .ref wo, .ref gi])), (wa, .inr (8, [.ref wk, .int 0])), (gi, .inl (cy 0, 8, .inl (fun _ => 0)))] sz)) (vp_Si (fun r : Int32 => tl_E r ((0 ≤ p0.toInt ∧ p0.toInt ≤ 999999999) ∧ 0 ≤ p1.toInt ∧ p1.toInt ≤ 1) (tl_few p0) (-1))) 0 0 (fun _ => False) := by
  refine Met.ofW (cc := cX11_fewest) (maxL := 12) (ret := (some .int)) (by decide) rfl ?_
  intro p e s m args below meth c s₁ B hml hv
  obtain ⟨rfl, hsz, hP, hK, hD0, hN⟩ := hv
  have hx := B.exec
  have hb := B.bytes
  have hr := B.returns
  have hta := tl_hta (atoms_spec (ws := tl_w yX11_fewest cX11_fewest 12 (some .int)) B.pre)
  have hown : s.vm.findClass RX11 = some m.cls := findClass_of_methodNamed B.named
  have hlocks := B.notSynchronized
  subst hsz
  have hD := hD0
  have hP : va_P D vwCl [(x, .inr (11, [.ref b, .ref im, .ref la, .ref cu, .ref wa, .ref pa, .ref dr, .ref su, .ref mk, .ref vi, .ref re, .ref rd, .ref so, .ref fw, .ref wo, .ref gi])), (wa, .inr (8, [.ref wk, .int 0])), (gi, .inl (cy 0, 8, .inl (fun _ => 0)))] s.heap := hP
  have hl := lv_entry ([.ref x, .int p0, .int p1]) (n := 12) (Nat.le_of_ble_eq_true rfl)
  rw [lg_entry_eq]
  generalize (lg_sl ([.ref x, .int p0, .int p1]) ++ List.replicate (12 - (lg_sl ([.ref x, .int p0, .int p1])).length) Slot.unset).toArray = ls at hl ⊢
  have hl : lv_has ls 12 [(0, .ref x), (1, .int p0), (2, .int p1)] := hl
  refine lv_iload_n hx hb dX11_fewest_0 rfl (lv_at hl 1 rfl) ?_
  have hPc := hP.sub (ws' := []) [] rfl
  have hDc := hD.sub (ws' := []) [] (by decide) rfl
  refine tl_si (tl_rS (As := [.int p0]) (rest := []) ⟨hx, hb, hml, hown, hta⟩ hK hN hPc hDc lk_X11_474 (c_X11_isNeed l D cy s.heap.size p0 ) rfl rfl ⟨Nat.le_of_ble_eq_true rfl, Nat.le_of_ble_eq_true rfl⟩ rfl hl.1 rfl (Nat.le_of_ble_eq_true rfl) dX11_fewest_1 ⟨Nat.le_of_ble_eq_true rfl, Nat.le_of_ble_eq_true rfl⟩) (fun r_2 hw_1 => ?_)
  have hw_1 : tl_E r_2 (0 ≤ p0.toInt ∧ p0.toInt ≤ 999999999) 1 0 := hw_1
  refine lv_if_eq (tgt := 16) hx hb dX11_fewest_4 (by decide) (fun c_3 => ?_) (fun c_3 => ?_)
  · have c_3 := hw_1.f c_3
    refine lv_iconst (v := (-1)) hx hb dX11_fewest_16 (by decide) ?_
    exact W.iret (v := (-1)) hx hb hr (fun t ht hW => ⟨_, rfl, (Or.inr ⟨by omega, rfl⟩), ht⟩) (fun q h => by cases h) dX11_fewest_17
  · have c_3 := hw_1.t c_3
    refine lv_iload_n hx hb dX11_fewest_7 rfl (lv_at hl 2 rfl) ?_
    refine lv_iconst (v := 0) hx hb dX11_fewest_8 (by decide) ?_
    refine lv_iconst (v := 1) hx hb dX11_fewest_9 (by decide) ?_
    have hPc := hP.sub (ws' := []) [] rfl
    have hDc := hD.sub (ws' := []) [] (by decide) rfl
    refine tl_si (tl_rS (As := [.int p1, .int 0, .int 1]) (rest := []) ⟨hx, hb, hml, hown, hta⟩ hK hN hPc hDc lk_X11_105 (c_X11_isIn l D cy s.heap.size p1 0 1 ) rfl rfl ⟨Nat.le_of_ble_eq_true rfl, Nat.le_of_ble_eq_true rfl⟩ rfl hl.1 rfl (Nat.le_of_ble_eq_true rfl) dX11_fewest_10 ⟨Nat.le_of_ble_eq_true rfl, Nat.le_of_ble_eq_true rfl⟩) (fun r_5 hw_4 => ?_)
    have hw_4 : tl_E r_5 ((0 : Int) ≤ p1.toInt ∧ p1.toInt ≤ (1 : Int)) 1 0 := hw_4
    refine lv_if_ne (tgt := 18) hx hb dX11_fewest_13 (by decide) (fun c_6 => ?_) (fun c_6 => ?_)
    · have c_6 := hw_4.t c_6
      refine lv_aload_n hx hb dX11_fewest_18 rfl (lv_at hl 0 rfl) ?_
      have hPc := hP.sub (ws' := [(x, .inr (11, [.ref b, .ref im, .ref la, .ref cu, .ref wa, .ref pa, .ref dr, .ref su, .ref mk, .ref vi, .ref re, .ref rd, .ref so, .ref fw, .ref wo, .ref gi])), (wa, .inr (8, [.ref wk, .int 0]))]) [0, 1] rfl
      have hDc := hD.sub (ws' := [(x, .inr (11, [.ref b, .ref im, .ref la, .ref cu, .ref wa, .ref pa, .ref dr, .ref su, .ref mk, .ref vi, .ref re, .ref rd, .ref so, .ref fw, .ref wo, .ref gi])), (wa, .inr (8, [.ref wk, .int 0]))]) [0, 1] (by decide) rfl
      refine tl_sl (tl_rV (As := []) (rest := []) ⟨hx, hb, hml, hown, hta⟩ hK hN hPc hDc (ci := 11) rfl 0 rfl lk_X11_477 (c_X11_findGiven l D cy s.heap.size x b im la cu wa pa dr su mk vi re rd so fw wo gi wk ) rfl rfl ⟨Nat.le_of_ble_eq_true rfl, Nat.le_of_ble_eq_true rfl⟩ rfl hl.1 rfl (Nat.le_of_ble_eq_true rfl) dX11_fewest_19 ⟨Nat.le_of_ble_eq_true rfl, Nat.le_of_ble_eq_true rfl⟩) (fun r_8 hw_7 => ?_)
      subst hw_7
      refine lv_iload_n hx hb dX11_fewest_22 rfl (lv_at hl 1 rfl) ?_
      refine lv_i2l (v := p0.toInt64) hx hb dX11_fewest_23 (by first | rfl | decide) ?_
      refine W.lcmp hx hb dX11_fewest_24 ?_
      refine lv_if_ge (tgt := 31) hx hb dX11_fewest_25 (by decide) (fun c_9 => ?_) (fun c_9 => ?_)
      · have c_9 : (0 : Int) ≥ p0.toInt := by have h9 := tl_cmp_ge c_9; simp only [Int32.toInt_toInt64] at h9; exact h9
        refine lv_iconst (v := (-1)) hx hb dX11_fewest_31 (by decide) ?_
        refine lv_istore_n (lv' := [(3, .int (-1)), (0, .ref x), (1, .int p0), (2, .int p1)]) hx hb dX11_fewest_32 rfl hl (by decide) rfl (fun ls hl => ?_)
        refine lv_iconst (v := 0) hx hb dX11_fewest_33 (by decide) ?_
        refine lv_istore (lv' := [(4, .int 0), (3, .int (-1)), (0, .ref x), (1, .int p0), (2, .int p1)]) hx hb dX11_fewest_34 hl (by decide) rfl (fun ls hl => ?_)
        refine lv_lconst (v := 0) hx hb dX11_fewest_36 (by decide) ?_
        refine lv_lstore (lv' := [(5, .long 0), (4, .int 0), (3, .int (-1)), (0, .ref x), (1, .int p0), (2, .int p1)]) hx hb dX11_fewest_37 hl (by decide) rfl (fun ls hl => ?_)
        refine lv_iconst (v := 0) hx hb dX11_fewest_39 (by decide) ?_
        refine lv_istore (lv' := [(7, .int 0), (5, .long 0), (4, .int 0), (3, .int (-1)), (0, .ref x), (1, .int p0), (2, .int p1)]) hx hb dX11_fewest_40 hl (by decide) rfl (fun ls hl => ?_)
        refine lv_iload hx hb dX11_fewest_42 (lv_at hl 0 rfl) ?_
        refine lv_iconst (v := 1) hx hb dX11_fewest_44 (by decide) ?_
        refine lv_aload_n hx hb dX11_fewest_45 rfl (lv_at hl 4 rfl) ?_
        refine va_get (D := D) (ci := 11) (v := .ref wa) (C := RX11) (T := TX11) (N := 16) hx hb hta inlX11 hown hK hP 0 rfl rfl 4 (by decide) (hta _ wk_22) (fun _ h9 => h9) rfl dX11_fewest_46 ?_
        refine va_getN (D := D) (ci := 8) (v := .int 0) (C := RX8) (T := TX8) (N := 2) hx hb hta inlX8 hown hK hP 1 rfl rfl 1 (by decide) (va_Nw.use rfl (hN.1 28 _ nk_28)) (fun _ h9 => h9) rfl dX11_fewest_49 ?_
        refine lv_ishl hx hb dX11_fewest_52 ?_
        refine lv_topi (fun z_10 ez_10 => ?_)
        obtain rfl : z_10 = (1 : Int32) := ez_10.trans (by decide)
        refine lv_icmp_ge (tgt := 135) hx hb dX11_fewest_53 (by decide) (fun c => absurd c (by decide)) (fun _ => ?_)
        refine lv_iload hx hb dX11_fewest_56 (lv_at hl 0 rfl) ?_
        have hPc := hP.sub (ws' := []) [] rfl
        have hDc := hD.sub (ws' := []) [] (by decide) rfl
        refine tl_si (tl_rS (As := [.int 0]) (rest := []) ⟨hx, hb, hml, hown, hta⟩ hK hN hPc hDc lk_X11_480 (c_bitCount_0 l D cy s.heap.size  ) rfl rfl ⟨Nat.le_of_ble_eq_true rfl, Nat.le_of_ble_eq_true rfl⟩ rfl hl.1 rfl (Nat.le_of_ble_eq_true rfl) dX11_fewest_58 ⟨Nat.le_of_ble_eq_true rfl, Nat.le_of_ble_eq_true rfl⟩) (fun r_12 hw_11 => ?_)
        subst hw_11
        refine lv_istore (lv' := [(8, .int 0), (7, .int 0), (5, .long 0), (4, .int 0), (3, .int (-1)), (0, .ref x), (1, .int p0), (2, .int p1)]) hx hb dX11_fewest_61 hl (by decide) rfl (fun ls hl => ?_)
        refine lv_aload_n hx hb dX11_fewest_63 rfl (lv_at hl 5 rfl) ?_
        refine lv_iload hx hb dX11_fewest_64 (lv_at hl 1 rfl) ?_
        have hPc := hP.sub (ws' := [(x, .inr (11, [.ref b, .ref im, .ref la, .ref cu, .ref wa, .ref pa, .ref dr, .ref su, .ref mk, .ref vi, .ref re, .ref rd, .ref so, .ref fw, .ref wo, .ref gi])), (gi, .inl (cy 0, 8, .inl (fun _ => 0)))]) [0, 2] rfl
        have hDc := hD.sub (ws' := [(x, .inr (11, [.ref b, .ref im, .ref la, .ref cu, .ref wa, .ref pa, .ref dr, .ref su, .ref mk, .ref vi, .ref re, .ref rd, .ref so, .ref fw, .ref wo, .ref gi])), (gi, .inl (cy 0, 8, .inl (fun _ => 0)))]) [0, 2] (by decide) rfl
        refine tl_sl (tl_rV (As := [.int 0]) (rest := []) ⟨hx, hb, hml, hown, hta⟩ hK hN hPc hDc (ci := 11) rfl 0 rfl lk_X11_485 (c_X11_givenTogether l D cy s.heap.size x b im la cu wa pa dr su mk vi re rd so fw wo gi ) rfl rfl ⟨Nat.le_of_ble_eq_true rfl, Nat.le_of_ble_eq_true rfl⟩ rfl hl.1 rfl (Nat.le_of_ble_eq_true rfl) dX11_fewest_66 ⟨Nat.le_of_ble_eq_true rfl, Nat.le_of_ble_eq_true rfl⟩) (fun r_14 hw_13 => ?_)
        subst hw_13
        refine lv_lstore (lv' := [(9, .long 0), (8, .int 0), (7, .int 0), (5, .long 0), (4, .int 0), (3, .int (-1)), (0, .ref x), (1, .int p0), (2, .int p1)]) hx hb dX11_fewest_69 hl (by decide) rfl (fun ls hl => ?_)
        refine lv_iload_n hx hb dX11_fewest_71 rfl (lv_at hl 5 rfl) ?_
        refine lv_iconst (v := (-1)) hx hb dX11_fewest_72 (by decide) ?_
        refine lv_icmp_eq (tgt := 98) hx hb dX11_fewest_73 (by decide) (fun _ => ?_) (fun c => absurd c (by decide))
        refine lv_iconst (v := 1) hx hb dX11_fewest_98 (by decide) ?_
        refine lv_goto (tgt := 103) hx hb dX11_fewest_99 (by decide) ?_
        refine lv_istore (lv' := [(11, .int 1), (9, .long 0), (8, .int 0), (7, .int 0), (5, .long 0), (4, .int 0), (3, .int (-1)), (0, .ref x), (1, .int p0), (2, .int p1)]) hx hb dX11_fewest_103 hl (by decide) rfl (fun ls hl => ?_)
        refine lv_lload hx hb dX11_fewest_105 (lv_at hl 1 rfl) ?_
        refine lv_iload_n hx hb dX11_fewest_107 rfl (lv_at hl 8 rfl) ?_
        refine lv_i2l (v := p0.toInt64) hx hb dX11_fewest_108 (by first | rfl | decide) ?_
        refine W.lcmp hx hb dX11_fewest_109 ?_
        refine lv_if_lt (tgt := 129) hx hb dX11_fewest_110 (by decide) (fun c_15 => ?_) (fun c_15 => ?_)
        · have c_15 : (0 : Int) < p0.toInt := by have h9 := tl_cmp_lt c_15; simp only [Int32.toInt_toInt64] at h9; exact h9
          exfalso; omega
        · have c_15 : (0 : Int) ≥ p0.toInt := by have h9 := tl_cmp_nlt c_15; simp only [Int32.toInt_toInt64] at h9; exact h9
          refine lv_iload hx hb dX11_fewest_113 (lv_at hl 0 rfl) ?_
          refine lv_if_eq (tgt := 129) hx hb dX11_fewest_115 (by decide) (fun c => absurd c (by decide)) (fun _ => ?_)
          refine lv_iload hx hb dX11_fewest_118 (lv_at hl 3 rfl) ?_
          refine lv_istore_n (lv' := [(3, .int 0), (11, .int 1), (9, .long 0), (8, .int 0), (7, .int 0), (5, .long 0), (4, .int 0), (0, .ref x), (1, .int p0), (2, .int p1)]) hx hb dX11_fewest_120 rfl hl (by decide) rfl (fun ls hl => ?_)
          refine lv_iload hx hb dX11_fewest_121 (lv_at hl 3 rfl) ?_
          refine lv_istore (lv' := [(4, .int 0), (3, .int 0), (11, .int 1), (9, .long 0), (8, .int 0), (7, .int 0), (5, .long 0), (0, .ref x), (1, .int p0), (2, .int p1)]) hx hb dX11_fewest_123 hl (by decide) rfl (fun ls hl => ?_)
          refine lv_lload hx hb dX11_fewest_125 (lv_at hl 3 rfl) ?_
          refine lv_lstore (lv' := [(5, .long 0), (4, .int 0), (3, .int 0), (11, .int 1), (9, .long 0), (8, .int 0), (7, .int 0), (0, .ref x), (1, .int p0), (2, .int p1)]) hx hb dX11_fewest_127 hl (by decide) rfl (fun ls hl => ?_)
          refine lv_iinc (v := 1) (lv' := [(7, .int 1), (5, .long 0), (4, .int 0), (3, .int 0), (11, .int 1), (9, .long 0), (8, .int 0), (0, .ref x), (1, .int p0), (2, .int p1)]) hx hb dX11_fewest_129 hl (k := 6) rfl (by decide) (by decide) rfl (fun ls hl => ?_)
          refine lv_goto (tgt := 42) hx hb dX11_fewest_132 (by decide) ?_
          refine lv_iload hx hb dX11_fewest_42 (lv_at hl 0 rfl) ?_
          refine lv_iconst (v := 1) hx hb dX11_fewest_44 (by decide) ?_
          refine lv_aload_n hx hb dX11_fewest_45 rfl (lv_at hl 7 rfl) ?_
          refine va_get (D := D) (ci := 11) (v := .ref wa) (C := RX11) (T := TX11) (N := 16) hx hb hta inlX11 hown hK hP 0 rfl rfl 4 (by decide) (hta _ wk_22) (fun _ h9 => h9) rfl dX11_fewest_46 ?_
          refine va_getN (D := D) (ci := 8) (v := .int 0) (C := RX8) (T := TX8) (N := 2) hx hb hta inlX8 hown hK hP 1 rfl rfl 1 (by decide) (va_Nw.use rfl (hN.1 28 _ nk_28)) (fun _ h9 => h9) rfl dX11_fewest_49 ?_
          refine lv_ishl hx hb dX11_fewest_52 ?_
          refine lv_topi (fun z_16 ez_16 => ?_)
          obtain rfl : z_16 = (1 : Int32) := ez_16.trans (by decide)
          refine lv_icmp_ge (tgt := 135) hx hb dX11_fewest_53 (by decide) (fun _ => ?_) (fun c => absurd c (by decide))
          refine lv_iload_n hx hb dX11_fewest_135 rfl (lv_at hl 9 rfl) ?_
          refine lv_if_ne (tgt := 144) hx hb dX11_fewest_136 (by decide) (fun c_17 => ?_) (fun c_17 => ?_)
          · have c_17 : ¬ p1.toInt = (0 : Int) := tl_neq c_17
            refine lv_iload_n hx hb dX11_fewest_144 rfl (lv_at hl 3 rfl) ?_
            exact W.iret (v := 0) hx hb hr (fun t ht hW => ⟨_, rfl, (Or.inl ⟨by omega, (tl_few_0 (by omega)).symm⟩), ht⟩) (fun q h => by cases h) dX11_fewest_145
          · have c_17 : p1.toInt = (0 : Int) := tl_eq c_17
            refine lv_iload hx hb dX11_fewest_139 (lv_at hl 2 rfl) ?_
            refine lv_goto (tgt := 145) hx hb dX11_fewest_141 (by decide) ?_
            exact W.iret (v := 0) hx hb hr (fun t ht hW => ⟨_, rfl, (Or.inl ⟨by omega, (tl_few_0 (by omega)).symm⟩), ht⟩) (fun q h => by cases h) dX11_fewest_145
      · have c_9 : (0 : Int) < p0.toInt := by have h9 := tl_cmp_nge c_9; simp only [Int32.toInt_toInt64] at h9; exact h9
        refine lv_bipush (v := (-2)) hx hb dX11_fewest_28 (by decide) ?_
        exact W.iret (v := (-2)) hx hb hr (fun t ht hW => ⟨_, rfl, (Or.inl ⟨by omega, (tl_few_p (by omega)).symm⟩), ht⟩) (fun q h => by cases h) dX11_fewest_30
    · have c_6 := hw_4.f c_6
      refine lv_iconst (v := (-1)) hx hb dX11_fewest_16 (by decide) ?_
      exact W.iret (v := (-1)) hx hb hr (fun t ht hW => ⟨_, rfl, (Or.inr ⟨by omega, rfl⟩), ht⟩) (fun q h => by cases h) dX11_fewest_17

set_option maxHeartbeats 4000000 in
set_option maxRecDepth 100000 in
theorem c_X6_has1 (l : Launch) (D : va_G) (cy : Nat → ClassId) (sz : Nat) (o : Nat) (mo : Int32) (ce : Nat)  : Met l yX6_has (tl_w yX6_has cX6_has 2 (some .boolean)) ({ frames := 0, cells := 0, slots := 0, locals := 0 }) (va_Pc [.ref o, .int 0] (tl_P D cy [(o, .inr (6, [.int mo, .ref ce, .int 1]))] sz)) (vp_Si (fun r : Int32 => r = 1)) 0 0 (fun _ => False) := by
  refine Met.ofW (cc := cX6_has) (maxL := 2) (ret := (some .boolean)) (by decide) rfl ?_
  intro p e s m args below meth c s₁ B hml hv
  obtain ⟨rfl, hsz, hP, hK, hD0, hN⟩ := hv
  have hx := B.exec
  have hb := B.bytes
  have hr := B.returns
  have hta := tl_hta (atoms_spec (ws := tl_w yX6_has cX6_has 2 (some .boolean)) B.pre)
  have hown : s.vm.findClass RX6 = some m.cls := findClass_of_methodNamed B.named
  have hlocks := B.notSynchronized
  subst hsz
  have hD := hD0
  have hP : va_P D vwCl [(o, .inr (6, [.int mo, .ref ce, .int 1]))] s.heap := hP
  have hl := lv_entry ([.ref o, .int 0]) (n := 2) (Nat.le_of_ble_eq_true rfl)
  rw [lg_entry_eq]
  generalize (lg_sl ([.ref o, .int 0]) ++ List.replicate (2 - (lg_sl ([.ref o, .int 0])).length) Slot.unset).toArray = ls at hl ⊢
  have hl : lv_has ls 2 [(0, .ref o), (1, .int 0)] := hl
  refine lv_iload_n hx hb dX6_has_0 rfl (lv_at hl 1 rfl) ?_
  refine lv_if_lt (tgt := 16) hx hb dX6_has_1 (by decide) (fun c => absurd c (by decide)) (fun _ => ?_)
  refine lv_iload_n hx hb dX6_has_4 rfl (lv_at hl 1 rfl) ?_
  refine lv_aload_n hx hb dX6_has_5 rfl (lv_at hl 0 rfl) ?_
  refine va_get (D := D) (ci := 6) (v := .int 1) (C := RX6) (T := TX6) (N := 3) hx hb hta inlX6 hown hK hP 0 rfl rfl 2 (by decide) (hta _ wk_266) (fun _ h9 => h9) rfl dX6_has_6 ?_
  refine lv_icmp_ge (tgt := 16) hx hb dX6_has_9 (by decide) (fun c => absurd c (by decide)) (fun _ => ?_)
  refine lv_iconst (v := 1) hx hb dX6_has_12 (by decide) ?_
  refine lv_goto (tgt := 17) hx hb dX6_has_13 (by decide) ?_
  exact W.zret (ty := .boolean) (v := 1) hx hb hr rfl (fun t ht hW => ⟨_, rfl, rfl, ht⟩) (fun q h => by cases h) dX6_has_17
set_option maxHeartbeats 4000000 in
set_option maxRecDepth 100000 in
theorem c_X6_set_40_0 (l : Launch) (D : va_G) (cy : Nat → ClassId) (sz : Nat) (o : Nat) (p0 : Int32) (ce : Nat) (f : Nat → Int32)  : Met l yX6_set (tl_w yX6_set cX6_set 4 none) ({ frames := 1, cells := 0, slots := 0, locals := 21 }) (va_Pc [.ref o, .int 0, .int 0, .int p0] (tl_P D cy [(o, .inr (6, [.int 40, .ref ce, .int 1])), (ce, .inl (cy 0, 160, .inl f))] sz)) (va_Qv (fun (u : Nat → Int32) => True) (tl_B D (va_A [(o, .inr (6, [.int 40, .ref ce, .int 1])), (ce, .inl (cy 0, 160, .inl f))] sz) (fun u : Nat → Int32 => [(o, .inr (6, [.int 40, .ref ce, .int 1])), (ce, .inl (cy 0, 160, .inl u))])) (va_A [(o, .inr (6, [.int 40, .ref ce, .int 1])), (ce, .inl (cy 0, 160, .inl f))] sz)) 0 0 (va_A [(o, .inr (6, [.int 40, .ref ce, .int 1])), (ce, .inl (cy 0, 160, .inl f))] sz) := by
  refine Met.ofW (cc := cX6_set) (maxL := 4) (ret := none) (by decide) rfl ?_
  intro p e s m args below meth c s₁ B hml hv
  obtain ⟨rfl, hsz, hP, hK, hD0, hN⟩ := hv
  have hx := B.exec
  have hb := B.bytes
  have hr := B.returns
  have hta := tl_hta (atoms_spec (ws := tl_w yX6_set cX6_set 4 none) B.pre)
  have hown : s.vm.findClass RX6 = some m.cls := findClass_of_methodNamed B.named
  have hlocks := B.notSynchronized
  subst hsz
  have hD := hD0.self (sz := s.heap.size)
  generalize hAe : va_A [(o, .inr (6, [.int 40, .ref ce, .int 1])), (ce, .inl (cy 0, 160, .inl f))] s.heap.size = A at hD ⊢
  have hA : ∀ q : Nat, s.heap.size ≤ q → A q := fun q h => by rw [← hAe]; exact Or.inr h
  have hS : va_S A s.heap s.heap [] := va_S.rf
  have hP : va_P D vwCl [(o, .inr (6, [.int 40, .ref ce, .int 1])), (ce, .inl (cy 0, 160, .inl f))] s.heap := hP
  have hl := lv_entry ([.ref o, .int 0, .int 0, .int p0]) (n := 4) (Nat.le_of_ble_eq_true rfl)
  rw [lg_entry_eq]
  generalize (lg_sl ([.ref o, .int 0, .int 0, .int p0]) ++ List.replicate (4 - (lg_sl ([.ref o, .int 0, .int 0, .int p0])).length) Slot.unset).toArray = ls at hl ⊢
  have hl : lv_has ls 4 [(0, .ref o), (1, .int 0), (2, .int 0), (3, .int p0)] := hl
  refine lv_aload_n hx hb dX6_set_0 rfl (lv_at hl 0 rfl) ?_
  refine lv_iload_n hx hb dX6_set_1 rfl (lv_at hl 1 rfl) ?_
  have hPc := hP.sub (ws' := [(o, .inr (6, [.int 40, .ref ce, .int 1]))]) [0] rfl
  have hDc := hD.sub (ws' := [(o, .inr (6, [.int 40, .ref ce, .int 1]))]) [0] (by decide) rfl
  refine tl_si (tl_rV (As := [.int 0]) (rest := []) ⟨hx, hb, hml, hown, hta⟩ hK hN hPc hDc (ci := 6) rfl 0 rfl lk_X6_32 (c_X6_has1 l D cy s.heap.size o 40 ce ) rfl rfl ⟨Nat.le_of_ble_eq_true rfl, Nat.le_of_ble_eq_true rfl⟩ rfl hl.1 rfl (Nat.le_of_ble_eq_true rfl) dX6_set_2 ⟨Nat.le_of_ble_eq_true rfl, Nat.le_of_ble_eq_true rfl⟩) (fun r_2 hw_1 => ?_)
  subst hw_1
  refine lv_if_eq (tgt := 28) hx hb dX6_set_5 (by decide) (fun c => absurd c (by decide)) (fun _ => ?_)
  refine lv_iload_n hx hb dX6_set_8 rfl (lv_at hl 2 rfl) ?_
  refine lv_if_lt (tgt := 28) hx hb dX6_set_9 (by decide) (fun c => absurd c (by decide)) (fun _ => ?_)
  refine lv_iload_n hx hb dX6_set_12 rfl (lv_at hl 2 rfl) ?_
  refine lv_iconst (v := 4) hx hb dX6_set_13 (by decide) ?_
  refine lv_icmp_ge (tgt := 28) hx hb dX6_set_14 (by decide) (fun c => absurd c (by decide)) (fun _ => ?_)
  refine lv_aload_n hx hb dX6_set_17 rfl (lv_at hl 0 rfl) ?_
  refine va_get (D := D) (ci := 6) (v := .ref ce) (C := RX6) (T := TX6) (N := 3) hx hb hta inlX6 hown hK hP 0 rfl rfl 1 (by decide) (hta _ wk_86) (fun _ h9 => h9) rfl dX6_set_18 ?_
  refine lv_iload_n hx hb dX6_set_21 rfl (lv_at hl 1 rfl) ?_
  refine lv_iconst (v := 4) hx hb dX6_set_22 (by decide) ?_
  refine lv_imul hx hb dX6_set_23 ?_
  refine lv_topi (fun z_3 ez_3 => ?_)
  obtain rfl : z_3 = (0 : Int32) := ez_3.trans (by decide)
  refine lv_iload_n hx hb dX6_set_24 rfl (lv_at hl 2 rfl) ?_
  refine lv_iadd hx hb dX6_set_25 ?_
  refine lv_topi (fun z_4 ez_4 => ?_)
  obtain rfl : z_4 = (0 : Int32) := ez_4.trans (by decide)
  refine lv_iload_n hx hb dX6_set_26 rfl (lv_at hl 3 rfl) ?_
  refine va_iast (D := D) hx hb hK hP hD hS 1 0 rfl rfl (tl_in (by decide) (by decide)) dX6_set_27 (fun H locs hP hD hS => ?_)
  have hP : va_P D vwCl [(o, .inr (6, [.int 40, .ref ce, .int 1])), (ce, .inl (cy 0, 160, .inl (upd f (0 : Int32).toNatClampNeg p0)))] H := hP
  have hD : va_D A [(o, .inr (6, [.int 40, .ref ce, .int 1])), (ce, .inl (cy 0, 160, .inl (upd f (0 : Int32).toNatClampNeg p0)))] := hD
  generalize (upd f (0 : Int32).toNatClampNeg p0) = f_5 at hP hD
  have hP9 := hP.sub (ws' := [(o, .inr (6, [.int 40, .ref ce, .int 1])), (ce, .inl (cy 0, 160, .inl f_5))]) [0, 1] rfl
  have hD9 := hD.sub (ws' := [(o, .inr (6, [.int 40, .ref ce, .int 1])), (ce, .inl (cy 0, 160, .inl f_5))]) [0, 1] (by decide) rfl
  exact W.vret hx hb hr (fun t ht hW => ⟨⟨f_5, rfl, trivial, by rw [ht]; exact hP9, hD9⟩, hS.F ht⟩) hS.2.2 dX6_set_28
set_option maxHeartbeats 4000000 in
set_option maxRecDepth 100000 in
theorem c_X6_set_40_1 (l : Launch) (D : va_G) (cy : Nat → ClassId) (sz : Nat) (o : Nat) (p0 : Int32) (ce : Nat) (f : Nat → Int32)  : Met l yX6_set (tl_w yX6_set cX6_set 4 none) ({ frames := 1, cells := 0, slots := 0, locals := 21 }) (va_Pc [.ref o, .int 0, .int 1, .int p0] (tl_P D cy [(o, .inr (6, [.int 40, .ref ce, .int 1])), (ce, .inl (cy 0, 160, .inl f))] sz)) (va_Qv (fun (u : Nat → Int32) => True) (tl_B D (va_A [(o, .inr (6, [.int 40, .ref ce, .int 1])), (ce, .inl (cy 0, 160, .inl f))] sz) (fun u : Nat → Int32 => [(o, .inr (6, [.int 40, .ref ce, .int 1])), (ce, .inl (cy 0, 160, .inl u))])) (va_A [(o, .inr (6, [.int 40, .ref ce, .int 1])), (ce, .inl (cy 0, 160, .inl f))] sz)) 0 0 (va_A [(o, .inr (6, [.int 40, .ref ce, .int 1])), (ce, .inl (cy 0, 160, .inl f))] sz) := by
  refine Met.ofW (cc := cX6_set) (maxL := 4) (ret := none) (by decide) rfl ?_
  intro p e s m args below meth c s₁ B hml hv
  obtain ⟨rfl, hsz, hP, hK, hD0, hN⟩ := hv
  have hx := B.exec
  have hb := B.bytes
  have hr := B.returns
  have hta := tl_hta (atoms_spec (ws := tl_w yX6_set cX6_set 4 none) B.pre)
  have hown : s.vm.findClass RX6 = some m.cls := findClass_of_methodNamed B.named
  have hlocks := B.notSynchronized
  subst hsz
  have hD := hD0.self (sz := s.heap.size)
  generalize hAe : va_A [(o, .inr (6, [.int 40, .ref ce, .int 1])), (ce, .inl (cy 0, 160, .inl f))] s.heap.size = A at hD ⊢
  have hA : ∀ q : Nat, s.heap.size ≤ q → A q := fun q h => by rw [← hAe]; exact Or.inr h
  have hS : va_S A s.heap s.heap [] := va_S.rf
  have hP : va_P D vwCl [(o, .inr (6, [.int 40, .ref ce, .int 1])), (ce, .inl (cy 0, 160, .inl f))] s.heap := hP
  have hl := lv_entry ([.ref o, .int 0, .int 1, .int p0]) (n := 4) (Nat.le_of_ble_eq_true rfl)
  rw [lg_entry_eq]
  generalize (lg_sl ([.ref o, .int 0, .int 1, .int p0]) ++ List.replicate (4 - (lg_sl ([.ref o, .int 0, .int 1, .int p0])).length) Slot.unset).toArray = ls at hl ⊢
  have hl : lv_has ls 4 [(0, .ref o), (1, .int 0), (2, .int 1), (3, .int p0)] := hl
  refine lv_aload_n hx hb dX6_set_0 rfl (lv_at hl 0 rfl) ?_
  refine lv_iload_n hx hb dX6_set_1 rfl (lv_at hl 1 rfl) ?_
  have hPc := hP.sub (ws' := [(o, .inr (6, [.int 40, .ref ce, .int 1]))]) [0] rfl
  have hDc := hD.sub (ws' := [(o, .inr (6, [.int 40, .ref ce, .int 1]))]) [0] (by decide) rfl
  refine tl_si (tl_rV (As := [.int 0]) (rest := []) ⟨hx, hb, hml, hown, hta⟩ hK hN hPc hDc (ci := 6) rfl 0 rfl lk_X6_32 (c_X6_has1 l D cy s.heap.size o 40 ce ) rfl rfl ⟨Nat.le_of_ble_eq_true rfl, Nat.le_of_ble_eq_true rfl⟩ rfl hl.1 rfl (Nat.le_of_ble_eq_true rfl) dX6_set_2 ⟨Nat.le_of_ble_eq_true rfl, Nat.le_of_ble_eq_true rfl⟩) (fun r_2 hw_1 => ?_)
  subst hw_1
  refine lv_if_eq (tgt := 28) hx hb dX6_set_5 (by decide) (fun c => absurd c (by decide)) (fun _ => ?_)
  refine lv_iload_n hx hb dX6_set_8 rfl (lv_at hl 2 rfl) ?_
  refine lv_if_lt (tgt := 28) hx hb dX6_set_9 (by decide) (fun c => absurd c (by decide)) (fun _ => ?_)
  refine lv_iload_n hx hb dX6_set_12 rfl (lv_at hl 2 rfl) ?_
  refine lv_iconst (v := 4) hx hb dX6_set_13 (by decide) ?_
  refine lv_icmp_ge (tgt := 28) hx hb dX6_set_14 (by decide) (fun c => absurd c (by decide)) (fun _ => ?_)
  refine lv_aload_n hx hb dX6_set_17 rfl (lv_at hl 0 rfl) ?_
  refine va_get (D := D) (ci := 6) (v := .ref ce) (C := RX6) (T := TX6) (N := 3) hx hb hta inlX6 hown hK hP 0 rfl rfl 1 (by decide) (hta _ wk_86) (fun _ h9 => h9) rfl dX6_set_18 ?_
  refine lv_iload_n hx hb dX6_set_21 rfl (lv_at hl 1 rfl) ?_
  refine lv_iconst (v := 4) hx hb dX6_set_22 (by decide) ?_
  refine lv_imul hx hb dX6_set_23 ?_
  refine lv_topi (fun z_3 ez_3 => ?_)
  obtain rfl : z_3 = (0 : Int32) := ez_3.trans (by decide)
  refine lv_iload_n hx hb dX6_set_24 rfl (lv_at hl 2 rfl) ?_
  refine lv_iadd hx hb dX6_set_25 ?_
  refine lv_topi (fun z_4 ez_4 => ?_)
  obtain rfl : z_4 = (1 : Int32) := ez_4.trans (by decide)
  refine lv_iload_n hx hb dX6_set_26 rfl (lv_at hl 3 rfl) ?_
  refine va_iast (D := D) hx hb hK hP hD hS 1 0 rfl rfl (tl_in (by decide) (by decide)) dX6_set_27 (fun H locs hP hD hS => ?_)
  have hP : va_P D vwCl [(o, .inr (6, [.int 40, .ref ce, .int 1])), (ce, .inl (cy 0, 160, .inl (upd f (1 : Int32).toNatClampNeg p0)))] H := hP
  have hD : va_D A [(o, .inr (6, [.int 40, .ref ce, .int 1])), (ce, .inl (cy 0, 160, .inl (upd f (1 : Int32).toNatClampNeg p0)))] := hD
  generalize (upd f (1 : Int32).toNatClampNeg p0) = f_5 at hP hD
  have hP9 := hP.sub (ws' := [(o, .inr (6, [.int 40, .ref ce, .int 1])), (ce, .inl (cy 0, 160, .inl f_5))]) [0, 1] rfl
  have hD9 := hD.sub (ws' := [(o, .inr (6, [.int 40, .ref ce, .int 1])), (ce, .inl (cy 0, 160, .inl f_5))]) [0, 1] (by decide) rfl
  exact W.vret hx hb hr (fun t ht hW => ⟨⟨f_5, rfl, trivial, by rw [ht]; exact hP9, hD9⟩, hS.F ht⟩) hS.2.2 dX6_set_28
set_option maxHeartbeats 4000000 in
set_option maxRecDepth 100000 in
theorem c_X6_set_40_2 (l : Launch) (D : va_G) (cy : Nat → ClassId) (sz : Nat) (o : Nat) (p0 : Int32) (ce : Nat) (f : Nat → Int32)  : Met l yX6_set (tl_w yX6_set cX6_set 4 none) ({ frames := 1, cells := 0, slots := 0, locals := 21 }) (va_Pc [.ref o, .int 0, .int 2, .int p0] (tl_P D cy [(o, .inr (6, [.int 40, .ref ce, .int 1])), (ce, .inl (cy 0, 160, .inl f))] sz)) (va_Qv (fun (u : Nat → Int32) => True) (tl_B D (va_A [(o, .inr (6, [.int 40, .ref ce, .int 1])), (ce, .inl (cy 0, 160, .inl f))] sz) (fun u : Nat → Int32 => [(o, .inr (6, [.int 40, .ref ce, .int 1])), (ce, .inl (cy 0, 160, .inl u))])) (va_A [(o, .inr (6, [.int 40, .ref ce, .int 1])), (ce, .inl (cy 0, 160, .inl f))] sz)) 0 0 (va_A [(o, .inr (6, [.int 40, .ref ce, .int 1])), (ce, .inl (cy 0, 160, .inl f))] sz) := by
  refine Met.ofW (cc := cX6_set) (maxL := 4) (ret := none) (by decide) rfl ?_
  intro p e s m args below meth c s₁ B hml hv
  obtain ⟨rfl, hsz, hP, hK, hD0, hN⟩ := hv
  have hx := B.exec
  have hb := B.bytes
  have hr := B.returns
  have hta := tl_hta (atoms_spec (ws := tl_w yX6_set cX6_set 4 none) B.pre)
  have hown : s.vm.findClass RX6 = some m.cls := findClass_of_methodNamed B.named
  have hlocks := B.notSynchronized
  subst hsz
  have hD := hD0.self (sz := s.heap.size)
  generalize hAe : va_A [(o, .inr (6, [.int 40, .ref ce, .int 1])), (ce, .inl (cy 0, 160, .inl f))] s.heap.size = A at hD ⊢
  have hA : ∀ q : Nat, s.heap.size ≤ q → A q := fun q h => by rw [← hAe]; exact Or.inr h
  have hS : va_S A s.heap s.heap [] := va_S.rf
  have hP : va_P D vwCl [(o, .inr (6, [.int 40, .ref ce, .int 1])), (ce, .inl (cy 0, 160, .inl f))] s.heap := hP
  have hl := lv_entry ([.ref o, .int 0, .int 2, .int p0]) (n := 4) (Nat.le_of_ble_eq_true rfl)
  rw [lg_entry_eq]
  generalize (lg_sl ([.ref o, .int 0, .int 2, .int p0]) ++ List.replicate (4 - (lg_sl ([.ref o, .int 0, .int 2, .int p0])).length) Slot.unset).toArray = ls at hl ⊢
  have hl : lv_has ls 4 [(0, .ref o), (1, .int 0), (2, .int 2), (3, .int p0)] := hl
  refine lv_aload_n hx hb dX6_set_0 rfl (lv_at hl 0 rfl) ?_
  refine lv_iload_n hx hb dX6_set_1 rfl (lv_at hl 1 rfl) ?_
  have hPc := hP.sub (ws' := [(o, .inr (6, [.int 40, .ref ce, .int 1]))]) [0] rfl
  have hDc := hD.sub (ws' := [(o, .inr (6, [.int 40, .ref ce, .int 1]))]) [0] (by decide) rfl
  refine tl_si (tl_rV (As := [.int 0]) (rest := []) ⟨hx, hb, hml, hown, hta⟩ hK hN hPc hDc (ci := 6) rfl 0 rfl lk_X6_32 (c_X6_has1 l D cy s.heap.size o 40 ce ) rfl rfl ⟨Nat.le_of_ble_eq_true rfl, Nat.le_of_ble_eq_true rfl⟩ rfl hl.1 rfl (Nat.le_of_ble_eq_true rfl) dX6_set_2 ⟨Nat.le_of_ble_eq_true rfl, Nat.le_of_ble_eq_true rfl⟩) (fun r_2 hw_1 => ?_)
  subst hw_1
  refine lv_if_eq (tgt := 28) hx hb dX6_set_5 (by decide) (fun c => absurd c (by decide)) (fun _ => ?_)
  refine lv_iload_n hx hb dX6_set_8 rfl (lv_at hl 2 rfl) ?_
  refine lv_if_lt (tgt := 28) hx hb dX6_set_9 (by decide) (fun c => absurd c (by decide)) (fun _ => ?_)
  refine lv_iload_n hx hb dX6_set_12 rfl (lv_at hl 2 rfl) ?_
  refine lv_iconst (v := 4) hx hb dX6_set_13 (by decide) ?_
  refine lv_icmp_ge (tgt := 28) hx hb dX6_set_14 (by decide) (fun c => absurd c (by decide)) (fun _ => ?_)
  refine lv_aload_n hx hb dX6_set_17 rfl (lv_at hl 0 rfl) ?_
  refine va_get (D := D) (ci := 6) (v := .ref ce) (C := RX6) (T := TX6) (N := 3) hx hb hta inlX6 hown hK hP 0 rfl rfl 1 (by decide) (hta _ wk_86) (fun _ h9 => h9) rfl dX6_set_18 ?_
  refine lv_iload_n hx hb dX6_set_21 rfl (lv_at hl 1 rfl) ?_
  refine lv_iconst (v := 4) hx hb dX6_set_22 (by decide) ?_
  refine lv_imul hx hb dX6_set_23 ?_
  refine lv_topi (fun z_3 ez_3 => ?_)
  obtain rfl : z_3 = (0 : Int32) := ez_3.trans (by decide)
  refine lv_iload_n hx hb dX6_set_24 rfl (lv_at hl 2 rfl) ?_
  refine lv_iadd hx hb dX6_set_25 ?_
  refine lv_topi (fun z_4 ez_4 => ?_)
  obtain rfl : z_4 = (2 : Int32) := ez_4.trans (by decide)
  refine lv_iload_n hx hb dX6_set_26 rfl (lv_at hl 3 rfl) ?_
  refine va_iast (D := D) hx hb hK hP hD hS 1 0 rfl rfl (tl_in (by decide) (by decide)) dX6_set_27 (fun H locs hP hD hS => ?_)
  have hP : va_P D vwCl [(o, .inr (6, [.int 40, .ref ce, .int 1])), (ce, .inl (cy 0, 160, .inl (upd f (2 : Int32).toNatClampNeg p0)))] H := hP
  have hD : va_D A [(o, .inr (6, [.int 40, .ref ce, .int 1])), (ce, .inl (cy 0, 160, .inl (upd f (2 : Int32).toNatClampNeg p0)))] := hD
  generalize (upd f (2 : Int32).toNatClampNeg p0) = f_5 at hP hD
  have hP9 := hP.sub (ws' := [(o, .inr (6, [.int 40, .ref ce, .int 1])), (ce, .inl (cy 0, 160, .inl f_5))]) [0, 1] rfl
  have hD9 := hD.sub (ws' := [(o, .inr (6, [.int 40, .ref ce, .int 1])), (ce, .inl (cy 0, 160, .inl f_5))]) [0, 1] (by decide) rfl
  exact W.vret hx hb hr (fun t ht hW => ⟨⟨f_5, rfl, trivial, by rw [ht]; exact hP9, hD9⟩, hS.F ht⟩) hS.2.2 dX6_set_28
set_option maxHeartbeats 4000000 in
set_option maxRecDepth 100000 in
theorem c_X6_set_40_3 (l : Launch) (D : va_G) (cy : Nat → ClassId) (sz : Nat) (o : Nat) (p0 : Int32) (ce : Nat) (f : Nat → Int32)  : Met l yX6_set (tl_w yX6_set cX6_set 4 none) ({ frames := 1, cells := 0, slots := 0, locals := 21 }) (va_Pc [.ref o, .int 0, .int 3, .int p0] (tl_P D cy [(o, .inr (6, [.int 40, .ref ce, .int 1])), (ce, .inl (cy 0, 160, .inl f))] sz)) (va_Qv (fun (u : Nat → Int32) => True) (tl_B D (va_A [(o, .inr (6, [.int 40, .ref ce, .int 1])), (ce, .inl (cy 0, 160, .inl f))] sz) (fun u : Nat → Int32 => [(o, .inr (6, [.int 40, .ref ce, .int 1])), (ce, .inl (cy 0, 160, .inl u))])) (va_A [(o, .inr (6, [.int 40, .ref ce, .int 1])), (ce, .inl (cy 0, 160, .inl f))] sz)) 0 0 (va_A [(o, .inr (6, [.int 40, .ref ce, .int 1])), (ce, .inl (cy 0, 160, .inl f))] sz) := by
  refine Met.ofW (cc := cX6_set) (maxL := 4) (ret := none) (by decide) rfl ?_
  intro p e s m args below meth c s₁ B hml hv
  obtain ⟨rfl, hsz, hP, hK, hD0, hN⟩ := hv
  have hx := B.exec
  have hb := B.bytes
  have hr := B.returns
  have hta := tl_hta (atoms_spec (ws := tl_w yX6_set cX6_set 4 none) B.pre)
  have hown : s.vm.findClass RX6 = some m.cls := findClass_of_methodNamed B.named
  have hlocks := B.notSynchronized
  subst hsz
  have hD := hD0.self (sz := s.heap.size)
  generalize hAe : va_A [(o, .inr (6, [.int 40, .ref ce, .int 1])), (ce, .inl (cy 0, 160, .inl f))] s.heap.size = A at hD ⊢
  have hA : ∀ q : Nat, s.heap.size ≤ q → A q := fun q h => by rw [← hAe]; exact Or.inr h
  have hS : va_S A s.heap s.heap [] := va_S.rf
  have hP : va_P D vwCl [(o, .inr (6, [.int 40, .ref ce, .int 1])), (ce, .inl (cy 0, 160, .inl f))] s.heap := hP
  have hl := lv_entry ([.ref o, .int 0, .int 3, .int p0]) (n := 4) (Nat.le_of_ble_eq_true rfl)
  rw [lg_entry_eq]
  generalize (lg_sl ([.ref o, .int 0, .int 3, .int p0]) ++ List.replicate (4 - (lg_sl ([.ref o, .int 0, .int 3, .int p0])).length) Slot.unset).toArray = ls at hl ⊢
  have hl : lv_has ls 4 [(0, .ref o), (1, .int 0), (2, .int 3), (3, .int p0)] := hl
  refine lv_aload_n hx hb dX6_set_0 rfl (lv_at hl 0 rfl) ?_
  refine lv_iload_n hx hb dX6_set_1 rfl (lv_at hl 1 rfl) ?_
  have hPc := hP.sub (ws' := [(o, .inr (6, [.int 40, .ref ce, .int 1]))]) [0] rfl
  have hDc := hD.sub (ws' := [(o, .inr (6, [.int 40, .ref ce, .int 1]))]) [0] (by decide) rfl
  refine tl_si (tl_rV (As := [.int 0]) (rest := []) ⟨hx, hb, hml, hown, hta⟩ hK hN hPc hDc (ci := 6) rfl 0 rfl lk_X6_32 (c_X6_has1 l D cy s.heap.size o 40 ce ) rfl rfl ⟨Nat.le_of_ble_eq_true rfl, Nat.le_of_ble_eq_true rfl⟩ rfl hl.1 rfl (Nat.le_of_ble_eq_true rfl) dX6_set_2 ⟨Nat.le_of_ble_eq_true rfl, Nat.le_of_ble_eq_true rfl⟩) (fun r_2 hw_1 => ?_)
  subst hw_1
  refine lv_if_eq (tgt := 28) hx hb dX6_set_5 (by decide) (fun c => absurd c (by decide)) (fun _ => ?_)
  refine lv_iload_n hx hb dX6_set_8 rfl (lv_at hl 2 rfl) ?_
  refine lv_if_lt (tgt := 28) hx hb dX6_set_9 (by decide) (fun c => absurd c (by decide)) (fun _ => ?_)
  refine lv_iload_n hx hb dX6_set_12 rfl (lv_at hl 2 rfl) ?_
  refine lv_iconst (v := 4) hx hb dX6_set_13 (by decide) ?_
  refine lv_icmp_ge (tgt := 28) hx hb dX6_set_14 (by decide) (fun c => absurd c (by decide)) (fun _ => ?_)
  refine lv_aload_n hx hb dX6_set_17 rfl (lv_at hl 0 rfl) ?_
  refine va_get (D := D) (ci := 6) (v := .ref ce) (C := RX6) (T := TX6) (N := 3) hx hb hta inlX6 hown hK hP 0 rfl rfl 1 (by decide) (hta _ wk_86) (fun _ h9 => h9) rfl dX6_set_18 ?_
  refine lv_iload_n hx hb dX6_set_21 rfl (lv_at hl 1 rfl) ?_
  refine lv_iconst (v := 4) hx hb dX6_set_22 (by decide) ?_
  refine lv_imul hx hb dX6_set_23 ?_
  refine lv_topi (fun z_3 ez_3 => ?_)
  obtain rfl : z_3 = (0 : Int32) := ez_3.trans (by decide)
  refine lv_iload_n hx hb dX6_set_24 rfl (lv_at hl 2 rfl) ?_
  refine lv_iadd hx hb dX6_set_25 ?_
  refine lv_topi (fun z_4 ez_4 => ?_)
  obtain rfl : z_4 = (3 : Int32) := ez_4.trans (by decide)
  refine lv_iload_n hx hb dX6_set_26 rfl (lv_at hl 3 rfl) ?_
  refine va_iast (D := D) hx hb hK hP hD hS 1 0 rfl rfl (tl_in (by decide) (by decide)) dX6_set_27 (fun H locs hP hD hS => ?_)
  have hP : va_P D vwCl [(o, .inr (6, [.int 40, .ref ce, .int 1])), (ce, .inl (cy 0, 160, .inl (upd f (3 : Int32).toNatClampNeg p0)))] H := hP
  have hD : va_D A [(o, .inr (6, [.int 40, .ref ce, .int 1])), (ce, .inl (cy 0, 160, .inl (upd f (3 : Int32).toNatClampNeg p0)))] := hD
  generalize (upd f (3 : Int32).toNatClampNeg p0) = f_5 at hP hD
  have hP9 := hP.sub (ws' := [(o, .inr (6, [.int 40, .ref ce, .int 1])), (ce, .inl (cy 0, 160, .inl f_5))]) [0, 1] rfl
  have hD9 := hD.sub (ws' := [(o, .inr (6, [.int 40, .ref ce, .int 1])), (ce, .inl (cy 0, 160, .inl f_5))]) [0, 1] (by decide) rfl
  exact W.vret hx hb hr (fun t ht hW => ⟨⟨f_5, rfl, trivial, by rw [ht]; exact hP9, hD9⟩, hS.F ht⟩) hS.2.2 dX6_set_28
set_option maxHeartbeats 4000000 in
set_option maxRecDepth 100000 in
theorem c_X6_add_40 (l : Launch) (D : va_G) (cy : Nat → ClassId) (sz : Nat) (o : Nat) (p0 : Int32) (p1 : Int32) (p2 : Int32) (p3 : Int32) (ce : Nat) (f : Nat → Int32)  : Met l yX6_add (tl_w yX6_add cX6_add 6 (some .int)) ({ frames := 2, cells := 0, slots := 0, locals := 44 }) (va_Pc [.ref o, .int p0, .int p1, .int p2, .int p3] (tl_P D cy [(o, .inr (6, [.int 40, .ref ce, .int 0])), (ce, .inl (cy 0, 160, .inl f))] sz)) (va_Qi (fun (r : Int32) (u : Unit) => r = 0) (tl_B D (va_A [(o, .inr (6, [.int 40, .ref ce, .int 0])), (ce, .inl (cy 0, 160, .inl f))] sz) (fun u : Unit => [(o, .inr (6, [.int 40, .ref ce, .int 1]))])) (va_A [(o, .inr (6, [.int 40, .ref ce, .int 0])), (ce, .inl (cy 0, 160, .inl f))] sz)) 0 0 (va_A [(o, .inr (6, [.int 40, .ref ce, .int 0])), (ce, .inl (cy 0, 160, .inl f))] sz) := by
  refine Met.ofW (cc := cX6_add) (maxL := 6) (ret := (some .int)) (by decide) rfl ?_
  intro p e s m args below meth c s₁ B hml hv
  obtain ⟨rfl, hsz, hP, hK, hD0, hN⟩ := hv
  have hx := B.exec
  have hb := B.bytes
  have hr := B.returns
  have hta := tl_hta (atoms_spec (ws := tl_w yX6_add cX6_add 6 (some .int)) B.pre)
  have hown : s.vm.findClass RX6 = some m.cls := findClass_of_methodNamed B.named
  have hlocks := B.notSynchronized
  subst hsz
  have hD := hD0.self (sz := s.heap.size)
  generalize hAe : va_A [(o, .inr (6, [.int 40, .ref ce, .int 0])), (ce, .inl (cy 0, 160, .inl f))] s.heap.size = A at hD ⊢
  have hA : ∀ q : Nat, s.heap.size ≤ q → A q := fun q h => by rw [← hAe]; exact Or.inr h
  have hS : va_S A s.heap s.heap [] := va_S.rf
  have hP : va_P D vwCl [(o, .inr (6, [.int 40, .ref ce, .int 0])), (ce, .inl (cy 0, 160, .inl f))] s.heap := hP
  have hl := lv_entry ([.ref o, .int p0, .int p1, .int p2, .int p3]) (n := 6) (Nat.le_of_ble_eq_true rfl)
  rw [lg_entry_eq]
  generalize (lg_sl ([.ref o, .int p0, .int p1, .int p2, .int p3]) ++ List.replicate (6 - (lg_sl ([.ref o, .int p0, .int p1, .int p2, .int p3])).length) Slot.unset).toArray = ls at hl ⊢
  have hl : lv_has ls 6 [(0, .ref o), (1, .int p0), (2, .int p1), (3, .int p2), (4, .int p3)] := hl
  refine lv_aload_n hx hb dX6_add_0 rfl (lv_at hl 0 rfl) ?_
  refine va_get (D := D) (ci := 6) (v := .int 0) (C := RX6) (T := TX6) (N := 3) hx hb hta inlX6 hown hK hP 0 rfl rfl 2 (by decide) (hta _ wk_266) (fun _ h9 => h9) rfl dX6_add_1 ?_
  refine lv_aload_n hx hb dX6_add_4 rfl (lv_at hl 0 rfl) ?_
  refine va_get (D := D) (ci := 6) (v := .int 40) (C := RX6) (T := TX6) (N := 3) hx hb hta inlX6 hown hK hP 0 rfl rfl 0 (by decide) (hta _ wk_85) (fun _ h9 => h9) rfl dX6_add_5 ?_
  refine lv_icmp_lt (tgt := 13) hx hb dX6_add_8 (by decide) (fun _ => ?_) (fun c => absurd c (by decide))
  refine lv_aload_n hx hb dX6_add_13 rfl (lv_at hl 0 rfl) ?_
  refine va_get (D := D) (ci := 6) (v := .int 0) (C := RX6) (T := TX6) (N := 3) hx hb hta inlX6 hown hK hP 0 rfl rfl 2 (by decide) (hta _ wk_266) (fun _ h9 => h9) rfl dX6_add_14 ?_
  refine lv_istore (lv' := [(5, .int 0), (0, .ref o), (1, .int p0), (2, .int p1), (3, .int p2), (4, .int p3)]) hx hb dX6_add_17 hl (by decide) rfl (fun ls hl => ?_)
  refine lv_aload_n hx hb dX6_add_19 rfl (lv_at hl 1 rfl) ?_
  refine lv_dup hx hb dX6_add_20 rfl ?_
  refine va_get (D := D) (ci := 6) (v := .int 0) (C := RX6) (T := TX6) (N := 3) hx hb hta inlX6 hown hK hP 0 rfl rfl 2 (by decide) (hta _ wk_266) (fun _ h9 => h9) rfl dX6_add_21 ?_
  refine lv_iconst (v := 1) hx hb dX6_add_24 (by decide) ?_
  refine lv_iadd hx hb dX6_add_25 ?_
  refine lv_topi (fun z_1 ez_1 => ?_)
  obtain rfl : z_1 = (1 : Int32) := ez_1.trans (by decide)
  refine va_put (D := D) (ci := 6) (v := .int 1) (ty := tyX6 2) (C := RX6) (T := TX6) (N := 3) hx hb hta inlX6 tyX6 tyX6_ok nmX6 hown hK hP hD hS 0 rfl rfl 2 (by decide) (hta _ wk_266) (fun _ h9 => h9) rfl (tyX6_ok 2 (by decide)) rfl rfl (Nat.le_of_ble_eq_true rfl) dX6_add_26 (fun H locs hP hD hS => ?_)
  have hP : va_P D vwCl [(o, .inr (6, [.int 40, .ref ce, .int 1])), (ce, .inl (cy 0, 160, .inl f))] H := hP
  have hD : va_D A [(o, .inr (6, [.int 40, .ref ce, .int 1])), (ce, .inl (cy 0, 160, .inl f))] := hD
  refine lv_aload_n hx hb dX6_add_29 rfl (lv_at hl 1 rfl) ?_
  refine lv_iload hx hb dX6_add_30 (lv_at hl 0 rfl) ?_
  refine lv_iconst (v := 0) hx hb dX6_add_32 (by decide) ?_
  refine lv_iload_n hx hb dX6_add_33 rfl (lv_at hl 2 rfl) ?_
  refine tl_cv (wr := []) _ _ hP hD hS hA [0, 1] [] rfl rfl (by decide) (by decide) (tl_rV (As := [.int 0, .int 0, .int p0]) (rest := []) ⟨hx, hb, hml, hown, hta⟩ hK hN hP hD (ci := 6) rfl 0 rfl lk_X6_28 (c_X6_set_40_0 l D cy H.size o p0 ce f ) rfl rfl ⟨Nat.le_of_ble_eq_true rfl, Nat.le_of_ble_eq_true rfl⟩ rfl hl.1 rfl (Nat.le_of_ble_eq_true rfl) dX6_add_34 ⟨Nat.le_of_ble_eq_true rfl, Nat.le_of_ble_eq_true rfl⟩) (fun u_4 H locs hw_2 hP hD hS => ?_)
  have hP : va_P D vwCl [(o, .inr (6, [.int 40, .ref ce, .int 1])), (ce, .inl (cy 0, 160, .inl u_4))] H := hP
  have hD : va_D A [(o, .inr (6, [.int 40, .ref ce, .int 1])), (ce, .inl (cy 0, 160, .inl u_4))] := hD
  refine W.widen (k := 0) (n := 0) (Nat.le_refl _) (Nat.le_refl _) ?_
  refine lv_aload_n hx hb dX6_add_37 rfl (lv_at hl 1 rfl) ?_
  refine lv_iload hx hb dX6_add_38 (lv_at hl 0 rfl) ?_
  refine lv_iconst (v := 1) hx hb dX6_add_40 (by decide) ?_
  refine lv_iload_n hx hb dX6_add_41 rfl (lv_at hl 3 rfl) ?_
  refine tl_cv (wr := []) _ _ hP hD hS hA [0, 1] [] rfl rfl (by decide) (by decide) (tl_rV (As := [.int 0, .int 1, .int p1]) (rest := []) ⟨hx, hb, hml, hown, hta⟩ hK hN hP hD (ci := 6) rfl 0 rfl lk_X6_28 (c_X6_set_40_1 l D cy H.size o p1 ce u_4 ) rfl rfl ⟨Nat.le_of_ble_eq_true rfl, Nat.le_of_ble_eq_true rfl⟩ rfl hl.1 rfl (Nat.le_of_ble_eq_true rfl) dX6_add_42 ⟨Nat.le_of_ble_eq_true rfl, Nat.le_of_ble_eq_true rfl⟩) (fun u_7 H locs hw_5 hP hD hS => ?_)
  have hP : va_P D vwCl [(o, .inr (6, [.int 40, .ref ce, .int 1])), (ce, .inl (cy 0, 160, .inl u_7))] H := hP
  have hD : va_D A [(o, .inr (6, [.int 40, .ref ce, .int 1])), (ce, .inl (cy 0, 160, .inl u_7))] := hD
  refine W.widen (k := 0) (n := 0) (Nat.le_refl _) (Nat.le_refl _) ?_
  refine lv_aload_n hx hb dX6_add_45 rfl (lv_at hl 1 rfl) ?_
  refine lv_iload hx hb dX6_add_46 (lv_at hl 0 rfl) ?_
  refine lv_iconst (v := 2) hx hb dX6_add_48 (by decide) ?_
  refine lv_iload_n hx hb dX6_add_49 rfl (lv_at hl 4 rfl) ?_
  refine tl_cv (wr := []) _ _ hP hD hS hA [0, 1] [] rfl rfl (by decide) (by decide) (tl_rV (As := [.int 0, .int 2, .int p2]) (rest := []) ⟨hx, hb, hml, hown, hta⟩ hK hN hP hD (ci := 6) rfl 0 rfl lk_X6_28 (c_X6_set_40_2 l D cy H.size o p2 ce u_7 ) rfl rfl ⟨Nat.le_of_ble_eq_true rfl, Nat.le_of_ble_eq_true rfl⟩ rfl hl.1 rfl (Nat.le_of_ble_eq_true rfl) dX6_add_50 ⟨Nat.le_of_ble_eq_true rfl, Nat.le_of_ble_eq_true rfl⟩) (fun u_10 H locs hw_8 hP hD hS => ?_)
  have hP : va_P D vwCl [(o, .inr (6, [.int 40, .ref ce, .int 1])), (ce, .inl (cy 0, 160, .inl u_10))] H := hP
  have hD : va_D A [(o, .inr (6, [.int 40, .ref ce, .int 1])), (ce, .inl (cy 0, 160, .inl u_10))] := hD
  refine W.widen (k := 0) (n := 0) (Nat.le_refl _) (Nat.le_refl _) ?_
  refine lv_aload_n hx hb dX6_add_53 rfl (lv_at hl 1 rfl) ?_
  refine lv_iload hx hb dX6_add_54 (lv_at hl 0 rfl) ?_
  refine lv_iconst (v := 3) hx hb dX6_add_56 (by decide) ?_
  refine lv_iload hx hb dX6_add_57 (lv_at hl 5 rfl) ?_
  refine tl_cv (wr := []) _ _ hP hD hS hA [0, 1] [] rfl rfl (by decide) (by decide) (tl_rV (As := [.int 0, .int 3, .int p3]) (rest := []) ⟨hx, hb, hml, hown, hta⟩ hK hN hP hD (ci := 6) rfl 0 rfl lk_X6_28 (c_X6_set_40_3 l D cy H.size o p3 ce u_10 ) rfl rfl ⟨Nat.le_of_ble_eq_true rfl, Nat.le_of_ble_eq_true rfl⟩ rfl hl.1 rfl (Nat.le_of_ble_eq_true rfl) dX6_add_59 ⟨Nat.le_of_ble_eq_true rfl, Nat.le_of_ble_eq_true rfl⟩) (fun u_13 H locs hw_11 hP hD hS => ?_)
  have hP : va_P D vwCl [(o, .inr (6, [.int 40, .ref ce, .int 1])), (ce, .inl (cy 0, 160, .inl u_13))] H := hP
  have hD : va_D A [(o, .inr (6, [.int 40, .ref ce, .int 1])), (ce, .inl (cy 0, 160, .inl u_13))] := hD
  refine W.widen (k := 0) (n := 0) (Nat.le_refl _) (Nat.le_refl _) ?_
  refine lv_iload hx hb dX6_add_62 (lv_at hl 0 rfl) ?_
  have hP9 := hP.sub (ws' := [(o, .inr (6, [.int 40, .ref ce, .int 1]))]) [0] rfl
  have hD9 := hD.sub (ws' := [(o, .inr (6, [.int 40, .ref ce, .int 1]))]) [0] (by decide) rfl
  exact W.iret (v := 0) hx hb hr (fun t ht hW => ⟨⟨_, (), rfl, rfl, by rw [ht]; exact hP9, hD9⟩, hS.F ht⟩) hS.2.2 dX6_add_64
set_option maxHeartbeats 4000000 in
set_option maxRecDepth 100000 in
theorem c_X6_set_60_0 (l : Launch) (D : va_G) (cy : Nat → ClassId) (sz : Nat) (o : Nat) (p0 : Int32) (ce : Nat) (f : Nat → Int32)  : Met l yX6_set (tl_w yX6_set cX6_set 4 none) ({ frames := 1, cells := 0, slots := 0, locals := 21 }) (va_Pc [.ref o, .int 0, .int 0, .int p0] (tl_P D cy [(o, .inr (6, [.int 60, .ref ce, .int 1])), (ce, .inl (cy 0, 240, .inl f))] sz)) (va_Qv (fun (u : Nat → Int32) => True) (tl_B D (va_A [(o, .inr (6, [.int 60, .ref ce, .int 1])), (ce, .inl (cy 0, 240, .inl f))] sz) (fun u : Nat → Int32 => [(o, .inr (6, [.int 60, .ref ce, .int 1])), (ce, .inl (cy 0, 240, .inl u))])) (va_A [(o, .inr (6, [.int 60, .ref ce, .int 1])), (ce, .inl (cy 0, 240, .inl f))] sz)) 0 0 (va_A [(o, .inr (6, [.int 60, .ref ce, .int 1])), (ce, .inl (cy 0, 240, .inl f))] sz) := by
  refine Met.ofW (cc := cX6_set) (maxL := 4) (ret := none) (by decide) rfl ?_
  intro p e s m args below meth c s₁ B hml hv
  obtain ⟨rfl, hsz, hP, hK, hD0, hN⟩ := hv
  have hx := B.exec
  have hb := B.bytes
  have hr := B.returns
  have hta := tl_hta (atoms_spec (ws := tl_w yX6_set cX6_set 4 none) B.pre)
  have hown : s.vm.findClass RX6 = some m.cls := findClass_of_methodNamed B.named
  have hlocks := B.notSynchronized
  subst hsz
  have hD := hD0.self (sz := s.heap.size)
  generalize hAe : va_A [(o, .inr (6, [.int 60, .ref ce, .int 1])), (ce, .inl (cy 0, 240, .inl f))] s.heap.size = A at hD ⊢
  have hA : ∀ q : Nat, s.heap.size ≤ q → A q := fun q h => by rw [← hAe]; exact Or.inr h
  have hS : va_S A s.heap s.heap [] := va_S.rf
  have hP : va_P D vwCl [(o, .inr (6, [.int 60, .ref ce, .int 1])), (ce, .inl (cy 0, 240, .inl f))] s.heap := hP
  have hl := lv_entry ([.ref o, .int 0, .int 0, .int p0]) (n := 4) (Nat.le_of_ble_eq_true rfl)
  rw [lg_entry_eq]
  generalize (lg_sl ([.ref o, .int 0, .int 0, .int p0]) ++ List.replicate (4 - (lg_sl ([.ref o, .int 0, .int 0, .int p0])).length) Slot.unset).toArray = ls at hl ⊢
  have hl : lv_has ls 4 [(0, .ref o), (1, .int 0), (2, .int 0), (3, .int p0)] := hl
  refine lv_aload_n hx hb dX6_set_0 rfl (lv_at hl 0 rfl) ?_
  refine lv_iload_n hx hb dX6_set_1 rfl (lv_at hl 1 rfl) ?_
  have hPc := hP.sub (ws' := [(o, .inr (6, [.int 60, .ref ce, .int 1]))]) [0] rfl
  have hDc := hD.sub (ws' := [(o, .inr (6, [.int 60, .ref ce, .int 1]))]) [0] (by decide) rfl
  refine tl_si (tl_rV (As := [.int 0]) (rest := []) ⟨hx, hb, hml, hown, hta⟩ hK hN hPc hDc (ci := 6) rfl 0 rfl lk_X6_32 (c_X6_has1 l D cy s.heap.size o 60 ce ) rfl rfl ⟨Nat.le_of_ble_eq_true rfl, Nat.le_of_ble_eq_true rfl⟩ rfl hl.1 rfl (Nat.le_of_ble_eq_true rfl) dX6_set_2 ⟨Nat.le_of_ble_eq_true rfl, Nat.le_of_ble_eq_true rfl⟩) (fun r_2 hw_1 => ?_)
  subst hw_1
  refine lv_if_eq (tgt := 28) hx hb dX6_set_5 (by decide) (fun c => absurd c (by decide)) (fun _ => ?_)
  refine lv_iload_n hx hb dX6_set_8 rfl (lv_at hl 2 rfl) ?_
  refine lv_if_lt (tgt := 28) hx hb dX6_set_9 (by decide) (fun c => absurd c (by decide)) (fun _ => ?_)
  refine lv_iload_n hx hb dX6_set_12 rfl (lv_at hl 2 rfl) ?_
  refine lv_iconst (v := 4) hx hb dX6_set_13 (by decide) ?_
  refine lv_icmp_ge (tgt := 28) hx hb dX6_set_14 (by decide) (fun c => absurd c (by decide)) (fun _ => ?_)
  refine lv_aload_n hx hb dX6_set_17 rfl (lv_at hl 0 rfl) ?_
  refine va_get (D := D) (ci := 6) (v := .ref ce) (C := RX6) (T := TX6) (N := 3) hx hb hta inlX6 hown hK hP 0 rfl rfl 1 (by decide) (hta _ wk_86) (fun _ h9 => h9) rfl dX6_set_18 ?_
  refine lv_iload_n hx hb dX6_set_21 rfl (lv_at hl 1 rfl) ?_
  refine lv_iconst (v := 4) hx hb dX6_set_22 (by decide) ?_
  refine lv_imul hx hb dX6_set_23 ?_
  refine lv_topi (fun z_3 ez_3 => ?_)
  obtain rfl : z_3 = (0 : Int32) := ez_3.trans (by decide)
  refine lv_iload_n hx hb dX6_set_24 rfl (lv_at hl 2 rfl) ?_
  refine lv_iadd hx hb dX6_set_25 ?_
  refine lv_topi (fun z_4 ez_4 => ?_)
  obtain rfl : z_4 = (0 : Int32) := ez_4.trans (by decide)
  refine lv_iload_n hx hb dX6_set_26 rfl (lv_at hl 3 rfl) ?_
  refine va_iast (D := D) hx hb hK hP hD hS 1 0 rfl rfl (tl_in (by decide) (by decide)) dX6_set_27 (fun H locs hP hD hS => ?_)
  have hP : va_P D vwCl [(o, .inr (6, [.int 60, .ref ce, .int 1])), (ce, .inl (cy 0, 240, .inl (upd f (0 : Int32).toNatClampNeg p0)))] H := hP
  have hD : va_D A [(o, .inr (6, [.int 60, .ref ce, .int 1])), (ce, .inl (cy 0, 240, .inl (upd f (0 : Int32).toNatClampNeg p0)))] := hD
  generalize (upd f (0 : Int32).toNatClampNeg p0) = f_5 at hP hD
  have hP9 := hP.sub (ws' := [(o, .inr (6, [.int 60, .ref ce, .int 1])), (ce, .inl (cy 0, 240, .inl f_5))]) [0, 1] rfl
  have hD9 := hD.sub (ws' := [(o, .inr (6, [.int 60, .ref ce, .int 1])), (ce, .inl (cy 0, 240, .inl f_5))]) [0, 1] (by decide) rfl
  exact W.vret hx hb hr (fun t ht hW => ⟨⟨f_5, rfl, trivial, by rw [ht]; exact hP9, hD9⟩, hS.F ht⟩) hS.2.2 dX6_set_28
set_option maxHeartbeats 4000000 in
set_option maxRecDepth 100000 in
theorem c_X6_set_60_1 (l : Launch) (D : va_G) (cy : Nat → ClassId) (sz : Nat) (o : Nat) (p0 : Int32) (ce : Nat) (f : Nat → Int32)  : Met l yX6_set (tl_w yX6_set cX6_set 4 none) ({ frames := 1, cells := 0, slots := 0, locals := 21 }) (va_Pc [.ref o, .int 0, .int 1, .int p0] (tl_P D cy [(o, .inr (6, [.int 60, .ref ce, .int 1])), (ce, .inl (cy 0, 240, .inl f))] sz)) (va_Qv (fun (u : Nat → Int32) => True) (tl_B D (va_A [(o, .inr (6, [.int 60, .ref ce, .int 1])), (ce, .inl (cy 0, 240, .inl f))] sz) (fun u : Nat → Int32 => [(o, .inr (6, [.int 60, .ref ce, .int 1])), (ce, .inl (cy 0, 240, .inl u))])) (va_A [(o, .inr (6, [.int 60, .ref ce, .int 1])), (ce, .inl (cy 0, 240, .inl f))] sz)) 0 0 (va_A [(o, .inr (6, [.int 60, .ref ce, .int 1])), (ce, .inl (cy 0, 240, .inl f))] sz) := by
  refine Met.ofW (cc := cX6_set) (maxL := 4) (ret := none) (by decide) rfl ?_
  intro p e s m args below meth c s₁ B hml hv
  obtain ⟨rfl, hsz, hP, hK, hD0, hN⟩ := hv
  have hx := B.exec
  have hb := B.bytes
  have hr := B.returns
  have hta := tl_hta (atoms_spec (ws := tl_w yX6_set cX6_set 4 none) B.pre)
  have hown : s.vm.findClass RX6 = some m.cls := findClass_of_methodNamed B.named
  have hlocks := B.notSynchronized
  subst hsz
  have hD := hD0.self (sz := s.heap.size)
  generalize hAe : va_A [(o, .inr (6, [.int 60, .ref ce, .int 1])), (ce, .inl (cy 0, 240, .inl f))] s.heap.size = A at hD ⊢
  have hA : ∀ q : Nat, s.heap.size ≤ q → A q := fun q h => by rw [← hAe]; exact Or.inr h
  have hS : va_S A s.heap s.heap [] := va_S.rf
  have hP : va_P D vwCl [(o, .inr (6, [.int 60, .ref ce, .int 1])), (ce, .inl (cy 0, 240, .inl f))] s.heap := hP
  have hl := lv_entry ([.ref o, .int 0, .int 1, .int p0]) (n := 4) (Nat.le_of_ble_eq_true rfl)
  rw [lg_entry_eq]
  generalize (lg_sl ([.ref o, .int 0, .int 1, .int p0]) ++ List.replicate (4 - (lg_sl ([.ref o, .int 0, .int 1, .int p0])).length) Slot.unset).toArray = ls at hl ⊢
  have hl : lv_has ls 4 [(0, .ref o), (1, .int 0), (2, .int 1), (3, .int p0)] := hl
  refine lv_aload_n hx hb dX6_set_0 rfl (lv_at hl 0 rfl) ?_
  refine lv_iload_n hx hb dX6_set_1 rfl (lv_at hl 1 rfl) ?_
  have hPc := hP.sub (ws' := [(o, .inr (6, [.int 60, .ref ce, .int 1]))]) [0] rfl
  have hDc := hD.sub (ws' := [(o, .inr (6, [.int 60, .ref ce, .int 1]))]) [0] (by decide) rfl
  refine tl_si (tl_rV (As := [.int 0]) (rest := []) ⟨hx, hb, hml, hown, hta⟩ hK hN hPc hDc (ci := 6) rfl 0 rfl lk_X6_32 (c_X6_has1 l D cy s.heap.size o 60 ce ) rfl rfl ⟨Nat.le_of_ble_eq_true rfl, Nat.le_of_ble_eq_true rfl⟩ rfl hl.1 rfl (Nat.le_of_ble_eq_true rfl) dX6_set_2 ⟨Nat.le_of_ble_eq_true rfl, Nat.le_of_ble_eq_true rfl⟩) (fun r_2 hw_1 => ?_)
  subst hw_1
  refine lv_if_eq (tgt := 28) hx hb dX6_set_5 (by decide) (fun c => absurd c (by decide)) (fun _ => ?_)
  refine lv_iload_n hx hb dX6_set_8 rfl (lv_at hl 2 rfl) ?_
  refine lv_if_lt (tgt := 28) hx hb dX6_set_9 (by decide) (fun c => absurd c (by decide)) (fun _ => ?_)
  refine lv_iload_n hx hb dX6_set_12 rfl (lv_at hl 2 rfl) ?_
  refine lv_iconst (v := 4) hx hb dX6_set_13 (by decide) ?_
  refine lv_icmp_ge (tgt := 28) hx hb dX6_set_14 (by decide) (fun c => absurd c (by decide)) (fun _ => ?_)
  refine lv_aload_n hx hb dX6_set_17 rfl (lv_at hl 0 rfl) ?_
  refine va_get (D := D) (ci := 6) (v := .ref ce) (C := RX6) (T := TX6) (N := 3) hx hb hta inlX6 hown hK hP 0 rfl rfl 1 (by decide) (hta _ wk_86) (fun _ h9 => h9) rfl dX6_set_18 ?_
  refine lv_iload_n hx hb dX6_set_21 rfl (lv_at hl 1 rfl) ?_
  refine lv_iconst (v := 4) hx hb dX6_set_22 (by decide) ?_
  refine lv_imul hx hb dX6_set_23 ?_
  refine lv_topi (fun z_3 ez_3 => ?_)
  obtain rfl : z_3 = (0 : Int32) := ez_3.trans (by decide)
  refine lv_iload_n hx hb dX6_set_24 rfl (lv_at hl 2 rfl) ?_
  refine lv_iadd hx hb dX6_set_25 ?_
  refine lv_topi (fun z_4 ez_4 => ?_)
  obtain rfl : z_4 = (1 : Int32) := ez_4.trans (by decide)
  refine lv_iload_n hx hb dX6_set_26 rfl (lv_at hl 3 rfl) ?_
  refine va_iast (D := D) hx hb hK hP hD hS 1 0 rfl rfl (tl_in (by decide) (by decide)) dX6_set_27 (fun H locs hP hD hS => ?_)
  have hP : va_P D vwCl [(o, .inr (6, [.int 60, .ref ce, .int 1])), (ce, .inl (cy 0, 240, .inl (upd f (1 : Int32).toNatClampNeg p0)))] H := hP
  have hD : va_D A [(o, .inr (6, [.int 60, .ref ce, .int 1])), (ce, .inl (cy 0, 240, .inl (upd f (1 : Int32).toNatClampNeg p0)))] := hD
  generalize (upd f (1 : Int32).toNatClampNeg p0) = f_5 at hP hD
  have hP9 := hP.sub (ws' := [(o, .inr (6, [.int 60, .ref ce, .int 1])), (ce, .inl (cy 0, 240, .inl f_5))]) [0, 1] rfl
  have hD9 := hD.sub (ws' := [(o, .inr (6, [.int 60, .ref ce, .int 1])), (ce, .inl (cy 0, 240, .inl f_5))]) [0, 1] (by decide) rfl
  exact W.vret hx hb hr (fun t ht hW => ⟨⟨f_5, rfl, trivial, by rw [ht]; exact hP9, hD9⟩, hS.F ht⟩) hS.2.2 dX6_set_28
set_option maxHeartbeats 4000000 in
set_option maxRecDepth 100000 in
theorem c_X6_set_60_2 (l : Launch) (D : va_G) (cy : Nat → ClassId) (sz : Nat) (o : Nat) (p0 : Int32) (ce : Nat) (f : Nat → Int32)  : Met l yX6_set (tl_w yX6_set cX6_set 4 none) ({ frames := 1, cells := 0, slots := 0, locals := 21 }) (va_Pc [.ref o, .int 0, .int 2, .int p0] (tl_P D cy [(o, .inr (6, [.int 60, .ref ce, .int 1])), (ce, .inl (cy 0, 240, .inl f))] sz)) (va_Qv (fun (u : Nat → Int32) => True) (tl_B D (va_A [(o, .inr (6, [.int 60, .ref ce, .int 1])), (ce, .inl (cy 0, 240, .inl f))] sz) (fun u : Nat → Int32 => [(o, .inr (6, [.int 60, .ref ce, .int 1])), (ce, .inl (cy 0, 240, .inl u))])) (va_A [(o, .inr (6, [.int 60, .ref ce, .int 1])), (ce, .inl (cy 0, 240, .inl f))] sz)) 0 0 (va_A [(o, .inr (6, [.int 60, .ref ce, .int 1])), (ce, .inl (cy 0, 240, .inl f))] sz) := by
  refine Met.ofW (cc := cX6_set) (maxL := 4) (ret := none) (by decide) rfl ?_
  intro p e s m args below meth c s₁ B hml hv
  obtain ⟨rfl, hsz, hP, hK, hD0, hN⟩ := hv
  have hx := B.exec
  have hb := B.bytes
  have hr := B.returns
  have hta := tl_hta (atoms_spec (ws := tl_w yX6_set cX6_set 4 none) B.pre)
  have hown : s.vm.findClass RX6 = some m.cls := findClass_of_methodNamed B.named
  have hlocks := B.notSynchronized
  subst hsz
  have hD := hD0.self (sz := s.heap.size)
  generalize hAe : va_A [(o, .inr (6, [.int 60, .ref ce, .int 1])), (ce, .inl (cy 0, 240, .inl f))] s.heap.size = A at hD ⊢
  have hA : ∀ q : Nat, s.heap.size ≤ q → A q := fun q h => by rw [← hAe]; exact Or.inr h
  have hS : va_S A s.heap s.heap [] := va_S.rf
  have hP : va_P D vwCl [(o, .inr (6, [.int 60, .ref ce, .int 1])), (ce, .inl (cy 0, 240, .inl f))] s.heap := hP
  have hl := lv_entry ([.ref o, .int 0, .int 2, .int p0]) (n := 4) (Nat.le_of_ble_eq_true rfl)
  rw [lg_entry_eq]
  generalize (lg_sl ([.ref o, .int 0, .int 2, .int p0]) ++ List.replicate (4 - (lg_sl ([.ref o, .int 0, .int 2, .int p0])).length) Slot.unset).toArray = ls at hl ⊢
  have hl : lv_has ls 4 [(0, .ref o), (1, .int 0), (2, .int 2), (3, .int p0)] := hl
  refine lv_aload_n hx hb dX6_set_0 rfl (lv_at hl 0 rfl) ?_
  refine lv_iload_n hx hb dX6_set_1 rfl (lv_at hl 1 rfl) ?_
  have hPc := hP.sub (ws' := [(o, .inr (6, [.int 60, .ref ce, .int 1]))]) [0] rfl
  have hDc := hD.sub (ws' := [(o, .inr (6, [.int 60, .ref ce, .int 1]))]) [0] (by decide) rfl
  refine tl_si (tl_rV (As := [.int 0]) (rest := []) ⟨hx, hb, hml, hown, hta⟩ hK hN hPc hDc (ci := 6) rfl 0 rfl lk_X6_32 (c_X6_has1 l D cy s.heap.size o 60 ce ) rfl rfl ⟨Nat.le_of_ble_eq_true rfl, Nat.le_of_ble_eq_true rfl⟩ rfl hl.1 rfl (Nat.le_of_ble_eq_true rfl) dX6_set_2 ⟨Nat.le_of_ble_eq_true rfl, Nat.le_of_ble_eq_true rfl⟩) (fun r_2 hw_1 => ?_)
  subst hw_1
  refine lv_if_eq (tgt := 28) hx hb dX6_set_5 (by decide) (fun c => absurd c (by decide)) (fun _ => ?_)
  refine lv_iload_n hx hb dX6_set_8 rfl (lv_at hl 2 rfl) ?_
  refine lv_if_lt (tgt := 28) hx hb dX6_set_9 (by decide) (fun c => absurd c (by decide)) (fun _ => ?_)
  refine lv_iload_n hx hb dX6_set_12 rfl (lv_at hl 2 rfl) ?_
  refine lv_iconst (v := 4) hx hb dX6_set_13 (by decide) ?_
  refine lv_icmp_ge (tgt := 28) hx hb dX6_set_14 (by decide) (fun c => absurd c (by decide)) (fun _ => ?_)
  refine lv_aload_n hx hb dX6_set_17 rfl (lv_at hl 0 rfl) ?_
  refine va_get (D := D) (ci := 6) (v := .ref ce) (C := RX6) (T := TX6) (N := 3) hx hb hta inlX6 hown hK hP 0 rfl rfl 1 (by decide) (hta _ wk_86) (fun _ h9 => h9) rfl dX6_set_18 ?_
  refine lv_iload_n hx hb dX6_set_21 rfl (lv_at hl 1 rfl) ?_
  refine lv_iconst (v := 4) hx hb dX6_set_22 (by decide) ?_
  refine lv_imul hx hb dX6_set_23 ?_
  refine lv_topi (fun z_3 ez_3 => ?_)
  obtain rfl : z_3 = (0 : Int32) := ez_3.trans (by decide)
  refine lv_iload_n hx hb dX6_set_24 rfl (lv_at hl 2 rfl) ?_
  refine lv_iadd hx hb dX6_set_25 ?_
  refine lv_topi (fun z_4 ez_4 => ?_)
  obtain rfl : z_4 = (2 : Int32) := ez_4.trans (by decide)
  refine lv_iload_n hx hb dX6_set_26 rfl (lv_at hl 3 rfl) ?_
  refine va_iast (D := D) hx hb hK hP hD hS 1 0 rfl rfl (tl_in (by decide) (by decide)) dX6_set_27 (fun H locs hP hD hS => ?_)
  have hP : va_P D vwCl [(o, .inr (6, [.int 60, .ref ce, .int 1])), (ce, .inl (cy 0, 240, .inl (upd f (2 : Int32).toNatClampNeg p0)))] H := hP
  have hD : va_D A [(o, .inr (6, [.int 60, .ref ce, .int 1])), (ce, .inl (cy 0, 240, .inl (upd f (2 : Int32).toNatClampNeg p0)))] := hD
  generalize (upd f (2 : Int32).toNatClampNeg p0) = f_5 at hP hD
  have hP9 := hP.sub (ws' := [(o, .inr (6, [.int 60, .ref ce, .int 1])), (ce, .inl (cy 0, 240, .inl f_5))]) [0, 1] rfl
  have hD9 := hD.sub (ws' := [(o, .inr (6, [.int 60, .ref ce, .int 1])), (ce, .inl (cy 0, 240, .inl f_5))]) [0, 1] (by decide) rfl
  exact W.vret hx hb hr (fun t ht hW => ⟨⟨f_5, rfl, trivial, by rw [ht]; exact hP9, hD9⟩, hS.F ht⟩) hS.2.2 dX6_set_28
set_option maxHeartbeats 4000000 in
set_option maxRecDepth 100000 in
theorem c_X6_set_60_3 (l : Launch) (D : va_G) (cy : Nat → ClassId) (sz : Nat) (o : Nat) (p0 : Int32) (ce : Nat) (f : Nat → Int32)  : Met l yX6_set (tl_w yX6_set cX6_set 4 none) ({ frames := 1, cells := 0, slots := 0, locals := 21 }) (va_Pc [.ref o, .int 0, .int 3, .int p0] (tl_P D cy [(o, .inr (6, [.int 60, .ref ce, .int 1])), (ce, .inl (cy 0, 240, .inl f))] sz)) (va_Qv (fun (u : Nat → Int32) => True) (tl_B D (va_A [(o, .inr (6, [.int 60, .ref ce, .int 1])), (ce, .inl (cy 0, 240, .inl f))] sz) (fun u : Nat → Int32 => [(o, .inr (6, [.int 60, .ref ce, .int 1])), (ce, .inl (cy 0, 240, .inl u))])) (va_A [(o, .inr (6, [.int 60, .ref ce, .int 1])), (ce, .inl (cy 0, 240, .inl f))] sz)) 0 0 (va_A [(o, .inr (6, [.int 60, .ref ce, .int 1])), (ce, .inl (cy 0, 240, .inl f))] sz) := by
  refine Met.ofW (cc := cX6_set) (maxL := 4) (ret := none) (by decide) rfl ?_
  intro p e s m args below meth c s₁ B hml hv
  obtain ⟨rfl, hsz, hP, hK, hD0, hN⟩ := hv
  have hx := B.exec
  have hb := B.bytes
  have hr := B.returns
  have hta := tl_hta (atoms_spec (ws := tl_w yX6_set cX6_set 4 none) B.pre)
  have hown : s.vm.findClass RX6 = some m.cls := findClass_of_methodNamed B.named
  have hlocks := B.notSynchronized
  subst hsz
  have hD := hD0.self (sz := s.heap.size)
  generalize hAe : va_A [(o, .inr (6, [.int 60, .ref ce, .int 1])), (ce, .inl (cy 0, 240, .inl f))] s.heap.size = A at hD ⊢
  have hA : ∀ q : Nat, s.heap.size ≤ q → A q := fun q h => by rw [← hAe]; exact Or.inr h
  have hS : va_S A s.heap s.heap [] := va_S.rf
  have hP : va_P D vwCl [(o, .inr (6, [.int 60, .ref ce, .int 1])), (ce, .inl (cy 0, 240, .inl f))] s.heap := hP
  have hl := lv_entry ([.ref o, .int 0, .int 3, .int p0]) (n := 4) (Nat.le_of_ble_eq_true rfl)
  rw [lg_entry_eq]
  generalize (lg_sl ([.ref o, .int 0, .int 3, .int p0]) ++ List.replicate (4 - (lg_sl ([.ref o, .int 0, .int 3, .int p0])).length) Slot.unset).toArray = ls at hl ⊢
  have hl : lv_has ls 4 [(0, .ref o), (1, .int 0), (2, .int 3), (3, .int p0)] := hl
  refine lv_aload_n hx hb dX6_set_0 rfl (lv_at hl 0 rfl) ?_
  refine lv_iload_n hx hb dX6_set_1 rfl (lv_at hl 1 rfl) ?_
  have hPc := hP.sub (ws' := [(o, .inr (6, [.int 60, .ref ce, .int 1]))]) [0] rfl
  have hDc := hD.sub (ws' := [(o, .inr (6, [.int 60, .ref ce, .int 1]))]) [0] (by decide) rfl
  refine tl_si (tl_rV (As := [.int 0]) (rest := []) ⟨hx, hb, hml, hown, hta⟩ hK hN hPc hDc (ci := 6) rfl 0 rfl lk_X6_32 (c_X6_has1 l D cy s.heap.size o 60 ce ) rfl rfl ⟨Nat.le_of_ble_eq_true rfl, Nat.le_of_ble_eq_true rfl⟩ rfl hl.1 rfl (Nat.le_of_ble_eq_true rfl) dX6_set_2 ⟨Nat.le_of_ble_eq_true rfl, Nat.le_of_ble_eq_true rfl⟩) (fun r_2 hw_1 => ?_)
  subst hw_1
  refine lv_if_eq (tgt := 28) hx hb dX6_set_5 (by decide) (fun c => absurd c (by decide)) (fun _ => ?_)
  refine lv_iload_n hx hb dX6_set_8 rfl (lv_at hl 2 rfl) ?_
  refine lv_if_lt (tgt := 28) hx hb dX6_set_9 (by decide) (fun c => absurd c (by decide)) (fun _ => ?_)
  refine lv_iload_n hx hb dX6_set_12 rfl (lv_at hl 2 rfl) ?_
  refine lv_iconst (v := 4) hx hb dX6_set_13 (by decide) ?_
  refine lv_icmp_ge (tgt := 28) hx hb dX6_set_14 (by decide) (fun c => absurd c (by decide)) (fun _ => ?_)
  refine lv_aload_n hx hb dX6_set_17 rfl (lv_at hl 0 rfl) ?_
  refine va_get (D := D) (ci := 6) (v := .ref ce) (C := RX6) (T := TX6) (N := 3) hx hb hta inlX6 hown hK hP 0 rfl rfl 1 (by decide) (hta _ wk_86) (fun _ h9 => h9) rfl dX6_set_18 ?_
  refine lv_iload_n hx hb dX6_set_21 rfl (lv_at hl 1 rfl) ?_
  refine lv_iconst (v := 4) hx hb dX6_set_22 (by decide) ?_
  refine lv_imul hx hb dX6_set_23 ?_
  refine lv_topi (fun z_3 ez_3 => ?_)
  obtain rfl : z_3 = (0 : Int32) := ez_3.trans (by decide)
  refine lv_iload_n hx hb dX6_set_24 rfl (lv_at hl 2 rfl) ?_
  refine lv_iadd hx hb dX6_set_25 ?_
  refine lv_topi (fun z_4 ez_4 => ?_)
  obtain rfl : z_4 = (3 : Int32) := ez_4.trans (by decide)
  refine lv_iload_n hx hb dX6_set_26 rfl (lv_at hl 3 rfl) ?_
  refine va_iast (D := D) hx hb hK hP hD hS 1 0 rfl rfl (tl_in (by decide) (by decide)) dX6_set_27 (fun H locs hP hD hS => ?_)
  have hP : va_P D vwCl [(o, .inr (6, [.int 60, .ref ce, .int 1])), (ce, .inl (cy 0, 240, .inl (upd f (3 : Int32).toNatClampNeg p0)))] H := hP
  have hD : va_D A [(o, .inr (6, [.int 60, .ref ce, .int 1])), (ce, .inl (cy 0, 240, .inl (upd f (3 : Int32).toNatClampNeg p0)))] := hD
  generalize (upd f (3 : Int32).toNatClampNeg p0) = f_5 at hP hD
  have hP9 := hP.sub (ws' := [(o, .inr (6, [.int 60, .ref ce, .int 1])), (ce, .inl (cy 0, 240, .inl f_5))]) [0, 1] rfl
  have hD9 := hD.sub (ws' := [(o, .inr (6, [.int 60, .ref ce, .int 1])), (ce, .inl (cy 0, 240, .inl f_5))]) [0, 1] (by decide) rfl
  exact W.vret hx hb hr (fun t ht hW => ⟨⟨f_5, rfl, trivial, by rw [ht]; exact hP9, hD9⟩, hS.F ht⟩) hS.2.2 dX6_set_28
set_option maxHeartbeats 4000000 in
set_option maxRecDepth 100000 in
theorem c_X6_add_60 (l : Launch) (D : va_G) (cy : Nat → ClassId) (sz : Nat) (o : Nat) (p0 : Int32) (p1 : Int32) (p2 : Int32) (p3 : Int32) (ce : Nat) (f : Nat → Int32)  : Met l yX6_add (tl_w yX6_add cX6_add 6 (some .int)) ({ frames := 2, cells := 0, slots := 0, locals := 44 }) (va_Pc [.ref o, .int p0, .int p1, .int p2, .int p3] (tl_P D cy [(o, .inr (6, [.int 60, .ref ce, .int 0])), (ce, .inl (cy 0, 240, .inl f))] sz)) (va_Qi (fun (r : Int32) (u : Unit) => r = 0) (tl_B D (va_A [(o, .inr (6, [.int 60, .ref ce, .int 0])), (ce, .inl (cy 0, 240, .inl f))] sz) (fun u : Unit => [(o, .inr (6, [.int 60, .ref ce, .int 1]))])) (va_A [(o, .inr (6, [.int 60, .ref ce, .int 0])), (ce, .inl (cy 0, 240, .inl f))] sz)) 0 0 (va_A [(o, .inr (6, [.int 60, .ref ce, .int 0])), (ce, .inl (cy 0, 240, .inl f))] sz) := by
  refine Met.ofW (cc := cX6_add) (maxL := 6) (ret := (some .int)) (by decide) rfl ?_
  intro p e s m args below meth c s₁ B hml hv
  obtain ⟨rfl, hsz, hP, hK, hD0, hN⟩ := hv
  have hx := B.exec
  have hb := B.bytes
  have hr := B.returns
  have hta := tl_hta (atoms_spec (ws := tl_w yX6_add cX6_add 6 (some .int)) B.pre)
  have hown : s.vm.findClass RX6 = some m.cls := findClass_of_methodNamed B.named
  have hlocks := B.notSynchronized
  subst hsz
  have hD := hD0.self (sz := s.heap.size)
  generalize hAe : va_A [(o, .inr (6, [.int 60, .ref ce, .int 0])), (ce, .inl (cy 0, 240, .inl f))] s.heap.size = A at hD ⊢
  have hA : ∀ q : Nat, s.heap.size ≤ q → A q := fun q h => by rw [← hAe]; exact Or.inr h
  have hS : va_S A s.heap s.heap [] := va_S.rf
  have hP : va_P D vwCl [(o, .inr (6, [.int 60, .ref ce, .int 0])), (ce, .inl (cy 0, 240, .inl f))] s.heap := hP
  have hl := lv_entry ([.ref o, .int p0, .int p1, .int p2, .int p3]) (n := 6) (Nat.le_of_ble_eq_true rfl)
  rw [lg_entry_eq]
  generalize (lg_sl ([.ref o, .int p0, .int p1, .int p2, .int p3]) ++ List.replicate (6 - (lg_sl ([.ref o, .int p0, .int p1, .int p2, .int p3])).length) Slot.unset).toArray = ls at hl ⊢
  have hl : lv_has ls 6 [(0, .ref o), (1, .int p0), (2, .int p1), (3, .int p2), (4, .int p3)] := hl
  refine lv_aload_n hx hb dX6_add_0 rfl (lv_at hl 0 rfl) ?_
  refine va_get (D := D) (ci := 6) (v := .int 0) (C := RX6) (T := TX6) (N := 3) hx hb hta inlX6 hown hK hP 0 rfl rfl 2 (by decide) (hta _ wk_266) (fun _ h9 => h9) rfl dX6_add_1 ?_
  refine lv_aload_n hx hb dX6_add_4 rfl (lv_at hl 0 rfl) ?_
  refine va_get (D := D) (ci := 6) (v := .int 60) (C := RX6) (T := TX6) (N := 3) hx hb hta inlX6 hown hK hP 0 rfl rfl 0 (by decide) (hta _ wk_85) (fun _ h9 => h9) rfl dX6_add_5 ?_
  refine lv_icmp_lt (tgt := 13) hx hb dX6_add_8 (by decide) (fun _ => ?_) (fun c => absurd c (by decide))
  refine lv_aload_n hx hb dX6_add_13 rfl (lv_at hl 0 rfl) ?_
  refine va_get (D := D) (ci := 6) (v := .int 0) (C := RX6) (T := TX6) (N := 3) hx hb hta inlX6 hown hK hP 0 rfl rfl 2 (by decide) (hta _ wk_266) (fun _ h9 => h9) rfl dX6_add_14 ?_
  refine lv_istore (lv' := [(5, .int 0), (0, .ref o), (1, .int p0), (2, .int p1), (3, .int p2), (4, .int p3)]) hx hb dX6_add_17 hl (by decide) rfl (fun ls hl => ?_)
  refine lv_aload_n hx hb dX6_add_19 rfl (lv_at hl 1 rfl) ?_
  refine lv_dup hx hb dX6_add_20 rfl ?_
  refine va_get (D := D) (ci := 6) (v := .int 0) (C := RX6) (T := TX6) (N := 3) hx hb hta inlX6 hown hK hP 0 rfl rfl 2 (by decide) (hta _ wk_266) (fun _ h9 => h9) rfl dX6_add_21 ?_
  refine lv_iconst (v := 1) hx hb dX6_add_24 (by decide) ?_
  refine lv_iadd hx hb dX6_add_25 ?_
  refine lv_topi (fun z_1 ez_1 => ?_)
  obtain rfl : z_1 = (1 : Int32) := ez_1.trans (by decide)
  refine va_put (D := D) (ci := 6) (v := .int 1) (ty := tyX6 2) (C := RX6) (T := TX6) (N := 3) hx hb hta inlX6 tyX6 tyX6_ok nmX6 hown hK hP hD hS 0 rfl rfl 2 (by decide) (hta _ wk_266) (fun _ h9 => h9) rfl (tyX6_ok 2 (by decide)) rfl rfl (Nat.le_of_ble_eq_true rfl) dX6_add_26 (fun H locs hP hD hS => ?_)
  have hP : va_P D vwCl [(o, .inr (6, [.int 60, .ref ce, .int 1])), (ce, .inl (cy 0, 240, .inl f))] H := hP
  have hD : va_D A [(o, .inr (6, [.int 60, .ref ce, .int 1])), (ce, .inl (cy 0, 240, .inl f))] := hD
  refine lv_aload_n hx hb dX6_add_29 rfl (lv_at hl 1 rfl) ?_
  refine lv_iload hx hb dX6_add_30 (lv_at hl 0 rfl) ?_
  refine lv_iconst (v := 0) hx hb dX6_add_32 (by decide) ?_
  refine lv_iload_n hx hb dX6_add_33 rfl (lv_at hl 2 rfl) ?_
  refine tl_cv (wr := []) _ _ hP hD hS hA [0, 1] [] rfl rfl (by decide) (by decide) (tl_rV (As := [.int 0, .int 0, .int p0]) (rest := []) ⟨hx, hb, hml, hown, hta⟩ hK hN hP hD (ci := 6) rfl 0 rfl lk_X6_28 (c_X6_set_60_0 l D cy H.size o p0 ce f ) rfl rfl ⟨Nat.le_of_ble_eq_true rfl, Nat.le_of_ble_eq_true rfl⟩ rfl hl.1 rfl (Nat.le_of_ble_eq_true rfl) dX6_add_34 ⟨Nat.le_of_ble_eq_true rfl, Nat.le_of_ble_eq_true rfl⟩) (fun u_4 H locs hw_2 hP hD hS => ?_)
  have hP : va_P D vwCl [(o, .inr (6, [.int 60, .ref ce, .int 1])), (ce, .inl (cy 0, 240, .inl u_4))] H := hP
  have hD : va_D A [(o, .inr (6, [.int 60, .ref ce, .int 1])), (ce, .inl (cy 0, 240, .inl u_4))] := hD
  refine W.widen (k := 0) (n := 0) (Nat.le_refl _) (Nat.le_refl _) ?_
  refine lv_aload_n hx hb dX6_add_37 rfl (lv_at hl 1 rfl) ?_
  refine lv_iload hx hb dX6_add_38 (lv_at hl 0 rfl) ?_
  refine lv_iconst (v := 1) hx hb dX6_add_40 (by decide) ?_
  refine lv_iload_n hx hb dX6_add_41 rfl (lv_at hl 3 rfl) ?_
  refine tl_cv (wr := []) _ _ hP hD hS hA [0, 1] [] rfl rfl (by decide) (by decide) (tl_rV (As := [.int 0, .int 1, .int p1]) (rest := []) ⟨hx, hb, hml, hown, hta⟩ hK hN hP hD (ci := 6) rfl 0 rfl lk_X6_28 (c_X6_set_60_1 l D cy H.size o p1 ce u_4 ) rfl rfl ⟨Nat.le_of_ble_eq_true rfl, Nat.le_of_ble_eq_true rfl⟩ rfl hl.1 rfl (Nat.le_of_ble_eq_true rfl) dX6_add_42 ⟨Nat.le_of_ble_eq_true rfl, Nat.le_of_ble_eq_true rfl⟩) (fun u_7 H locs hw_5 hP hD hS => ?_)
  have hP : va_P D vwCl [(o, .inr (6, [.int 60, .ref ce, .int 1])), (ce, .inl (cy 0, 240, .inl u_7))] H := hP
  have hD : va_D A [(o, .inr (6, [.int 60, .ref ce, .int 1])), (ce, .inl (cy 0, 240, .inl u_7))] := hD
  refine W.widen (k := 0) (n := 0) (Nat.le_refl _) (Nat.le_refl _) ?_
  refine lv_aload_n hx hb dX6_add_45 rfl (lv_at hl 1 rfl) ?_
  refine lv_iload hx hb dX6_add_46 (lv_at hl 0 rfl) ?_
  refine lv_iconst (v := 2) hx hb dX6_add_48 (by decide) ?_
  refine lv_iload_n hx hb dX6_add_49 rfl (lv_at hl 4 rfl) ?_
  refine tl_cv (wr := []) _ _ hP hD hS hA [0, 1] [] rfl rfl (by decide) (by decide) (tl_rV (As := [.int 0, .int 2, .int p2]) (rest := []) ⟨hx, hb, hml, hown, hta⟩ hK hN hP hD (ci := 6) rfl 0 rfl lk_X6_28 (c_X6_set_60_2 l D cy H.size o p2 ce u_7 ) rfl rfl ⟨Nat.le_of_ble_eq_true rfl, Nat.le_of_ble_eq_true rfl⟩ rfl hl.1 rfl (Nat.le_of_ble_eq_true rfl) dX6_add_50 ⟨Nat.le_of_ble_eq_true rfl, Nat.le_of_ble_eq_true rfl⟩) (fun u_10 H locs hw_8 hP hD hS => ?_)
  have hP : va_P D vwCl [(o, .inr (6, [.int 60, .ref ce, .int 1])), (ce, .inl (cy 0, 240, .inl u_10))] H := hP
  have hD : va_D A [(o, .inr (6, [.int 60, .ref ce, .int 1])), (ce, .inl (cy 0, 240, .inl u_10))] := hD
  refine W.widen (k := 0) (n := 0) (Nat.le_refl _) (Nat.le_refl _) ?_
  refine lv_aload_n hx hb dX6_add_53 rfl (lv_at hl 1 rfl) ?_
  refine lv_iload hx hb dX6_add_54 (lv_at hl 0 rfl) ?_
  refine lv_iconst (v := 3) hx hb dX6_add_56 (by decide) ?_
  refine lv_iload hx hb dX6_add_57 (lv_at hl 5 rfl) ?_
  refine tl_cv (wr := []) _ _ hP hD hS hA [0, 1] [] rfl rfl (by decide) (by decide) (tl_rV (As := [.int 0, .int 3, .int p3]) (rest := []) ⟨hx, hb, hml, hown, hta⟩ hK hN hP hD (ci := 6) rfl 0 rfl lk_X6_28 (c_X6_set_60_3 l D cy H.size o p3 ce u_10 ) rfl rfl ⟨Nat.le_of_ble_eq_true rfl, Nat.le_of_ble_eq_true rfl⟩ rfl hl.1 rfl (Nat.le_of_ble_eq_true rfl) dX6_add_59 ⟨Nat.le_of_ble_eq_true rfl, Nat.le_of_ble_eq_true rfl⟩) (fun u_13 H locs hw_11 hP hD hS => ?_)
  have hP : va_P D vwCl [(o, .inr (6, [.int 60, .ref ce, .int 1])), (ce, .inl (cy 0, 240, .inl u_13))] H := hP
  have hD : va_D A [(o, .inr (6, [.int 60, .ref ce, .int 1])), (ce, .inl (cy 0, 240, .inl u_13))] := hD
  refine W.widen (k := 0) (n := 0) (Nat.le_refl _) (Nat.le_refl _) ?_
  refine lv_iload hx hb dX6_add_62 (lv_at hl 0 rfl) ?_
  have hP9 := hP.sub (ws' := [(o, .inr (6, [.int 60, .ref ce, .int 1]))]) [0] rfl
  have hD9 := hD.sub (ws' := [(o, .inr (6, [.int 60, .ref ce, .int 1]))]) [0] (by decide) rfl
  exact W.iret (v := 0) hx hb hr (fun t ht hW => ⟨⟨_, (), rfl, rfl, by rw [ht]; exact hP9, hD9⟩, hS.F ht⟩) hS.2.2 dX6_add_64
set_option maxHeartbeats 4000000 in
set_option maxRecDepth 100000 in
theorem c_X6_set_10_0 (l : Launch) (D : va_G) (cy : Nat → ClassId) (sz : Nat) (o : Nat) (p0 : Int32) (ce : Nat) (f : Nat → Int32)  : Met l yX6_set (tl_w yX6_set cX6_set 4 none) ({ frames := 1, cells := 0, slots := 0, locals := 21 }) (va_Pc [.ref o, .int 0, .int 0, .int p0] (tl_P D cy [(o, .inr (6, [.int 10, .ref ce, .int 1])), (ce, .inl (cy 0, 40, .inl f))] sz)) (va_Qv (fun (u : Nat → Int32) => True) (tl_B D (va_A [(o, .inr (6, [.int 10, .ref ce, .int 1])), (ce, .inl (cy 0, 40, .inl f))] sz) (fun u : Nat → Int32 => [(o, .inr (6, [.int 10, .ref ce, .int 1])), (ce, .inl (cy 0, 40, .inl u))])) (va_A [(o, .inr (6, [.int 10, .ref ce, .int 1])), (ce, .inl (cy 0, 40, .inl f))] sz)) 0 0 (va_A [(o, .inr (6, [.int 10, .ref ce, .int 1])), (ce, .inl (cy 0, 40, .inl f))] sz) := by
  refine Met.ofW (cc := cX6_set) (maxL := 4) (ret := none) (by decide) rfl ?_
  intro p e s m args below meth c s₁ B hml hv
  obtain ⟨rfl, hsz, hP, hK, hD0, hN⟩ := hv
  have hx := B.exec
  have hb := B.bytes
  have hr := B.returns
  have hta := tl_hta (atoms_spec (ws := tl_w yX6_set cX6_set 4 none) B.pre)
  have hown : s.vm.findClass RX6 = some m.cls := findClass_of_methodNamed B.named
  have hlocks := B.notSynchronized
  subst hsz
  have hD := hD0.self (sz := s.heap.size)
  generalize hAe : va_A [(o, .inr (6, [.int 10, .ref ce, .int 1])), (ce, .inl (cy 0, 40, .inl f))] s.heap.size = A at hD ⊢
  have hA : ∀ q : Nat, s.heap.size ≤ q → A q := fun q h => by rw [← hAe]; exact Or.inr h
  have hS : va_S A s.heap s.heap [] := va_S.rf
  have hP : va_P D vwCl [(o, .inr (6, [.int 10, .ref ce, .int 1])), (ce, .inl (cy 0, 40, .inl f))] s.heap := hP
  have hl := lv_entry ([.ref o, .int 0, .int 0, .int p0]) (n := 4) (Nat.le_of_ble_eq_true rfl)
  rw [lg_entry_eq]
  generalize (lg_sl ([.ref o, .int 0, .int 0, .int p0]) ++ List.replicate (4 - (lg_sl ([.ref o, .int 0, .int 0, .int p0])).length) Slot.unset).toArray = ls at hl ⊢
  have hl : lv_has ls 4 [(0, .ref o), (1, .int 0), (2, .int 0), (3, .int p0)] := hl
  refine lv_aload_n hx hb dX6_set_0 rfl (lv_at hl 0 rfl) ?_
  refine lv_iload_n hx hb dX6_set_1 rfl (lv_at hl 1 rfl) ?_
  have hPc := hP.sub (ws' := [(o, .inr (6, [.int 10, .ref ce, .int 1]))]) [0] rfl
  have hDc := hD.sub (ws' := [(o, .inr (6, [.int 10, .ref ce, .int 1]))]) [0] (by decide) rfl
  refine tl_si (tl_rV (As := [.int 0]) (rest := []) ⟨hx, hb, hml, hown, hta⟩ hK hN hPc hDc (ci := 6) rfl 0 rfl lk_X6_32 (c_X6_has1 l D cy s.heap.size o 10 ce ) rfl rfl ⟨Nat.le_of_ble_eq_true rfl, Nat.le_of_ble_eq_true rfl⟩ rfl hl.1 rfl (Nat.le_of_ble_eq_true rfl) dX6_set_2 ⟨Nat.le_of_ble_eq_true rfl, Nat.le_of_ble_eq_true rfl⟩) (fun r_2 hw_1 => ?_)
  subst hw_1
  refine lv_if_eq (tgt := 28) hx hb dX6_set_5 (by decide) (fun c => absurd c (by decide)) (fun _ => ?_)
  refine lv_iload_n hx hb dX6_set_8 rfl (lv_at hl 2 rfl) ?_
  refine lv_if_lt (tgt := 28) hx hb dX6_set_9 (by decide) (fun c => absurd c (by decide)) (fun _ => ?_)
  refine lv_iload_n hx hb dX6_set_12 rfl (lv_at hl 2 rfl) ?_
  refine lv_iconst (v := 4) hx hb dX6_set_13 (by decide) ?_
  refine lv_icmp_ge (tgt := 28) hx hb dX6_set_14 (by decide) (fun c => absurd c (by decide)) (fun _ => ?_)
  refine lv_aload_n hx hb dX6_set_17 rfl (lv_at hl 0 rfl) ?_
  refine va_get (D := D) (ci := 6) (v := .ref ce) (C := RX6) (T := TX6) (N := 3) hx hb hta inlX6 hown hK hP 0 rfl rfl 1 (by decide) (hta _ wk_86) (fun _ h9 => h9) rfl dX6_set_18 ?_
  refine lv_iload_n hx hb dX6_set_21 rfl (lv_at hl 1 rfl) ?_
  refine lv_iconst (v := 4) hx hb dX6_set_22 (by decide) ?_
  refine lv_imul hx hb dX6_set_23 ?_
  refine lv_topi (fun z_3 ez_3 => ?_)
  obtain rfl : z_3 = (0 : Int32) := ez_3.trans (by decide)
  refine lv_iload_n hx hb dX6_set_24 rfl (lv_at hl 2 rfl) ?_
  refine lv_iadd hx hb dX6_set_25 ?_
  refine lv_topi (fun z_4 ez_4 => ?_)
  obtain rfl : z_4 = (0 : Int32) := ez_4.trans (by decide)
  refine lv_iload_n hx hb dX6_set_26 rfl (lv_at hl 3 rfl) ?_
  refine va_iast (D := D) hx hb hK hP hD hS 1 0 rfl rfl (tl_in (by decide) (by decide)) dX6_set_27 (fun H locs hP hD hS => ?_)
  have hP : va_P D vwCl [(o, .inr (6, [.int 10, .ref ce, .int 1])), (ce, .inl (cy 0, 40, .inl (upd f (0 : Int32).toNatClampNeg p0)))] H := hP
  have hD : va_D A [(o, .inr (6, [.int 10, .ref ce, .int 1])), (ce, .inl (cy 0, 40, .inl (upd f (0 : Int32).toNatClampNeg p0)))] := hD
  generalize (upd f (0 : Int32).toNatClampNeg p0) = f_5 at hP hD
  have hP9 := hP.sub (ws' := [(o, .inr (6, [.int 10, .ref ce, .int 1])), (ce, .inl (cy 0, 40, .inl f_5))]) [0, 1] rfl
  have hD9 := hD.sub (ws' := [(o, .inr (6, [.int 10, .ref ce, .int 1])), (ce, .inl (cy 0, 40, .inl f_5))]) [0, 1] (by decide) rfl
  exact W.vret hx hb hr (fun t ht hW => ⟨⟨f_5, rfl, trivial, by rw [ht]; exact hP9, hD9⟩, hS.F ht⟩) hS.2.2 dX6_set_28
set_option maxHeartbeats 4000000 in
set_option maxRecDepth 100000 in
theorem c_X6_set_10_1 (l : Launch) (D : va_G) (cy : Nat → ClassId) (sz : Nat) (o : Nat) (p0 : Int32) (ce : Nat) (f : Nat → Int32)  : Met l yX6_set (tl_w yX6_set cX6_set 4 none) ({ frames := 1, cells := 0, slots := 0, locals := 21 }) (va_Pc [.ref o, .int 0, .int 1, .int p0] (tl_P D cy [(o, .inr (6, [.int 10, .ref ce, .int 1])), (ce, .inl (cy 0, 40, .inl f))] sz)) (va_Qv (fun (u : Nat → Int32) => True) (tl_B D (va_A [(o, .inr (6, [.int 10, .ref ce, .int 1])), (ce, .inl (cy 0, 40, .inl f))] sz) (fun u : Nat → Int32 => [(o, .inr (6, [.int 10, .ref ce, .int 1])), (ce, .inl (cy 0, 40, .inl u))])) (va_A [(o, .inr (6, [.int 10, .ref ce, .int 1])), (ce, .inl (cy 0, 40, .inl f))] sz)) 0 0 (va_A [(o, .inr (6, [.int 10, .ref ce, .int 1])), (ce, .inl (cy 0, 40, .inl f))] sz) := by
  refine Met.ofW (cc := cX6_set) (maxL := 4) (ret := none) (by decide) rfl ?_
  intro p e s m args below meth c s₁ B hml hv
  obtain ⟨rfl, hsz, hP, hK, hD0, hN⟩ := hv
  have hx := B.exec
  have hb := B.bytes
  have hr := B.returns
  have hta := tl_hta (atoms_spec (ws := tl_w yX6_set cX6_set 4 none) B.pre)
  have hown : s.vm.findClass RX6 = some m.cls := findClass_of_methodNamed B.named
  have hlocks := B.notSynchronized
  subst hsz
  have hD := hD0.self (sz := s.heap.size)
  generalize hAe : va_A [(o, .inr (6, [.int 10, .ref ce, .int 1])), (ce, .inl (cy 0, 40, .inl f))] s.heap.size = A at hD ⊢
  have hA : ∀ q : Nat, s.heap.size ≤ q → A q := fun q h => by rw [← hAe]; exact Or.inr h
  have hS : va_S A s.heap s.heap [] := va_S.rf
  have hP : va_P D vwCl [(o, .inr (6, [.int 10, .ref ce, .int 1])), (ce, .inl (cy 0, 40, .inl f))] s.heap := hP
  have hl := lv_entry ([.ref o, .int 0, .int 1, .int p0]) (n := 4) (Nat.le_of_ble_eq_true rfl)
  rw [lg_entry_eq]
  generalize (lg_sl ([.ref o, .int 0, .int 1, .int p0]) ++ List.replicate (4 - (lg_sl ([.ref o, .int 0, .int 1, .int p0])).length) Slot.unset).toArray = ls at hl ⊢
  have hl : lv_has ls 4 [(0, .ref o), (1, .int 0), (2, .int 1), (3, .int p0)] := hl
  refine lv_aload_n hx hb dX6_set_0 rfl (lv_at hl 0 rfl) ?_
  refine lv_iload_n hx hb dX6_set_1 rfl (lv_at hl 1 rfl) ?_
  have hPc := hP.sub (ws' := [(o, .inr (6, [.int 10, .ref ce, .int 1]))]) [0] rfl
  have hDc := hD.sub (ws' := [(o, .inr (6, [.int 10, .ref ce, .int 1]))]) [0] (by decide) rfl
  refine tl_si (tl_rV (As := [.int 0]) (rest := []) ⟨hx, hb, hml, hown, hta⟩ hK hN hPc hDc (ci := 6) rfl 0 rfl lk_X6_32 (c_X6_has1 l D cy s.heap.size o 10 ce ) rfl rfl ⟨Nat.le_of_ble_eq_true rfl, Nat.le_of_ble_eq_true rfl⟩ rfl hl.1 rfl (Nat.le_of_ble_eq_true rfl) dX6_set_2 ⟨Nat.le_of_ble_eq_true rfl, Nat.le_of_ble_eq_true rfl⟩) (fun r_2 hw_1 => ?_)
  subst hw_1
  refine lv_if_eq (tgt := 28) hx hb dX6_set_5 (by decide) (fun c => absurd c (by decide)) (fun _ => ?_)
  refine lv_iload_n hx hb dX6_set_8 rfl (lv_at hl 2 rfl) ?_
  refine lv_if_lt (tgt := 28) hx hb dX6_set_9 (by decide) (fun c => absurd c (by decide)) (fun _ => ?_)
  refine lv_iload_n hx hb dX6_set_12 rfl (lv_at hl 2 rfl) ?_
  refine lv_iconst (v := 4) hx hb dX6_set_13 (by decide) ?_
  refine lv_icmp_ge (tgt := 28) hx hb dX6_set_14 (by decide) (fun c => absurd c (by decide)) (fun _ => ?_)
  refine lv_aload_n hx hb dX6_set_17 rfl (lv_at hl 0 rfl) ?_
  refine va_get (D := D) (ci := 6) (v := .ref ce) (C := RX6) (T := TX6) (N := 3) hx hb hta inlX6 hown hK hP 0 rfl rfl 1 (by decide) (hta _ wk_86) (fun _ h9 => h9) rfl dX6_set_18 ?_
  refine lv_iload_n hx hb dX6_set_21 rfl (lv_at hl 1 rfl) ?_
  refine lv_iconst (v := 4) hx hb dX6_set_22 (by decide) ?_
  refine lv_imul hx hb dX6_set_23 ?_
  refine lv_topi (fun z_3 ez_3 => ?_)
  obtain rfl : z_3 = (0 : Int32) := ez_3.trans (by decide)
  refine lv_iload_n hx hb dX6_set_24 rfl (lv_at hl 2 rfl) ?_
  refine lv_iadd hx hb dX6_set_25 ?_
  refine lv_topi (fun z_4 ez_4 => ?_)
  obtain rfl : z_4 = (1 : Int32) := ez_4.trans (by decide)
  refine lv_iload_n hx hb dX6_set_26 rfl (lv_at hl 3 rfl) ?_
  refine va_iast (D := D) hx hb hK hP hD hS 1 0 rfl rfl (tl_in (by decide) (by decide)) dX6_set_27 (fun H locs hP hD hS => ?_)
  have hP : va_P D vwCl [(o, .inr (6, [.int 10, .ref ce, .int 1])), (ce, .inl (cy 0, 40, .inl (upd f (1 : Int32).toNatClampNeg p0)))] H := hP
  have hD : va_D A [(o, .inr (6, [.int 10, .ref ce, .int 1])), (ce, .inl (cy 0, 40, .inl (upd f (1 : Int32).toNatClampNeg p0)))] := hD
  generalize (upd f (1 : Int32).toNatClampNeg p0) = f_5 at hP hD
  have hP9 := hP.sub (ws' := [(o, .inr (6, [.int 10, .ref ce, .int 1])), (ce, .inl (cy 0, 40, .inl f_5))]) [0, 1] rfl
  have hD9 := hD.sub (ws' := [(o, .inr (6, [.int 10, .ref ce, .int 1])), (ce, .inl (cy 0, 40, .inl f_5))]) [0, 1] (by decide) rfl
  exact W.vret hx hb hr (fun t ht hW => ⟨⟨f_5, rfl, trivial, by rw [ht]; exact hP9, hD9⟩, hS.F ht⟩) hS.2.2 dX6_set_28
set_option maxHeartbeats 4000000 in
set_option maxRecDepth 100000 in
theorem c_X6_set_10_2 (l : Launch) (D : va_G) (cy : Nat → ClassId) (sz : Nat) (o : Nat) (p0 : Int32) (ce : Nat) (f : Nat → Int32)  : Met l yX6_set (tl_w yX6_set cX6_set 4 none) ({ frames := 1, cells := 0, slots := 0, locals := 21 }) (va_Pc [.ref o, .int 0, .int 2, .int p0] (tl_P D cy [(o, .inr (6, [.int 10, .ref ce, .int 1])), (ce, .inl (cy 0, 40, .inl f))] sz)) (va_Qv (fun (u : Nat → Int32) => True) (tl_B D (va_A [(o, .inr (6, [.int 10, .ref ce, .int 1])), (ce, .inl (cy 0, 40, .inl f))] sz) (fun u : Nat → Int32 => [(o, .inr (6, [.int 10, .ref ce, .int 1])), (ce, .inl (cy 0, 40, .inl u))])) (va_A [(o, .inr (6, [.int 10, .ref ce, .int 1])), (ce, .inl (cy 0, 40, .inl f))] sz)) 0 0 (va_A [(o, .inr (6, [.int 10, .ref ce, .int 1])), (ce, .inl (cy 0, 40, .inl f))] sz) := by
  refine Met.ofW (cc := cX6_set) (maxL := 4) (ret := none) (by decide) rfl ?_
  intro p e s m args below meth c s₁ B hml hv
  obtain ⟨rfl, hsz, hP, hK, hD0, hN⟩ := hv
  have hx := B.exec
  have hb := B.bytes
  have hr := B.returns
  have hta := tl_hta (atoms_spec (ws := tl_w yX6_set cX6_set 4 none) B.pre)
  have hown : s.vm.findClass RX6 = some m.cls := findClass_of_methodNamed B.named
  have hlocks := B.notSynchronized
  subst hsz
  have hD := hD0.self (sz := s.heap.size)
  generalize hAe : va_A [(o, .inr (6, [.int 10, .ref ce, .int 1])), (ce, .inl (cy 0, 40, .inl f))] s.heap.size = A at hD ⊢
  have hA : ∀ q : Nat, s.heap.size ≤ q → A q := fun q h => by rw [← hAe]; exact Or.inr h
  have hS : va_S A s.heap s.heap [] := va_S.rf
  have hP : va_P D vwCl [(o, .inr (6, [.int 10, .ref ce, .int 1])), (ce, .inl (cy 0, 40, .inl f))] s.heap := hP
  have hl := lv_entry ([.ref o, .int 0, .int 2, .int p0]) (n := 4) (Nat.le_of_ble_eq_true rfl)
  rw [lg_entry_eq]
  generalize (lg_sl ([.ref o, .int 0, .int 2, .int p0]) ++ List.replicate (4 - (lg_sl ([.ref o, .int 0, .int 2, .int p0])).length) Slot.unset).toArray = ls at hl ⊢
  have hl : lv_has ls 4 [(0, .ref o), (1, .int 0), (2, .int 2), (3, .int p0)] := hl
  refine lv_aload_n hx hb dX6_set_0 rfl (lv_at hl 0 rfl) ?_
  refine lv_iload_n hx hb dX6_set_1 rfl (lv_at hl 1 rfl) ?_
  have hPc := hP.sub (ws' := [(o, .inr (6, [.int 10, .ref ce, .int 1]))]) [0] rfl
  have hDc := hD.sub (ws' := [(o, .inr (6, [.int 10, .ref ce, .int 1]))]) [0] (by decide) rfl
  refine tl_si (tl_rV (As := [.int 0]) (rest := []) ⟨hx, hb, hml, hown, hta⟩ hK hN hPc hDc (ci := 6) rfl 0 rfl lk_X6_32 (c_X6_has1 l D cy s.heap.size o 10 ce ) rfl rfl ⟨Nat.le_of_ble_eq_true rfl, Nat.le_of_ble_eq_true rfl⟩ rfl hl.1 rfl (Nat.le_of_ble_eq_true rfl) dX6_set_2 ⟨Nat.le_of_ble_eq_true rfl, Nat.le_of_ble_eq_true rfl⟩) (fun r_2 hw_1 => ?_)
  subst hw_1
  refine lv_if_eq (tgt := 28) hx hb dX6_set_5 (by decide) (fun c => absurd c (by decide)) (fun _ => ?_)
  refine lv_iload_n hx hb dX6_set_8 rfl (lv_at hl 2 rfl) ?_
  refine lv_if_lt (tgt := 28) hx hb dX6_set_9 (by decide) (fun c => absurd c (by decide)) (fun _ => ?_)
  refine lv_iload_n hx hb dX6_set_12 rfl (lv_at hl 2 rfl) ?_
  refine lv_iconst (v := 4) hx hb dX6_set_13 (by decide) ?_
  refine lv_icmp_ge (tgt := 28) hx hb dX6_set_14 (by decide) (fun c => absurd c (by decide)) (fun _ => ?_)
  refine lv_aload_n hx hb dX6_set_17 rfl (lv_at hl 0 rfl) ?_
  refine va_get (D := D) (ci := 6) (v := .ref ce) (C := RX6) (T := TX6) (N := 3) hx hb hta inlX6 hown hK hP 0 rfl rfl 1 (by decide) (hta _ wk_86) (fun _ h9 => h9) rfl dX6_set_18 ?_
  refine lv_iload_n hx hb dX6_set_21 rfl (lv_at hl 1 rfl) ?_
  refine lv_iconst (v := 4) hx hb dX6_set_22 (by decide) ?_
  refine lv_imul hx hb dX6_set_23 ?_
  refine lv_topi (fun z_3 ez_3 => ?_)
  obtain rfl : z_3 = (0 : Int32) := ez_3.trans (by decide)
  refine lv_iload_n hx hb dX6_set_24 rfl (lv_at hl 2 rfl) ?_
  refine lv_iadd hx hb dX6_set_25 ?_
  refine lv_topi (fun z_4 ez_4 => ?_)
  obtain rfl : z_4 = (2 : Int32) := ez_4.trans (by decide)
  refine lv_iload_n hx hb dX6_set_26 rfl (lv_at hl 3 rfl) ?_
  refine va_iast (D := D) hx hb hK hP hD hS 1 0 rfl rfl (tl_in (by decide) (by decide)) dX6_set_27 (fun H locs hP hD hS => ?_)
  have hP : va_P D vwCl [(o, .inr (6, [.int 10, .ref ce, .int 1])), (ce, .inl (cy 0, 40, .inl (upd f (2 : Int32).toNatClampNeg p0)))] H := hP
  have hD : va_D A [(o, .inr (6, [.int 10, .ref ce, .int 1])), (ce, .inl (cy 0, 40, .inl (upd f (2 : Int32).toNatClampNeg p0)))] := hD
  generalize (upd f (2 : Int32).toNatClampNeg p0) = f_5 at hP hD
  have hP9 := hP.sub (ws' := [(o, .inr (6, [.int 10, .ref ce, .int 1])), (ce, .inl (cy 0, 40, .inl f_5))]) [0, 1] rfl
  have hD9 := hD.sub (ws' := [(o, .inr (6, [.int 10, .ref ce, .int 1])), (ce, .inl (cy 0, 40, .inl f_5))]) [0, 1] (by decide) rfl
  exact W.vret hx hb hr (fun t ht hW => ⟨⟨f_5, rfl, trivial, by rw [ht]; exact hP9, hD9⟩, hS.F ht⟩) hS.2.2 dX6_set_28
set_option maxHeartbeats 4000000 in
set_option maxRecDepth 100000 in
theorem c_X6_set_10_3 (l : Launch) (D : va_G) (cy : Nat → ClassId) (sz : Nat) (o : Nat) (p0 : Int32) (ce : Nat) (f : Nat → Int32)  : Met l yX6_set (tl_w yX6_set cX6_set 4 none) ({ frames := 1, cells := 0, slots := 0, locals := 21 }) (va_Pc [.ref o, .int 0, .int 3, .int p0] (tl_P D cy [(o, .inr (6, [.int 10, .ref ce, .int 1])), (ce, .inl (cy 0, 40, .inl f))] sz)) (va_Qv (fun (u : Nat → Int32) => True) (tl_B D (va_A [(o, .inr (6, [.int 10, .ref ce, .int 1])), (ce, .inl (cy 0, 40, .inl f))] sz) (fun u : Nat → Int32 => [(o, .inr (6, [.int 10, .ref ce, .int 1])), (ce, .inl (cy 0, 40, .inl u))])) (va_A [(o, .inr (6, [.int 10, .ref ce, .int 1])), (ce, .inl (cy 0, 40, .inl f))] sz)) 0 0 (va_A [(o, .inr (6, [.int 10, .ref ce, .int 1])), (ce, .inl (cy 0, 40, .inl f))] sz) := by
  refine Met.ofW (cc := cX6_set) (maxL := 4) (ret := none) (by decide) rfl ?_
  intro p e s m args below meth c s₁ B hml hv
  obtain ⟨rfl, hsz, hP, hK, hD0, hN⟩ := hv
  have hx := B.exec
  have hb := B.bytes
  have hr := B.returns
  have hta := tl_hta (atoms_spec (ws := tl_w yX6_set cX6_set 4 none) B.pre)
  have hown : s.vm.findClass RX6 = some m.cls := findClass_of_methodNamed B.named
  have hlocks := B.notSynchronized
  subst hsz
  have hD := hD0.self (sz := s.heap.size)
  generalize hAe : va_A [(o, .inr (6, [.int 10, .ref ce, .int 1])), (ce, .inl (cy 0, 40, .inl f))] s.heap.size = A at hD ⊢
  have hA : ∀ q : Nat, s.heap.size ≤ q → A q := fun q h => by rw [← hAe]; exact Or.inr h
  have hS : va_S A s.heap s.heap [] := va_S.rf
  have hP : va_P D vwCl [(o, .inr (6, [.int 10, .ref ce, .int 1])), (ce, .inl (cy 0, 40, .inl f))] s.heap := hP
  have hl := lv_entry ([.ref o, .int 0, .int 3, .int p0]) (n := 4) (Nat.le_of_ble_eq_true rfl)
  rw [lg_entry_eq]
  generalize (lg_sl ([.ref o, .int 0, .int 3, .int p0]) ++ List.replicate (4 - (lg_sl ([.ref o, .int 0, .int 3, .int p0])).length) Slot.unset).toArray = ls at hl ⊢
  have hl : lv_has ls 4 [(0, .ref o), (1, .int 0), (2, .int 3), (3, .int p0)] := hl
  refine lv_aload_n hx hb dX6_set_0 rfl (lv_at hl 0 rfl) ?_
  refine lv_iload_n hx hb dX6_set_1 rfl (lv_at hl 1 rfl) ?_
  have hPc := hP.sub (ws' := [(o, .inr (6, [.int 10, .ref ce, .int 1]))]) [0] rfl
  have hDc := hD.sub (ws' := [(o, .inr (6, [.int 10, .ref ce, .int 1]))]) [0] (by decide) rfl
  refine tl_si (tl_rV (As := [.int 0]) (rest := []) ⟨hx, hb, hml, hown, hta⟩ hK hN hPc hDc (ci := 6) rfl 0 rfl lk_X6_32 (c_X6_has1 l D cy s.heap.size o 10 ce ) rfl rfl ⟨Nat.le_of_ble_eq_true rfl, Nat.le_of_ble_eq_true rfl⟩ rfl hl.1 rfl (Nat.le_of_ble_eq_true rfl) dX6_set_2 ⟨Nat.le_of_ble_eq_true rfl, Nat.le_of_ble_eq_true rfl⟩) (fun r_2 hw_1 => ?_)
  subst hw_1
  refine lv_if_eq (tgt := 28) hx hb dX6_set_5 (by decide) (fun c => absurd c (by decide)) (fun _ => ?_)
  refine lv_iload_n hx hb dX6_set_8 rfl (lv_at hl 2 rfl) ?_
  refine lv_if_lt (tgt := 28) hx hb dX6_set_9 (by decide) (fun c => absurd c (by decide)) (fun _ => ?_)
  refine lv_iload_n hx hb dX6_set_12 rfl (lv_at hl 2 rfl) ?_
  refine lv_iconst (v := 4) hx hb dX6_set_13 (by decide) ?_
  refine lv_icmp_ge (tgt := 28) hx hb dX6_set_14 (by decide) (fun c => absurd c (by decide)) (fun _ => ?_)
  refine lv_aload_n hx hb dX6_set_17 rfl (lv_at hl 0 rfl) ?_
  refine va_get (D := D) (ci := 6) (v := .ref ce) (C := RX6) (T := TX6) (N := 3) hx hb hta inlX6 hown hK hP 0 rfl rfl 1 (by decide) (hta _ wk_86) (fun _ h9 => h9) rfl dX6_set_18 ?_
  refine lv_iload_n hx hb dX6_set_21 rfl (lv_at hl 1 rfl) ?_
  refine lv_iconst (v := 4) hx hb dX6_set_22 (by decide) ?_
  refine lv_imul hx hb dX6_set_23 ?_
  refine lv_topi (fun z_3 ez_3 => ?_)
  obtain rfl : z_3 = (0 : Int32) := ez_3.trans (by decide)
  refine lv_iload_n hx hb dX6_set_24 rfl (lv_at hl 2 rfl) ?_
  refine lv_iadd hx hb dX6_set_25 ?_
  refine lv_topi (fun z_4 ez_4 => ?_)
  obtain rfl : z_4 = (3 : Int32) := ez_4.trans (by decide)
  refine lv_iload_n hx hb dX6_set_26 rfl (lv_at hl 3 rfl) ?_
  refine va_iast (D := D) hx hb hK hP hD hS 1 0 rfl rfl (tl_in (by decide) (by decide)) dX6_set_27 (fun H locs hP hD hS => ?_)
  have hP : va_P D vwCl [(o, .inr (6, [.int 10, .ref ce, .int 1])), (ce, .inl (cy 0, 40, .inl (upd f (3 : Int32).toNatClampNeg p0)))] H := hP
  have hD : va_D A [(o, .inr (6, [.int 10, .ref ce, .int 1])), (ce, .inl (cy 0, 40, .inl (upd f (3 : Int32).toNatClampNeg p0)))] := hD
  generalize (upd f (3 : Int32).toNatClampNeg p0) = f_5 at hP hD
  have hP9 := hP.sub (ws' := [(o, .inr (6, [.int 10, .ref ce, .int 1])), (ce, .inl (cy 0, 40, .inl f_5))]) [0, 1] rfl
  have hD9 := hD.sub (ws' := [(o, .inr (6, [.int 10, .ref ce, .int 1])), (ce, .inl (cy 0, 40, .inl f_5))]) [0, 1] (by decide) rfl
  exact W.vret hx hb hr (fun t ht hW => ⟨⟨f_5, rfl, trivial, by rw [ht]; exact hP9, hD9⟩, hS.F ht⟩) hS.2.2 dX6_set_28
set_option maxHeartbeats 4000000 in
set_option maxRecDepth 100000 in
theorem c_X6_add_10 (l : Launch) (D : va_G) (cy : Nat → ClassId) (sz : Nat) (o : Nat) (p0 : Int32) (p1 : Int32) (p2 : Int32) (p3 : Int32) (ce : Nat) (f : Nat → Int32)  : Met l yX6_add (tl_w yX6_add cX6_add 6 (some .int)) ({ frames := 2, cells := 0, slots := 0, locals := 44 }) (va_Pc [.ref o, .int p0, .int p1, .int p2, .int p3] (tl_P D cy [(o, .inr (6, [.int 10, .ref ce, .int 0])), (ce, .inl (cy 0, 40, .inl f))] sz)) (va_Qi (fun (r : Int32) (u : Unit) => r = 0) (tl_B D (va_A [(o, .inr (6, [.int 10, .ref ce, .int 0])), (ce, .inl (cy 0, 40, .inl f))] sz) (fun u : Unit => [(o, .inr (6, [.int 10, .ref ce, .int 1]))])) (va_A [(o, .inr (6, [.int 10, .ref ce, .int 0])), (ce, .inl (cy 0, 40, .inl f))] sz)) 0 0 (va_A [(o, .inr (6, [.int 10, .ref ce, .int 0])), (ce, .inl (cy 0, 40, .inl f))] sz) := by
  refine Met.ofW (cc := cX6_add) (maxL := 6) (ret := (some .int)) (by decide) rfl ?_
  intro p e s m args below meth c s₁ B hml hv
  obtain ⟨rfl, hsz, hP, hK, hD0, hN⟩ := hv
  have hx := B.exec
  have hb := B.bytes
  have hr := B.returns
  have hta := tl_hta (atoms_spec (ws := tl_w yX6_add cX6_add 6 (some .int)) B.pre)
  have hown : s.vm.findClass RX6 = some m.cls := findClass_of_methodNamed B.named
  have hlocks := B.notSynchronized
  subst hsz
  have hD := hD0.self (sz := s.heap.size)
  generalize hAe : va_A [(o, .inr (6, [.int 10, .ref ce, .int 0])), (ce, .inl (cy 0, 40, .inl f))] s.heap.size = A at hD ⊢
  have hA : ∀ q : Nat, s.heap.size ≤ q → A q := fun q h => by rw [← hAe]; exact Or.inr h
  have hS : va_S A s.heap s.heap [] := va_S.rf
  have hP : va_P D vwCl [(o, .inr (6, [.int 10, .ref ce, .int 0])), (ce, .inl (cy 0, 40, .inl f))] s.heap := hP
  have hl := lv_entry ([.ref o, .int p0, .int p1, .int p2, .int p3]) (n := 6) (Nat.le_of_ble_eq_true rfl)
  rw [lg_entry_eq]
  generalize (lg_sl ([.ref o, .int p0, .int p1, .int p2, .int p3]) ++ List.replicate (6 - (lg_sl ([.ref o, .int p0, .int p1, .int p2, .int p3])).length) Slot.unset).toArray = ls at hl ⊢
  have hl : lv_has ls 6 [(0, .ref o), (1, .int p0), (2, .int p1), (3, .int p2), (4, .int p3)] := hl
  refine lv_aload_n hx hb dX6_add_0 rfl (lv_at hl 0 rfl) ?_
  refine va_get (D := D) (ci := 6) (v := .int 0) (C := RX6) (T := TX6) (N := 3) hx hb hta inlX6 hown hK hP 0 rfl rfl 2 (by decide) (hta _ wk_266) (fun _ h9 => h9) rfl dX6_add_1 ?_
  refine lv_aload_n hx hb dX6_add_4 rfl (lv_at hl 0 rfl) ?_
  refine va_get (D := D) (ci := 6) (v := .int 10) (C := RX6) (T := TX6) (N := 3) hx hb hta inlX6 hown hK hP 0 rfl rfl 0 (by decide) (hta _ wk_85) (fun _ h9 => h9) rfl dX6_add_5 ?_
  refine lv_icmp_lt (tgt := 13) hx hb dX6_add_8 (by decide) (fun _ => ?_) (fun c => absurd c (by decide))
  refine lv_aload_n hx hb dX6_add_13 rfl (lv_at hl 0 rfl) ?_
  refine va_get (D := D) (ci := 6) (v := .int 0) (C := RX6) (T := TX6) (N := 3) hx hb hta inlX6 hown hK hP 0 rfl rfl 2 (by decide) (hta _ wk_266) (fun _ h9 => h9) rfl dX6_add_14 ?_
  refine lv_istore (lv' := [(5, .int 0), (0, .ref o), (1, .int p0), (2, .int p1), (3, .int p2), (4, .int p3)]) hx hb dX6_add_17 hl (by decide) rfl (fun ls hl => ?_)
  refine lv_aload_n hx hb dX6_add_19 rfl (lv_at hl 1 rfl) ?_
  refine lv_dup hx hb dX6_add_20 rfl ?_
  refine va_get (D := D) (ci := 6) (v := .int 0) (C := RX6) (T := TX6) (N := 3) hx hb hta inlX6 hown hK hP 0 rfl rfl 2 (by decide) (hta _ wk_266) (fun _ h9 => h9) rfl dX6_add_21 ?_
  refine lv_iconst (v := 1) hx hb dX6_add_24 (by decide) ?_
  refine lv_iadd hx hb dX6_add_25 ?_
  refine lv_topi (fun z_1 ez_1 => ?_)
  obtain rfl : z_1 = (1 : Int32) := ez_1.trans (by decide)
  refine va_put (D := D) (ci := 6) (v := .int 1) (ty := tyX6 2) (C := RX6) (T := TX6) (N := 3) hx hb hta inlX6 tyX6 tyX6_ok nmX6 hown hK hP hD hS 0 rfl rfl 2 (by decide) (hta _ wk_266) (fun _ h9 => h9) rfl (tyX6_ok 2 (by decide)) rfl rfl (Nat.le_of_ble_eq_true rfl) dX6_add_26 (fun H locs hP hD hS => ?_)
  have hP : va_P D vwCl [(o, .inr (6, [.int 10, .ref ce, .int 1])), (ce, .inl (cy 0, 40, .inl f))] H := hP
  have hD : va_D A [(o, .inr (6, [.int 10, .ref ce, .int 1])), (ce, .inl (cy 0, 40, .inl f))] := hD
  refine lv_aload_n hx hb dX6_add_29 rfl (lv_at hl 1 rfl) ?_
  refine lv_iload hx hb dX6_add_30 (lv_at hl 0 rfl) ?_
  refine lv_iconst (v := 0) hx hb dX6_add_32 (by decide) ?_
  refine lv_iload_n hx hb dX6_add_33 rfl (lv_at hl 2 rfl) ?_
  refine tl_cv (wr := []) _ _ hP hD hS hA [0, 1] [] rfl rfl (by decide) (by decide) (tl_rV (As := [.int 0, .int 0, .int p0]) (rest := []) ⟨hx, hb, hml, hown, hta⟩ hK hN hP hD (ci := 6) rfl 0 rfl lk_X6_28 (c_X6_set_10_0 l D cy H.size o p0 ce f ) rfl rfl ⟨Nat.le_of_ble_eq_true rfl, Nat.le_of_ble_eq_true rfl⟩ rfl hl.1 rfl (Nat.le_of_ble_eq_true rfl) dX6_add_34 ⟨Nat.le_of_ble_eq_true rfl, Nat.le_of_ble_eq_true rfl⟩) (fun u_4 H locs hw_2 hP hD hS => ?_)
  have hP : va_P D vwCl [(o, .inr (6, [.int 10, .ref ce, .int 1])), (ce, .inl (cy 0, 40, .inl u_4))] H := hP
  have hD : va_D A [(o, .inr (6, [.int 10, .ref ce, .int 1])), (ce, .inl (cy 0, 40, .inl u_4))] := hD
  refine W.widen (k := 0) (n := 0) (Nat.le_refl _) (Nat.le_refl _) ?_
  refine lv_aload_n hx hb dX6_add_37 rfl (lv_at hl 1 rfl) ?_
  refine lv_iload hx hb dX6_add_38 (lv_at hl 0 rfl) ?_
  refine lv_iconst (v := 1) hx hb dX6_add_40 (by decide) ?_
  refine lv_iload_n hx hb dX6_add_41 rfl (lv_at hl 3 rfl) ?_
  refine tl_cv (wr := []) _ _ hP hD hS hA [0, 1] [] rfl rfl (by decide) (by decide) (tl_rV (As := [.int 0, .int 1, .int p1]) (rest := []) ⟨hx, hb, hml, hown, hta⟩ hK hN hP hD (ci := 6) rfl 0 rfl lk_X6_28 (c_X6_set_10_1 l D cy H.size o p1 ce u_4 ) rfl rfl ⟨Nat.le_of_ble_eq_true rfl, Nat.le_of_ble_eq_true rfl⟩ rfl hl.1 rfl (Nat.le_of_ble_eq_true rfl) dX6_add_42 ⟨Nat.le_of_ble_eq_true rfl, Nat.le_of_ble_eq_true rfl⟩) (fun u_7 H locs hw_5 hP hD hS => ?_)
  have hP : va_P D vwCl [(o, .inr (6, [.int 10, .ref ce, .int 1])), (ce, .inl (cy 0, 40, .inl u_7))] H := hP
  have hD : va_D A [(o, .inr (6, [.int 10, .ref ce, .int 1])), (ce, .inl (cy 0, 40, .inl u_7))] := hD
  refine W.widen (k := 0) (n := 0) (Nat.le_refl _) (Nat.le_refl _) ?_
  refine lv_aload_n hx hb dX6_add_45 rfl (lv_at hl 1 rfl) ?_
  refine lv_iload hx hb dX6_add_46 (lv_at hl 0 rfl) ?_
  refine lv_iconst (v := 2) hx hb dX6_add_48 (by decide) ?_
  refine lv_iload_n hx hb dX6_add_49 rfl (lv_at hl 4 rfl) ?_
  refine tl_cv (wr := []) _ _ hP hD hS hA [0, 1] [] rfl rfl (by decide) (by decide) (tl_rV (As := [.int 0, .int 2, .int p2]) (rest := []) ⟨hx, hb, hml, hown, hta⟩ hK hN hP hD (ci := 6) rfl 0 rfl lk_X6_28 (c_X6_set_10_2 l D cy H.size o p2 ce u_7 ) rfl rfl ⟨Nat.le_of_ble_eq_true rfl, Nat.le_of_ble_eq_true rfl⟩ rfl hl.1 rfl (Nat.le_of_ble_eq_true rfl) dX6_add_50 ⟨Nat.le_of_ble_eq_true rfl, Nat.le_of_ble_eq_true rfl⟩) (fun u_10 H locs hw_8 hP hD hS => ?_)
  have hP : va_P D vwCl [(o, .inr (6, [.int 10, .ref ce, .int 1])), (ce, .inl (cy 0, 40, .inl u_10))] H := hP
  have hD : va_D A [(o, .inr (6, [.int 10, .ref ce, .int 1])), (ce, .inl (cy 0, 40, .inl u_10))] := hD
  refine W.widen (k := 0) (n := 0) (Nat.le_refl _) (Nat.le_refl _) ?_
  refine lv_aload_n hx hb dX6_add_53 rfl (lv_at hl 1 rfl) ?_
  refine lv_iload hx hb dX6_add_54 (lv_at hl 0 rfl) ?_
  refine lv_iconst (v := 3) hx hb dX6_add_56 (by decide) ?_
  refine lv_iload hx hb dX6_add_57 (lv_at hl 5 rfl) ?_
  refine tl_cv (wr := []) _ _ hP hD hS hA [0, 1] [] rfl rfl (by decide) (by decide) (tl_rV (As := [.int 0, .int 3, .int p3]) (rest := []) ⟨hx, hb, hml, hown, hta⟩ hK hN hP hD (ci := 6) rfl 0 rfl lk_X6_28 (c_X6_set_10_3 l D cy H.size o p3 ce u_10 ) rfl rfl ⟨Nat.le_of_ble_eq_true rfl, Nat.le_of_ble_eq_true rfl⟩ rfl hl.1 rfl (Nat.le_of_ble_eq_true rfl) dX6_add_59 ⟨Nat.le_of_ble_eq_true rfl, Nat.le_of_ble_eq_true rfl⟩) (fun u_13 H locs hw_11 hP hD hS => ?_)
  have hP : va_P D vwCl [(o, .inr (6, [.int 10, .ref ce, .int 1])), (ce, .inl (cy 0, 40, .inl u_13))] H := hP
  have hD : va_D A [(o, .inr (6, [.int 10, .ref ce, .int 1])), (ce, .inl (cy 0, 40, .inl u_13))] := hD
  refine W.widen (k := 0) (n := 0) (Nat.le_refl _) (Nat.le_refl _) ?_
  refine lv_iload hx hb dX6_add_62 (lv_at hl 0 rfl) ?_
  have hP9 := hP.sub (ws' := [(o, .inr (6, [.int 10, .ref ce, .int 1]))]) [0] rfl
  have hD9 := hD.sub (ws' := [(o, .inr (6, [.int 10, .ref ce, .int 1]))]) [0] (by decide) rfl
  exact W.iret (v := 0) hx hb hr (fun t ht hW => ⟨⟨_, (), rfl, rfl, by rw [ht]; exact hP9, hD9⟩, hS.F ht⟩) hS.2.2 dX6_add_64
set_option maxHeartbeats 4000000 in
set_option maxRecDepth 100000 in
theorem c_X11_candidate (l : Launch) (D : va_G) (cy : Nat → ClassId) (sz : Nat) (x : Nat) (p0 : Int32) (p1 : Int32) (b : Nat) (im : Nat) (la : Nat) (cu : Nat) (wa : Nat) (pa : Nat) (dr : Nat) (su : Nat) (mk : Nat) (vi : Nat) (re : Nat) (rd : Nat) (so : Nat) (fw : Nat) (wo : Nat) (gi : Nat) (to : Nat) (ro : Nat) (sl : Nat) (li : Nat) (ca : Nat) (ho : Nat) (ta : Nat) (ce : Nat)  : Met l yX11_candidate (tl_w yX11_candidate cX11_candidate 3 (some .int)) ({ frames := 3, cells := 0, slots := 0, locals := 69 }) (va_Pc [.ref x, .int p0, .int p1] (tl_P D cy [(x, .inr (11, [.ref b, .ref im, .ref la, .ref cu, .ref wa, .ref pa, .ref dr, .ref su, .ref mk, .ref vi, .ref re, .ref rd, .ref so, .ref fw, .ref wo, .ref gi])), (b, .inr (0, [.int 0, .ref to, .ref ro, .ref sl, .ref li, .ref ca, .ref ho, .ref ta, .int 0])), (ca, .inr (6, [.int 10, .ref ce, .int 0])), (ce, .inl (cy 0, 40, .inl (fun _ => 0)))] sz)) (va_Qi (fun (r : Int32) (u : Unit) => tl_E r (0 ≤ p0.toInt ∧ p0.toInt ≤ 3 ∧ 1 ≤ p1.toInt ∧ p1.toInt ≤ 99) 0 (-1)) (tl_B D (va_A [(x, .inr (11, [.ref b, .ref im, .ref la, .ref cu, .ref wa, .ref pa, .ref dr, .ref su, .ref mk, .ref vi, .ref re, .ref rd, .ref so, .ref fw, .ref wo, .ref gi])), (b, .inr (0, [.int 0, .ref to, .ref ro, .ref sl, .ref li, .ref ca, .ref ho, .ref ta, .int 0])), (ca, .inr (6, [.int 10, .ref ce, .int 0])), (ce, .inl (cy 0, 40, .inl (fun _ => 0)))] sz) (fun u : Unit => [])) (va_A [(x, .inr (11, [.ref b, .ref im, .ref la, .ref cu, .ref wa, .ref pa, .ref dr, .ref su, .ref mk, .ref vi, .ref re, .ref rd, .ref so, .ref fw, .ref wo, .ref gi])), (b, .inr (0, [.int 0, .ref to, .ref ro, .ref sl, .ref li, .ref ca, .ref ho, .ref ta, .int 0])), (ca, .inr (6, [.int 10, .ref ce, .int 0])), (ce, .inl (cy 0, 40, .inl (fun _ => 0)))] sz)) 0 0 (va_A [(x, .inr (11, [.ref b, .ref im, .ref la, .ref cu, .ref wa, .ref pa, .ref dr, .ref su, .ref mk, .ref vi, .ref re, .ref rd, .ref so, .ref fw, .ref wo, .ref gi])), (b, .inr (0, [.int 0, .ref to, .ref ro, .ref sl, .ref li, .ref ca, .ref ho, .ref ta, .int 0])), (ca, .inr (6, [.int 10, .ref ce, .int 0])), (ce, .inl (cy 0, 40, .inl (fun _ => 0)))] sz) := by
  refine Met.ofW (cc := cX11_candidate) (maxL := 3) (ret := (some .int)) (by decide) rfl ?_
  intro p e s m args below meth c s₁ B hml hv
  obtain ⟨rfl, hsz, hP, hK, hD0, hN⟩ := hv
  have hx := B.exec
  have hb := B.bytes
  have hr := B.returns
  have hta := tl_hta (atoms_spec (ws := tl_w yX11_candidate cX11_candidate 3 (some .int)) B.pre)
  have hown : s.vm.findClass RX11 = some m.cls := findClass_of_methodNamed B.named
  have hlocks := B.notSynchronized
  subst hsz
  have hD := hD0.self (sz := s.heap.size)
  generalize hAe : va_A [(x, .inr (11, [.ref b, .ref im, .ref la, .ref cu, .ref wa, .ref pa, .ref dr, .ref su, .ref mk, .ref vi, .ref re, .ref rd, .ref so, .ref fw, .ref wo, .ref gi])), (b, .inr (0, [.int 0, .ref to, .ref ro, .ref sl, .ref li, .ref ca, .ref ho, .ref ta, .int 0])), (ca, .inr (6, [.int 10, .ref ce, .int 0])), (ce, .inl (cy 0, 40, .inl (fun _ => 0)))] s.heap.size = A at hD ⊢
  have hA : ∀ q : Nat, s.heap.size ≤ q → A q := fun q h => by rw [← hAe]; exact Or.inr h
  have hS : va_S A s.heap s.heap [] := va_S.rf
  have hP : va_P D vwCl [(x, .inr (11, [.ref b, .ref im, .ref la, .ref cu, .ref wa, .ref pa, .ref dr, .ref su, .ref mk, .ref vi, .ref re, .ref rd, .ref so, .ref fw, .ref wo, .ref gi])), (b, .inr (0, [.int 0, .ref to, .ref ro, .ref sl, .ref li, .ref ca, .ref ho, .ref ta, .int 0])), (ca, .inr (6, [.int 10, .ref ce, .int 0])), (ce, .inl (cy 0, 40, .inl (fun _ => 0)))] s.heap := hP
  have hl := lv_entry ([.ref x, .int p0, .int p1]) (n := 3) (Nat.le_of_ble_eq_true rfl)
  rw [lg_entry_eq]
  generalize (lg_sl ([.ref x, .int p0, .int p1]) ++ List.replicate (3 - (lg_sl ([.ref x, .int p0, .int p1])).length) Slot.unset).toArray = ls at hl ⊢
  have hl : lv_has ls 3 [(0, .ref x), (1, .int p0), (2, .int p1)] := hl
  refine lv_iload_n hx hb dX11_candidate_0 rfl (lv_at hl 1 rfl) ?_
  have hPc := hP.sub (ws' := []) [] rfl
  have hDc := hD.sub (ws' := []) [] (by decide) rfl
  refine tl_si (tl_rS (As := [.int p0]) (rest := []) ⟨hx, hb, hml, hown, hta⟩ hK hN hPc hDc lk_X11_102 (c_X11_isGlass l D cy s.heap.size p0 ) rfl rfl ⟨Nat.le_of_ble_eq_true rfl, Nat.le_of_ble_eq_true rfl⟩ rfl hl.1 rfl (Nat.le_of_ble_eq_true rfl) dX11_candidate_1 ⟨Nat.le_of_ble_eq_true rfl, Nat.le_of_ble_eq_true rfl⟩) (fun r_2 hw_1 => ?_)
  have hw_1 : tl_E r_2 (0 ≤ p0.toInt ∧ p0.toInt ≤ 3) 1 0 := hw_1
  refine lv_if_eq (tgt := 17) hx hb dX11_candidate_4 (by decide) (fun c_3 => ?_) (fun c_3 => ?_)
  · have c_3 := hw_1.f c_3
    refine lv_iconst (v := (-1)) hx hb dX11_candidate_17 (by decide) ?_
    have hP9 := hP.sub (ws' := []) [] rfl
    have hD9 := hD.sub (ws' := []) [] (by decide) rfl
    have hS : va_S A s.heap s.heap [] := hS
    exact W.iret (v := (-1)) hx hb hr (fun t ht hW => ⟨⟨_, (), rfl, (Or.inr ⟨by omega, rfl⟩), by rw [ht]; exact hP9, hD9⟩, hS.F ht⟩) hS.2.2 dX11_candidate_18
  · have c_3 := hw_1.t c_3
    refine lv_iload_n hx hb dX11_candidate_7 rfl (lv_at hl 2 rfl) ?_
    refine lv_iconst (v := 1) hx hb dX11_candidate_8 (by decide) ?_
    refine lv_bipush (v := 99) hx hb dX11_candidate_9 (by decide) ?_
    have hPc := hP.sub (ws' := []) [] rfl
    have hDc := hD.sub (ws' := []) [] (by decide) rfl
    refine tl_si (tl_rS (As := [.int p1, .int 1, .int 99]) (rest := []) ⟨hx, hb, hml, hown, hta⟩ hK hN hPc hDc lk_X11_105 (c_X11_isIn l D cy s.heap.size p1 1 99 ) rfl rfl ⟨Nat.le_of_ble_eq_true rfl, Nat.le_of_ble_eq_true rfl⟩ rfl hl.1 rfl (Nat.le_of_ble_eq_true rfl) dX11_candidate_11 ⟨Nat.le_of_ble_eq_true rfl, Nat.le_of_ble_eq_true rfl⟩) (fun r_5 hw_4 => ?_)
    have hw_4 : tl_E r_5 ((1 : Int) ≤ p1.toInt ∧ p1.toInt ≤ (99 : Int)) 1 0 := hw_4
    refine lv_if_ne (tgt := 19) hx hb dX11_candidate_14 (by decide) (fun c_6 => ?_) (fun c_6 => ?_)
    · have c_6 := hw_4.t c_6
      refine lv_aload_n hx hb dX11_candidate_19 rfl (lv_at hl 0 rfl) ?_
      refine va_get (D := D) (ci := 11) (v := .ref b) (C := RX11) (T := TX11) (N := 16) hx hb hta inlX11 hown hK hP 0 rfl rfl 0 (by decide) (hta _ wk_15) (fun _ h9 => h9) rfl dX11_candidate_20 ?_
      refine va_getN (D := D) (ci := 0) (v := .ref ca) (C := RX0) (T := TX0) (N := 9) hx hb hta inlX0 hown hK hP 1 rfl rfl 5 (by decide) (va_Nw.use rfl (hN.1 23 _ nk_23)) (fun _ h9 => h9) rfl dX11_candidate_23 ?_
      refine lv_iload_n hx hb dX11_candidate_26 rfl (lv_at hl 1 rfl) ?_
      refine lv_iload_n hx hb dX11_candidate_27 rfl (lv_at hl 2 rfl) ?_
      refine lv_iconst (v := 0) hx hb dX11_candidate_28 (by decide) ?_
      refine lv_iconst (v := 0) hx hb dX11_candidate_29 (by decide) ?_
      have hPc := hP.sub (ws' := [(ca, .inr (6, [.int 10, .ref ce, .int 0])), (ce, .inl (cy 0, 40, .inl (fun _ => 0)))]) [2, 3] rfl
      have hDc := hD.sub (ws' := [(ca, .inr (6, [.int 10, .ref ce, .int 0])), (ce, .inl (cy 0, 40, .inl (fun _ => 0)))]) [2, 3] (by decide) rfl
      refine tl_ci (wr := [(x, .inr (11, [.ref b, .ref im, .ref la, .ref cu, .ref wa, .ref pa, .ref dr, .ref su, .ref mk, .ref vi, .ref re, .ref rd, .ref so, .ref fw, .ref wo, .ref gi])), (b, .inr (0, [.int 0, .ref to, .ref ro, .ref sl, .ref li, .ref ca, .ref ho, .ref ta, .int 0]))]) _ _ hP hD hS hA [2, 3] [0, 1] rfl rfl (by decide) (by decide) (tl_rVN (As := [.int p0, .int p1, .int 0, .int 0]) (rest := []) ⟨hx, hb, hml, hown, hta⟩ hK hN hPc hDc (ci := 6) rfl 0 rfl lk_X11_151 (c_X6_add_10 l D cy s.heap.size ca p0 p1 0 0 ce (fun _ => 0) ) rfl rfl ⟨Nat.le_of_ble_eq_true rfl, Nat.le_of_ble_eq_true rfl⟩ rfl hl.1 rfl (Nat.le_of_ble_eq_true rfl) dX11_candidate_30 ⟨Nat.le_of_ble_eq_true rfl, Nat.le_of_ble_eq_true rfl⟩) (fun r_8 u_9 H locs hw_7 hP hD hS => ?_)
      have hP : va_P D vwCl [(x, .inr (11, [.ref b, .ref im, .ref la, .ref cu, .ref wa, .ref pa, .ref dr, .ref su, .ref mk, .ref vi, .ref re, .ref rd, .ref so, .ref fw, .ref wo, .ref gi])), (b, .inr (0, [.int 0, .ref to, .ref ro, .ref sl, .ref li, .ref ca, .ref ho, .ref ta, .int 0])), (ca, .inr (6, [.int 10, .ref ce, .int 1]))] H := hP
      have hD : va_D A [(x, .inr (11, [.ref b, .ref im, .ref la, .ref cu, .ref wa, .ref pa, .ref dr, .ref su, .ref mk, .ref vi, .ref re, .ref rd, .ref so, .ref fw, .ref wo, .ref gi])), (b, .inr (0, [.int 0, .ref to, .ref ro, .ref sl, .ref li, .ref ca, .ref ho, .ref ta, .int 0])), (ca, .inr (6, [.int 10, .ref ce, .int 1]))] := hD
      refine W.widen (k := 0) (n := 0) (Nat.le_refl _) (Nat.le_refl _) ?_
      subst hw_7
      have hP9 := hP.sub (ws' := []) [] rfl
      have hD9 := hD.sub (ws' := []) [] (by decide) rfl
      exact W.iret (v := 0) hx hb hr (fun t ht hW => ⟨⟨_, (), rfl, (Or.inl ⟨by omega, rfl⟩), by rw [ht]; exact hP9, hD9⟩, hS.F ht⟩) hS.2.2 dX11_candidate_33
    · have c_6 := hw_4.f c_6
      refine lv_iconst (v := (-1)) hx hb dX11_candidate_17 (by decide) ?_
      have hP9 := hP.sub (ws' := []) [] rfl
      have hD9 := hD.sub (ws' := []) [] (by decide) rfl
      have hS : va_S A s.heap s.heap [] := hS
      exact W.iret (v := (-1)) hx hb hr (fun t ht hW => ⟨⟨_, (), rfl, (Or.inr ⟨by omega, rfl⟩), by rw [ht]; exact hP9, hD9⟩, hS.F ht⟩) hS.2.2 dX11_candidate_18
set_option maxHeartbeats 4000000 in
set_option maxRecDepth 100000 in
theorem c_X11_slip (l : Launch) (D : va_G) (cy : Nat → ClassId) (sz : Nat) (x : Nat) (p0 : Int32) (p1 : Int32) (p2 : Int32) (p3 : Int32) (b : Nat) (im : Nat) (la : Nat) (cu : Nat) (wa : Nat) (pa : Nat) (dr : Nat) (su : Nat) (mk : Nat) (vi : Nat) (re : Nat) (rd : Nat) (so : Nat) (fw : Nat) (wo : Nat) (gi : Nat) (to : Nat) (ro : Nat) (sl : Nat) (li : Nat) (ca : Nat) (ho : Nat) (ta : Nat) (ce : Nat)  : Met l yX11_slip (tl_w yX11_slip cX11_slip 5 (some .int)) ({ frames := 3, cells := 0, slots := 0, locals := 69 }) (va_Pc [.ref x, .int p0, .int p1, .int p2, .int p3] (tl_P D cy [(x, .inr (11, [.ref b, .ref im, .ref la, .ref cu, .ref wa, .ref pa, .ref dr, .ref su, .ref mk, .ref vi, .ref re, .ref rd, .ref so, .ref fw, .ref wo, .ref gi])), (b, .inr (0, [.int 0, .ref to, .ref ro, .ref sl, .ref li, .ref ca, .ref ho, .ref ta, .int 0])), (sl, .inr (6, [.int 40, .ref ce, .int 0])), (ce, .inl (cy 0, 160, .inl (fun _ => 0)))] sz)) (va_Qi (fun (r : Int32) (u : Unit) => tl_E r (0 ≤ p0.toInt ∧ p0.toInt ≤ 3 ∧ 0 ≤ p1.toInt ∧ p1.toInt ≤ 299 ∧ 0 ≤ p2.toInt ∧ p2.toInt ≤ 299 ∧ p1.toInt ≤ p2.toInt ∧ -9999 ≤ p3.toInt ∧ p3.toInt ≤ 9999) 0 (-1)) (tl_B D (va_A [(x, .inr (11, [.ref b, .ref im, .ref la, .ref cu, .ref wa, .ref pa, .ref dr, .ref su, .ref mk, .ref vi, .ref re, .ref rd, .ref so, .ref fw, .ref wo, .ref gi])), (b, .inr (0, [.int 0, .ref to, .ref ro, .ref sl, .ref li, .ref ca, .ref ho, .ref ta, .int 0])), (sl, .inr (6, [.int 40, .ref ce, .int 0])), (ce, .inl (cy 0, 160, .inl (fun _ => 0)))] sz) (fun u : Unit => [])) (va_A [(x, .inr (11, [.ref b, .ref im, .ref la, .ref cu, .ref wa, .ref pa, .ref dr, .ref su, .ref mk, .ref vi, .ref re, .ref rd, .ref so, .ref fw, .ref wo, .ref gi])), (b, .inr (0, [.int 0, .ref to, .ref ro, .ref sl, .ref li, .ref ca, .ref ho, .ref ta, .int 0])), (sl, .inr (6, [.int 40, .ref ce, .int 0])), (ce, .inl (cy 0, 160, .inl (fun _ => 0)))] sz)) 0 0 (va_A [(x, .inr (11, [.ref b, .ref im, .ref la, .ref cu, .ref wa, .ref pa, .ref dr, .ref su, .ref mk, .ref vi, .ref re, .ref rd, .ref so, .ref fw, .ref wo, .ref gi])), (b, .inr (0, [.int 0, .ref to, .ref ro, .ref sl, .ref li, .ref ca, .ref ho, .ref ta, .int 0])), (sl, .inr (6, [.int 40, .ref ce, .int 0])), (ce, .inl (cy 0, 160, .inl (fun _ => 0)))] sz) := by
  refine Met.ofW (cc := cX11_slip) (maxL := 5) (ret := (some .int)) (by decide) rfl ?_
  intro p e s m args below meth c s₁ B hml hv
  obtain ⟨rfl, hsz, hP, hK, hD0, hN⟩ := hv
  have hx := B.exec
  have hb := B.bytes
  have hr := B.returns
  have hta := tl_hta (atoms_spec (ws := tl_w yX11_slip cX11_slip 5 (some .int)) B.pre)
  have hown : s.vm.findClass RX11 = some m.cls := findClass_of_methodNamed B.named
  have hlocks := B.notSynchronized
  subst hsz
  have hD := hD0.self (sz := s.heap.size)
  generalize hAe : va_A [(x, .inr (11, [.ref b, .ref im, .ref la, .ref cu, .ref wa, .ref pa, .ref dr, .ref su, .ref mk, .ref vi, .ref re, .ref rd, .ref so, .ref fw, .ref wo, .ref gi])), (b, .inr (0, [.int 0, .ref to, .ref ro, .ref sl, .ref li, .ref ca, .ref ho, .ref ta, .int 0])), (sl, .inr (6, [.int 40, .ref ce, .int 0])), (ce, .inl (cy 0, 160, .inl (fun _ => 0)))] s.heap.size = A at hD ⊢
  have hA : ∀ q : Nat, s.heap.size ≤ q → A q := fun q h => by rw [← hAe]; exact Or.inr h
  have hS : va_S A s.heap s.heap [] := va_S.rf
  have hP : va_P D vwCl [(x, .inr (11, [.ref b, .ref im, .ref la, .ref cu, .ref wa, .ref pa, .ref dr, .ref su, .ref mk, .ref vi, .ref re, .ref rd, .ref so, .ref fw, .ref wo, .ref gi])), (b, .inr (0, [.int 0, .ref to, .ref ro, .ref sl, .ref li, .ref ca, .ref ho, .ref ta, .int 0])), (sl, .inr (6, [.int 40, .ref ce, .int 0])), (ce, .inl (cy 0, 160, .inl (fun _ => 0)))] s.heap := hP
  have hl := lv_entry ([.ref x, .int p0, .int p1, .int p2, .int p3]) (n := 5) (Nat.le_of_ble_eq_true rfl)
  rw [lg_entry_eq]
  generalize (lg_sl ([.ref x, .int p0, .int p1, .int p2, .int p3]) ++ List.replicate (5 - (lg_sl ([.ref x, .int p0, .int p1, .int p2, .int p3])).length) Slot.unset).toArray = ls at hl ⊢
  have hl : lv_has ls 5 [(0, .ref x), (1, .int p0), (2, .int p1), (3, .int p2), (4, .int p3)] := hl
  refine lv_iload_n hx hb dX11_slip_0 rfl (lv_at hl 1 rfl) ?_
  have hPc := hP.sub (ws' := []) [] rfl
  have hDc := hD.sub (ws' := []) [] (by decide) rfl
  refine tl_si (tl_rS (As := [.int p0]) (rest := []) ⟨hx, hb, hml, hown, hta⟩ hK hN hPc hDc lk_X11_102 (c_X11_isGlass l D cy s.heap.size p0 ) rfl rfl ⟨Nat.le_of_ble_eq_true rfl, Nat.le_of_ble_eq_true rfl⟩ rfl hl.1 rfl (Nat.le_of_ble_eq_true rfl) dX11_slip_1 ⟨Nat.le_of_ble_eq_true rfl, Nat.le_of_ble_eq_true rfl⟩) (fun r_2 hw_1 => ?_)
  have hw_1 : tl_E r_2 (0 ≤ p0.toInt ∧ p0.toInt ≤ 3) 1 0 := hw_1
  refine lv_if_eq (tgt := 29) hx hb dX11_slip_4 (by decide) (fun c_3 => ?_) (fun c_3 => ?_)
  · have c_3 := hw_1.f c_3
    refine lv_iconst (v := (-1)) hx hb dX11_slip_29 (by decide) ?_
    have hP9 := hP.sub (ws' := []) [] rfl
    have hD9 := hD.sub (ws' := []) [] (by decide) rfl
    have hS : va_S A s.heap s.heap [] := hS
    exact W.iret (v := (-1)) hx hb hr (fun t ht hW => ⟨⟨_, (), rfl, (Or.inr ⟨by omega, rfl⟩), by rw [ht]; exact hP9, hD9⟩, hS.F ht⟩) hS.2.2 dX11_slip_30
  · have c_3 := hw_1.t c_3
    refine lv_iload_n hx hb dX11_slip_7 rfl (lv_at hl 2 rfl) ?_
    refine lv_iload_n hx hb dX11_slip_8 rfl (lv_at hl 3 rfl) ?_
    have hPc := hP.sub (ws' := []) [] rfl
    have hDc := hD.sub (ws' := []) [] (by decide) rfl
    refine tl_si (tl_rS (As := [.int p1, .int p2]) (rest := []) ⟨hx, hb, hml, hown, hta⟩ hK hN hPc hDc lk_X11_143 (c_X11_isSpan l D cy s.heap.size p1 p2 ) rfl rfl ⟨Nat.le_of_ble_eq_true rfl, Nat.le_of_ble_eq_true rfl⟩ rfl hl.1 rfl (Nat.le_of_ble_eq_true rfl) dX11_slip_9 ⟨Nat.le_of_ble_eq_true rfl, Nat.le_of_ble_eq_true rfl⟩) (fun r_5 hw_4 => ?_)
    have hw_4 : tl_E r_5 (0 ≤ p1.toInt ∧ p1.toInt ≤ 299 ∧ 0 ≤ p2.toInt ∧ p2.toInt ≤ 299 ∧ p1.toInt ≤ p2.toInt) 1 0 := hw_4
    refine lv_if_eq (tgt := 29) hx hb dX11_slip_12 (by decide) (fun c_6 => ?_) (fun c_6 => ?_)
    · have c_6 := hw_4.f c_6
      refine lv_iconst (v := (-1)) hx hb dX11_slip_29 (by decide) ?_
      have hP9 := hP.sub (ws' := []) [] rfl
      have hD9 := hD.sub (ws' := []) [] (by decide) rfl
      have hS : va_S A s.heap s.heap [] := hS
      exact W.iret (v := (-1)) hx hb hr (fun t ht hW => ⟨⟨_, (), rfl, (Or.inr ⟨by omega, rfl⟩), by rw [ht]; exact hP9, hD9⟩, hS.F ht⟩) hS.2.2 dX11_slip_30
    · have c_6 := hw_4.t c_6
      refine lv_iload hx hb dX11_slip_15 (lv_at hl 4 rfl) ?_
      refine lv_sipush (v := (-9999)) hx hb dX11_slip_17 (by decide) ?_
      refine lv_sipush (v := 9999) hx hb dX11_slip_20 (by decide) ?_
      have hPc := hP.sub (ws' := []) [] rfl
      have hDc := hD.sub (ws' := []) [] (by decide) rfl
      refine tl_si (tl_rS (As := [.int p3, .int (-9999), .int 9999]) (rest := []) ⟨hx, hb, hml, hown, hta⟩ hK hN hPc hDc lk_X11_105 (c_X11_isIn l D cy s.heap.size p3 (-9999) 9999 ) rfl rfl ⟨Nat.le_of_ble_eq_true rfl, Nat.le_of_ble_eq_true rfl⟩ rfl hl.1 rfl (Nat.le_of_ble_eq_true rfl) dX11_slip_23 ⟨Nat.le_of_ble_eq_true rfl, Nat.le_of_ble_eq_true rfl⟩) (fun r_8 hw_7 => ?_)
      have hw_7 : tl_E r_8 ((-9999 : Int) ≤ p3.toInt ∧ p3.toInt ≤ (9999 : Int)) 1 0 := hw_7
      refine lv_if_ne (tgt := 31) hx hb dX11_slip_26 (by decide) (fun c_9 => ?_) (fun c_9 => ?_)
      · have c_9 := hw_7.t c_9
        refine lv_aload_n hx hb dX11_slip_31 rfl (lv_at hl 0 rfl) ?_
        refine va_get (D := D) (ci := 11) (v := .ref b) (C := RX11) (T := TX11) (N := 16) hx hb hta inlX11 hown hK hP 0 rfl rfl 0 (by decide) (hta _ wk_15) (fun _ h9 => h9) rfl dX11_slip_32 ?_
        refine va_getN (D := D) (ci := 0) (v := .ref sl) (C := RX0) (T := TX0) (N := 9) hx hb hta inlX0 hown hK hP 1 rfl rfl 3 (by decide) (va_Nw.use rfl (hN.1 21 _ nk_21)) (fun _ h9 => h9) rfl dX11_slip_35 ?_
        refine lv_iload_n hx hb dX11_slip_38 rfl (lv_at hl 1 rfl) ?_
        refine lv_iload_n hx hb dX11_slip_39 rfl (lv_at hl 2 rfl) ?_
        refine lv_iload_n hx hb dX11_slip_40 rfl (lv_at hl 3 rfl) ?_
        refine lv_iload hx hb dX11_slip_41 (lv_at hl 4 rfl) ?_
        have hPc := hP.sub (ws' := [(sl, .inr (6, [.int 40, .ref ce, .int 0])), (ce, .inl (cy 0, 160, .inl (fun _ => 0)))]) [2, 3] rfl
        have hDc := hD.sub (ws' := [(sl, .inr (6, [.int 40, .ref ce, .int 0])), (ce, .inl (cy 0, 160, .inl (fun _ => 0)))]) [2, 3] (by decide) rfl
        refine tl_ci (wr := [(x, .inr (11, [.ref b, .ref im, .ref la, .ref cu, .ref wa, .ref pa, .ref dr, .ref su, .ref mk, .ref vi, .ref re, .ref rd, .ref so, .ref fw, .ref wo, .ref gi])), (b, .inr (0, [.int 0, .ref to, .ref ro, .ref sl, .ref li, .ref ca, .ref ho, .ref ta, .int 0]))]) _ _ hP hD hS hA [2, 3] [0, 1] rfl rfl (by decide) (by decide) (tl_rVN (As := [.int p0, .int p1, .int p2, .int p3]) (rest := []) ⟨hx, hb, hml, hown, hta⟩ hK hN hPc hDc (ci := 6) rfl 0 rfl lk_X11_151 (c_X6_add_40 l D cy s.heap.size sl p0 p1 p2 p3 ce (fun _ => 0) ) rfl rfl ⟨Nat.le_of_ble_eq_true rfl, Nat.le_of_ble_eq_true rfl⟩ rfl hl.1 rfl (Nat.le_of_ble_eq_true rfl) dX11_slip_43 ⟨Nat.le_of_ble_eq_true rfl, Nat.le_of_ble_eq_true rfl⟩) (fun r_11 u_12 H locs hw_10 hP hD hS => ?_)
        have hP : va_P D vwCl [(x, .inr (11, [.ref b, .ref im, .ref la, .ref cu, .ref wa, .ref pa, .ref dr, .ref su, .ref mk, .ref vi, .ref re, .ref rd, .ref so, .ref fw, .ref wo, .ref gi])), (b, .inr (0, [.int 0, .ref to, .ref ro, .ref sl, .ref li, .ref ca, .ref ho, .ref ta, .int 0])), (sl, .inr (6, [.int 40, .ref ce, .int 1]))] H := hP
        have hD : va_D A [(x, .inr (11, [.ref b, .ref im, .ref la, .ref cu, .ref wa, .ref pa, .ref dr, .ref su, .ref mk, .ref vi, .ref re, .ref rd, .ref so, .ref fw, .ref wo, .ref gi])), (b, .inr (0, [.int 0, .ref to, .ref ro, .ref sl, .ref li, .ref ca, .ref ho, .ref ta, .int 0])), (sl, .inr (6, [.int 40, .ref ce, .int 1]))] := hD
        refine W.widen (k := 0) (n := 0) (Nat.le_refl _) (Nat.le_refl _) ?_
        subst hw_10
        have hP9 := hP.sub (ws' := []) [] rfl
        have hD9 := hD.sub (ws' := []) [] (by decide) rfl
        exact W.iret (v := 0) hx hb hr (fun t ht hW => ⟨⟨_, (), rfl, (Or.inl ⟨by omega, rfl⟩), by rw [ht]; exact hP9, hD9⟩, hS.F ht⟩) hS.2.2 dX11_slip_46
      · have c_9 := hw_7.f c_9
        refine lv_iconst (v := (-1)) hx hb dX11_slip_29 (by decide) ?_
        have hP9 := hP.sub (ws' := []) [] rfl
        have hD9 := hD.sub (ws' := []) [] (by decide) rfl
        have hS : va_S A s.heap s.heap [] := hS
        exact W.iret (v := (-1)) hx hb hr (fun t ht hW => ⟨⟨_, (), rfl, (Or.inr ⟨by omega, rfl⟩), by rw [ht]; exact hP9, hD9⟩, hS.F ht⟩) hS.2.2 dX11_slip_30
set_option maxHeartbeats 4000000 in
set_option maxRecDepth 100000 in
theorem c_X0_hasLine (l : Launch) (D : va_G) (cy : Nat → ClassId) (sz : Nat) (b : Nat) (p0 : Int32) (p1 : Int32) (to : Nat) (ro : Nat) (sl : Nat) (li : Nat) (ca : Nat) (ho : Nat) (ta : Nat) (ce : Nat)  : Met l yX0_hasLine (tl_w yX0_hasLine cX0_hasLine 5 (some .boolean)) ({ frames := 0, cells := 0, slots := 0, locals := 0 }) (va_Pc [.ref b, .int p0, .int p1] (tl_P D cy [(b, .inr (0, [.int 0, .ref to, .ref ro, .ref sl, .ref li, .ref ca, .ref ho, .ref ta, .int 0])), (li, .inr (6, [.int 60, .ref ce, .int 0]))] sz)) (vp_Si (fun r : Int32 => r = 0)) 0 0 (fun _ => False) := by
  refine Met.ofW (cc := cX0_hasLine) (maxL := 5) (ret := (some .boolean)) (by decide) rfl ?_
  intro p e s m args below meth c s₁ B hml hv
  obtain ⟨rfl, hsz, hP, hK, hD0, hN⟩ := hv
  have hx := B.exec
  have hb := B.bytes
  have hr := B.returns
  have hta := tl_hta (atoms_spec (ws := tl_w yX0_hasLine cX0_hasLine 5 (some .boolean)) B.pre)
  have hown : s.vm.findClass RX0 = some m.cls := findClass_of_methodNamed B.named
  have hlocks := B.notSynchronized
  subst hsz
  have hD := hD0
  have hP : va_P D vwCl [(b, .inr (0, [.int 0, .ref to, .ref ro, .ref sl, .ref li, .ref ca, .ref ho, .ref ta, .int 0])), (li, .inr (6, [.int 60, .ref ce, .int 0]))] s.heap := hP
  have hl := lv_entry ([.ref b, .int p0, .int p1]) (n := 5) (Nat.le_of_ble_eq_true rfl)
  rw [lg_entry_eq]
  generalize (lg_sl ([.ref b, .int p0, .int p1]) ++ List.replicate (5 - (lg_sl ([.ref b, .int p0, .int p1])).length) Slot.unset).toArray = ls at hl ⊢
  have hl : lv_has ls 5 [(0, .ref b), (1, .int p0), (2, .int p1)] := hl
  refine lv_iconst (v := 0) hx hb dX0_hasLine_0 (by decide) ?_
  refine lv_istore_n (lv' := [(3, .int 0), (0, .ref b), (1, .int p0), (2, .int p1)]) hx hb dX0_hasLine_1 rfl hl (by decide) rfl (fun ls hl => ?_)
  refine lv_iconst (v := 0) hx hb dX0_hasLine_2 (by decide) ?_
  refine lv_istore (lv' := [(4, .int 0), (3, .int 0), (0, .ref b), (1, .int p0), (2, .int p1)]) hx hb dX0_hasLine_3 hl (by decide) rfl (fun ls hl => ?_)
  refine lv_iload hx hb dX0_hasLine_5 (lv_at hl 0 rfl) ?_
  refine lv_aload_n hx hb dX0_hasLine_7 rfl (lv_at hl 2 rfl) ?_
  refine va_get (D := D) (ci := 0) (v := .ref li) (C := RX0) (T := TX0) (N := 9) hx hb hta inlX0 hown hK hP 0 rfl rfl 4 (by decide) (hta _ wk_66) (fun _ h9 => h9) rfl dX0_hasLine_8 ?_
  refine va_getN (D := D) (ci := 6) (v := .int 0) (C := RX6) (T := TX6) (N := 3) hx hb hta inlX6 hown hK hP 1 rfl rfl 2 (by decide) (va_Nw.use rfl (hN.1 14 _ nk_14)) (fun _ h9 => h9) rfl dX0_hasLine_11 ?_
  refine lv_icmp_ge (tgt := 59) hx hb dX0_hasLine_14 (by decide) (fun _ => ?_) (fun c => absurd c (by decide))
  refine lv_iload_n hx hb dX0_hasLine_59 rfl (lv_at hl 1 rfl) ?_
  exact W.zret (ty := .boolean) (v := 0) hx hb hr rfl (fun t ht hW => ⟨_, rfl, rfl, ht⟩) (fun q h => by cases h) dX0_hasLine_60
set_option maxHeartbeats 4000000 in
set_option maxRecDepth 100000 in
theorem c_X11_line (l : Launch) (D : va_G) (cy : Nat → ClassId) (sz : Nat) (x : Nat) (p0 : Int32) (p1 : Int32) (p2 : Int32) (b : Nat) (im : Nat) (la : Nat) (cu : Nat) (wa : Nat) (pa : Nat) (dr : Nat) (su : Nat) (mk : Nat) (vi : Nat) (re : Nat) (rd : Nat) (so : Nat) (fw : Nat) (wo : Nat) (gi : Nat) (to : Nat) (ro : Nat) (sl : Nat) (li : Nat) (ca : Nat) (ho : Nat) (ta : Nat) (ce : Nat)  : Met l yX11_line (tl_w yX11_line cX11_line 4 (some .int)) ({ frames := 3, cells := 0, slots := 0, locals := 69 }) (va_Pc [.ref x, .int p0, .int p1, .int p2] (tl_P D cy [(x, .inr (11, [.ref b, .ref im, .ref la, .ref cu, .ref wa, .ref pa, .ref dr, .ref su, .ref mk, .ref vi, .ref re, .ref rd, .ref so, .ref fw, .ref wo, .ref gi])), (b, .inr (0, [.int 0, .ref to, .ref ro, .ref sl, .ref li, .ref ca, .ref ho, .ref ta, .int 0])), (li, .inr (6, [.int 60, .ref ce, .int 0])), (ce, .inl (cy 0, 240, .inl (fun _ => 0)))] sz)) (va_Qi (fun (r : Int32) (u : Unit) => tl_E r (0 ≤ p0.toInt ∧ p0.toInt ≤ 11 ∧ 0 ≤ p1.toInt ∧ p1.toInt ≤ 299 ∧ 1 ≤ p2.toInt ∧ p2.toInt ≤ 1000) 1 (-1)) (tl_B D (va_A [(x, .inr (11, [.ref b, .ref im, .ref la, .ref cu, .ref wa, .ref pa, .ref dr, .ref su, .ref mk, .ref vi, .ref re, .ref rd, .ref so, .ref fw, .ref wo, .ref gi])), (b, .inr (0, [.int 0, .ref to, .ref ro, .ref sl, .ref li, .ref ca, .ref ho, .ref ta, .int 0])), (li, .inr (6, [.int 60, .ref ce, .int 0])), (ce, .inl (cy 0, 240, .inl (fun _ => 0)))] sz) (fun u : Unit => [])) (va_A [(x, .inr (11, [.ref b, .ref im, .ref la, .ref cu, .ref wa, .ref pa, .ref dr, .ref su, .ref mk, .ref vi, .ref re, .ref rd, .ref so, .ref fw, .ref wo, .ref gi])), (b, .inr (0, [.int 0, .ref to, .ref ro, .ref sl, .ref li, .ref ca, .ref ho, .ref ta, .int 0])), (li, .inr (6, [.int 60, .ref ce, .int 0])), (ce, .inl (cy 0, 240, .inl (fun _ => 0)))] sz)) 0 0 (va_A [(x, .inr (11, [.ref b, .ref im, .ref la, .ref cu, .ref wa, .ref pa, .ref dr, .ref su, .ref mk, .ref vi, .ref re, .ref rd, .ref so, .ref fw, .ref wo, .ref gi])), (b, .inr (0, [.int 0, .ref to, .ref ro, .ref sl, .ref li, .ref ca, .ref ho, .ref ta, .int 0])), (li, .inr (6, [.int 60, .ref ce, .int 0])), (ce, .inl (cy 0, 240, .inl (fun _ => 0)))] sz) := by
  refine Met.ofW (cc := cX11_line) (maxL := 4) (ret := (some .int)) (by decide) rfl ?_
  intro p e s m args below meth c s₁ B hml hv
  obtain ⟨rfl, hsz, hP, hK, hD0, hN⟩ := hv
  have hx := B.exec
  have hb := B.bytes
  have hr := B.returns
  have hta := tl_hta (atoms_spec (ws := tl_w yX11_line cX11_line 4 (some .int)) B.pre)
  have hown : s.vm.findClass RX11 = some m.cls := findClass_of_methodNamed B.named
  have hlocks := B.notSynchronized
  subst hsz
  have hD := hD0.self (sz := s.heap.size)
  generalize hAe : va_A [(x, .inr (11, [.ref b, .ref im, .ref la, .ref cu, .ref wa, .ref pa, .ref dr, .ref su, .ref mk, .ref vi, .ref re, .ref rd, .ref so, .ref fw, .ref wo, .ref gi])), (b, .inr (0, [.int 0, .ref to, .ref ro, .ref sl, .ref li, .ref ca, .ref ho, .ref ta, .int 0])), (li, .inr (6, [.int 60, .ref ce, .int 0])), (ce, .inl (cy 0, 240, .inl (fun _ => 0)))] s.heap.size = A at hD ⊢
  have hA : ∀ q : Nat, s.heap.size ≤ q → A q := fun q h => by rw [← hAe]; exact Or.inr h
  have hS : va_S A s.heap s.heap [] := va_S.rf
  have hP : va_P D vwCl [(x, .inr (11, [.ref b, .ref im, .ref la, .ref cu, .ref wa, .ref pa, .ref dr, .ref su, .ref mk, .ref vi, .ref re, .ref rd, .ref so, .ref fw, .ref wo, .ref gi])), (b, .inr (0, [.int 0, .ref to, .ref ro, .ref sl, .ref li, .ref ca, .ref ho, .ref ta, .int 0])), (li, .inr (6, [.int 60, .ref ce, .int 0])), (ce, .inl (cy 0, 240, .inl (fun _ => 0)))] s.heap := hP
  have hl := lv_entry ([.ref x, .int p0, .int p1, .int p2]) (n := 4) (Nat.le_of_ble_eq_true rfl)
  rw [lg_entry_eq]
  generalize (lg_sl ([.ref x, .int p0, .int p1, .int p2]) ++ List.replicate (4 - (lg_sl ([.ref x, .int p0, .int p1, .int p2])).length) Slot.unset).toArray = ls at hl ⊢
  have hl : lv_has ls 4 [(0, .ref x), (1, .int p0), (2, .int p1), (3, .int p2)] := hl
  refine lv_iload_n hx hb dX11_line_0 rfl (lv_at hl 1 rfl) ?_
  have hPc := hP.sub (ws' := []) [] rfl
  have hDc := hD.sub (ws' := []) [] (by decide) rfl
  refine tl_si (tl_rS (As := [.int p0]) (rest := []) ⟨hx, hb, hml, hown, hta⟩ hK hN hPc hDc lk_X11_164 (c_X11_isStuff l D cy s.heap.size p0 ) rfl rfl ⟨Nat.le_of_ble_eq_true rfl, Nat.le_of_ble_eq_true rfl⟩ rfl hl.1 rfl (Nat.le_of_ble_eq_true rfl) dX11_line_1 ⟨Nat.le_of_ble_eq_true rfl, Nat.le_of_ble_eq_true rfl⟩) (fun r_2 hw_1 => ?_)
  have hw_1 : tl_E r_2 (0 ≤ p0.toInt ∧ p0.toInt ≤ 11) 1 0 := hw_1
  refine lv_if_eq (tgt := 37) hx hb dX11_line_4 (by decide) (fun c_3 => ?_) (fun c_3 => ?_)
  · have c_3 := hw_1.f c_3
    refine lv_iconst (v := (-1)) hx hb dX11_line_37 (by decide) ?_
    have hP9 := hP.sub (ws' := []) [] rfl
    have hD9 := hD.sub (ws' := []) [] (by decide) rfl
    have hS : va_S A s.heap s.heap [] := hS
    exact W.iret (v := (-1)) hx hb hr (fun t ht hW => ⟨⟨_, (), rfl, (Or.inr ⟨by omega, rfl⟩), by rw [ht]; exact hP9, hD9⟩, hS.F ht⟩) hS.2.2 dX11_line_38
  · have c_3 := hw_1.t c_3
    refine lv_iload_n hx hb dX11_line_7 rfl (lv_at hl 2 rfl) ?_
    have hPc := hP.sub (ws' := []) [] rfl
    have hDc := hD.sub (ws' := []) [] (by decide) rfl
    refine tl_si (tl_rS (As := [.int p1]) (rest := []) ⟨hx, hb, hml, hown, hta⟩ hK hN hPc hDc lk_X11_125 (c_X11_isColour l D cy s.heap.size p1 ) rfl rfl ⟨Nat.le_of_ble_eq_true rfl, Nat.le_of_ble_eq_true rfl⟩ rfl hl.1 rfl (Nat.le_of_ble_eq_true rfl) dX11_line_8 ⟨Nat.le_of_ble_eq_true rfl, Nat.le_of_ble_eq_true rfl⟩) (fun r_5 hw_4 => ?_)
    have hw_4 : tl_E r_5 (0 ≤ p1.toInt ∧ p1.toInt ≤ 299) 1 0 := hw_4
    refine lv_if_eq (tgt := 37) hx hb dX11_line_11 (by decide) (fun c_6 => ?_) (fun c_6 => ?_)
    · have c_6 := hw_4.f c_6
      refine lv_iconst (v := (-1)) hx hb dX11_line_37 (by decide) ?_
      have hP9 := hP.sub (ws' := []) [] rfl
      have hD9 := hD.sub (ws' := []) [] (by decide) rfl
      have hS : va_S A s.heap s.heap [] := hS
      exact W.iret (v := (-1)) hx hb hr (fun t ht hW => ⟨⟨_, (), rfl, (Or.inr ⟨by omega, rfl⟩), by rw [ht]; exact hP9, hD9⟩, hS.F ht⟩) hS.2.2 dX11_line_38
    · have c_6 := hw_4.t c_6
      refine lv_iload_n hx hb dX11_line_14 rfl (lv_at hl 3 rfl) ?_
      refine lv_iconst (v := 1) hx hb dX11_line_15 (by decide) ?_
      refine lv_sipush (v := 1000) hx hb dX11_line_16 (by decide) ?_
      have hPc := hP.sub (ws' := []) [] rfl
      have hDc := hD.sub (ws' := []) [] (by decide) rfl
      refine tl_si (tl_rS (As := [.int p2, .int 1, .int 1000]) (rest := []) ⟨hx, hb, hml, hown, hta⟩ hK hN hPc hDc lk_X11_105 (c_X11_isIn l D cy s.heap.size p2 1 1000 ) rfl rfl ⟨Nat.le_of_ble_eq_true rfl, Nat.le_of_ble_eq_true rfl⟩ rfl hl.1 rfl (Nat.le_of_ble_eq_true rfl) dX11_line_19 ⟨Nat.le_of_ble_eq_true rfl, Nat.le_of_ble_eq_true rfl⟩) (fun r_8 hw_7 => ?_)
      have hw_7 : tl_E r_8 ((1 : Int) ≤ p2.toInt ∧ p2.toInt ≤ (1000 : Int)) 1 0 := hw_7
      refine lv_if_eq (tgt := 37) hx hb dX11_line_22 (by decide) (fun c_9 => ?_) (fun c_9 => ?_)
      · have c_9 := hw_7.f c_9
        refine lv_iconst (v := (-1)) hx hb dX11_line_37 (by decide) ?_
        have hP9 := hP.sub (ws' := []) [] rfl
        have hD9 := hD.sub (ws' := []) [] (by decide) rfl
        have hS : va_S A s.heap s.heap [] := hS
        exact W.iret (v := (-1)) hx hb hr (fun t ht hW => ⟨⟨_, (), rfl, (Or.inr ⟨by omega, rfl⟩), by rw [ht]; exact hP9, hD9⟩, hS.F ht⟩) hS.2.2 dX11_line_38
      · have c_9 := hw_7.t c_9
        refine lv_aload_n hx hb dX11_line_25 rfl (lv_at hl 0 rfl) ?_
        refine va_get (D := D) (ci := 11) (v := .ref b) (C := RX11) (T := TX11) (N := 16) hx hb hta inlX11 hown hK hP 0 rfl rfl 0 (by decide) (hta _ wk_15) (fun _ h9 => h9) rfl dX11_line_26 ?_
        refine lv_iload_n hx hb dX11_line_29 rfl (lv_at hl 1 rfl) ?_
        refine lv_iload_n hx hb dX11_line_30 rfl (lv_at hl 2 rfl) ?_
        have hPc := hP.sub (ws' := [(b, .inr (0, [.int 0, .ref to, .ref ro, .ref sl, .ref li, .ref ca, .ref ho, .ref ta, .int 0])), (li, .inr (6, [.int 60, .ref ce, .int 0]))]) [1, 2] rfl
        have hDc := hD.sub (ws' := [(b, .inr (0, [.int 0, .ref to, .ref ro, .ref sl, .ref li, .ref ca, .ref ho, .ref ta, .int 0])), (li, .inr (6, [.int 60, .ref ce, .int 0]))]) [1, 2] (by decide) rfl
        refine tl_si (tl_rVN (As := [.int p0, .int p1]) (rest := []) ⟨hx, hb, hml, hown, hta⟩ hK hN hPc hDc (ci := 0) rfl 0 rfl lk_X11_167 (c_X0_hasLine l D cy s.heap.size b p0 p1 to ro sl li ca ho ta ce ) rfl rfl ⟨Nat.le_of_ble_eq_true rfl, Nat.le_of_ble_eq_true rfl⟩ rfl hl.1 rfl (Nat.le_of_ble_eq_true rfl) dX11_line_31 ⟨Nat.le_of_ble_eq_true rfl, Nat.le_of_ble_eq_true rfl⟩) (fun r_11 hw_10 => ?_)
        subst hw_10
        refine lv_if_eq (tgt := 39) hx hb dX11_line_34 (by decide) (fun _ => ?_) (fun c => absurd c (by decide))
        refine lv_aload_n hx hb dX11_line_39 rfl (lv_at hl 0 rfl) ?_
        refine va_get (D := D) (ci := 11) (v := .ref b) (C := RX11) (T := TX11) (N := 16) hx hb hta inlX11 hown hK hP 0 rfl rfl 0 (by decide) (hta _ wk_15) (fun _ h9 => h9) rfl dX11_line_40 ?_
        refine va_getN (D := D) (ci := 0) (v := .ref li) (C := RX0) (T := TX0) (N := 9) hx hb hta inlX0 hown hK hP 1 rfl rfl 4 (by decide) (va_Nw.use rfl (hN.1 22 _ nk_22)) (fun _ h9 => h9) rfl dX11_line_43 ?_
        refine lv_iload_n hx hb dX11_line_46 rfl (lv_at hl 1 rfl) ?_
        refine lv_iload_n hx hb dX11_line_47 rfl (lv_at hl 2 rfl) ?_
        refine lv_iload_n hx hb dX11_line_48 rfl (lv_at hl 3 rfl) ?_
        refine lv_iconst (v := 0) hx hb dX11_line_49 (by decide) ?_
        have hPc := hP.sub (ws' := [(li, .inr (6, [.int 60, .ref ce, .int 0])), (ce, .inl (cy 0, 240, .inl (fun _ => 0)))]) [2, 3] rfl
        have hDc := hD.sub (ws' := [(li, .inr (6, [.int 60, .ref ce, .int 0])), (ce, .inl (cy 0, 240, .inl (fun _ => 0)))]) [2, 3] (by decide) rfl
        refine tl_ci (wr := [(x, .inr (11, [.ref b, .ref im, .ref la, .ref cu, .ref wa, .ref pa, .ref dr, .ref su, .ref mk, .ref vi, .ref re, .ref rd, .ref so, .ref fw, .ref wo, .ref gi])), (b, .inr (0, [.int 0, .ref to, .ref ro, .ref sl, .ref li, .ref ca, .ref ho, .ref ta, .int 0]))]) _ _ hP hD hS hA [2, 3] [0, 1] rfl rfl (by decide) (by decide) (tl_rVN (As := [.int p0, .int p1, .int p2, .int 0]) (rest := []) ⟨hx, hb, hml, hown, hta⟩ hK hN hPc hDc (ci := 6) rfl 0 rfl lk_X11_151 (c_X6_add_60 l D cy s.heap.size li p0 p1 p2 0 ce (fun _ => 0) ) rfl rfl ⟨Nat.le_of_ble_eq_true rfl, Nat.le_of_ble_eq_true rfl⟩ rfl hl.1 rfl (Nat.le_of_ble_eq_true rfl) dX11_line_50 ⟨Nat.le_of_ble_eq_true rfl, Nat.le_of_ble_eq_true rfl⟩) (fun r_13 u_14 H locs hw_12 hP hD hS => ?_)
        have hP : va_P D vwCl [(x, .inr (11, [.ref b, .ref im, .ref la, .ref cu, .ref wa, .ref pa, .ref dr, .ref su, .ref mk, .ref vi, .ref re, .ref rd, .ref so, .ref fw, .ref wo, .ref gi])), (b, .inr (0, [.int 0, .ref to, .ref ro, .ref sl, .ref li, .ref ca, .ref ho, .ref ta, .int 0])), (li, .inr (6, [.int 60, .ref ce, .int 1]))] H := hP
        have hD : va_D A [(x, .inr (11, [.ref b, .ref im, .ref la, .ref cu, .ref wa, .ref pa, .ref dr, .ref su, .ref mk, .ref vi, .ref re, .ref rd, .ref so, .ref fw, .ref wo, .ref gi])), (b, .inr (0, [.int 0, .ref to, .ref ro, .ref sl, .ref li, .ref ca, .ref ho, .ref ta, .int 0])), (li, .inr (6, [.int 60, .ref ce, .int 1]))] := hD
        refine W.widen (k := 0) (n := 0) (Nat.le_refl _) (Nat.le_refl _) ?_
        subst hw_12
        refine lv_iconst (v := (-1)) hx hb dX11_line_53 (by decide) ?_
        refine lv_icmp_ne (tgt := 61) hx hb dX11_line_54 (by decide) (fun _ => ?_) (fun c => absurd c (by decide))
        refine lv_aload_n hx hb dX11_line_61 rfl (lv_at hl 0 rfl) ?_
        refine va_get (D := D) (ci := 11) (v := .ref b) (C := RX11) (T := TX11) (N := 16) hx hb hta inlX11 hown hK hP 0 rfl rfl 0 (by decide) (hta _ wk_15) (fun _ h9 => h9) rfl dX11_line_62 ?_
        refine va_getN (D := D) (ci := 0) (v := .ref li) (C := RX0) (T := TX0) (N := 9) hx hb hta inlX0 hown hK hP 1 rfl rfl 4 (by decide) (va_Nw.use rfl (hN.1 22 _ nk_22)) (fun _ h9 => h9) rfl dX11_line_65 ?_
        refine va_getN (D := D) (ci := 6) (v := .int 1) (C := RX6) (T := TX6) (N := 3) hx hb hta inlX6 hown hK hP 2 rfl rfl 2 (by decide) (va_Nw.use rfl (hN.1 15 _ nk_15)) (fun _ h9 => h9) rfl dX11_line_68 ?_
        have hP9 := hP.sub (ws' := []) [] rfl
        have hD9 := hD.sub (ws' := []) [] (by decide) rfl
        exact W.iret (v := 1) hx hb hr (fun t ht hW => ⟨⟨_, (), rfl, (Or.inl ⟨by omega, rfl⟩), by rw [ht]; exact hP9, hD9⟩, hS.F ht⟩) hS.2.2 dX11_line_71

set_option maxHeartbeats 4000000 in
set_option maxRecDepth 100000 in
theorem c_X8_isFull_6 (l : Launch) (D : va_G) (cy : Nat → ClassId) (sz : Nat) (o : Nat) (kp : Nat)  : Met l yX8_isFull (tl_w yX8_isFull cX8_isFull 1 (some .boolean)) ({ frames := 0, cells := 0, slots := 0, locals := 0 }) (va_Pc [.ref o] (tl_P D cy [(o, .inr (8, [.ref kp, .int 0])), (kp, .inl (cy 5, 6, .inr (.inr (.inr (.inr (fun _ => none))))))] sz)) (vp_Si (fun r : Int32 => r = 0)) 0 0 (fun _ => False) := by
  refine Met.ofW (cc := cX8_isFull) (maxL := 1) (ret := (some .boolean)) (by decide) rfl ?_
  intro p e s m args below meth c s₁ B hml hv
  obtain ⟨rfl, hsz, hP, hK, hD0, hN⟩ := hv
  have hx := B.exec
  have hb := B.bytes
  have hr := B.returns
  have hta := tl_hta (atoms_spec (ws := tl_w yX8_isFull cX8_isFull 1 (some .boolean)) B.pre)
  have hown : s.vm.findClass RX8 = some m.cls := findClass_of_methodNamed B.named
  have hlocks := B.notSynchronized
  subst hsz
  have hD := hD0
  have hP : va_P D vwCl [(o, .inr (8, [.ref kp, .int 0])), (kp, .inl (cy 5, 6, .inr (.inr (.inr (.inr (fun _ => none))))))] s.heap := hP
  have hl := lv_entry ([.ref o]) (n := 1) (Nat.le_of_ble_eq_true rfl)
  rw [lg_entry_eq]
  generalize (lg_sl ([.ref o]) ++ List.replicate (1 - (lg_sl ([.ref o])).length) Slot.unset).toArray = ls at hl ⊢
  have hl : lv_has ls 1 [(0, .ref o)] := hl
  refine lv_aload_n hx hb dX8_isFull_0 rfl (lv_at hl 0 rfl) ?_
  refine va_get (D := D) (ci := 8) (v := .int 0) (C := RX8) (T := TX8) (N := 2) hx hb hta inlX8 hown hK hP 0 rfl rfl 1 (by decide) (hta _ wk_371) (fun _ h9 => h9) rfl dX8_isFull_1 ?_
  refine lv_aload_n hx hb dX8_isFull_4 rfl (lv_at hl 0 rfl) ?_
  refine va_get (D := D) (ci := 8) (v := .ref kp) (C := RX8) (T := TX8) (N := 2) hx hb hta inlX8 hown hK hP 0 rfl rfl 0 (by decide) (hta _ wk_92) (fun _ h9 => h9) rfl dX8_isFull_5 ?_
  refine va_alen (D := D) (v := 6) hx hb hK hP 1 5 rfl rfl rfl dX8_isFull_8 ?_
  refine lv_icmp_lt (tgt := 16) hx hb dX8_isFull_9 (by decide) (fun _ => ?_) (fun c => absurd c (by decide))
  refine lv_iconst (v := 0) hx hb dX8_isFull_16 (by decide) ?_
  exact W.zret (ty := .boolean) (v := 0) hx hb hr rfl (fun t ht hW => ⟨_, rfl, rfl, ht⟩) (fun q h => by cases h) dX8_isFull_17
set_option maxHeartbeats 4000000 in
set_option maxRecDepth 100000 in
theorem c_X8_isFull_8 (l : Launch) (D : va_G) (cy : Nat → ClassId) (sz : Nat) (o : Nat) (kp : Nat)  : Met l yX8_isFull (tl_w yX8_isFull cX8_isFull 1 (some .boolean)) ({ frames := 0, cells := 0, slots := 0, locals := 0 }) (va_Pc [.ref o] (tl_P D cy [(o, .inr (8, [.ref kp, .int 0])), (kp, .inl (cy 5, 8, .inr (.inr (.inr (.inr (fun _ => none))))))] sz)) (vp_Si (fun r : Int32 => r = 0)) 0 0 (fun _ => False) := by
  refine Met.ofW (cc := cX8_isFull) (maxL := 1) (ret := (some .boolean)) (by decide) rfl ?_
  intro p e s m args below meth c s₁ B hml hv
  obtain ⟨rfl, hsz, hP, hK, hD0, hN⟩ := hv
  have hx := B.exec
  have hb := B.bytes
  have hr := B.returns
  have hta := tl_hta (atoms_spec (ws := tl_w yX8_isFull cX8_isFull 1 (some .boolean)) B.pre)
  have hown : s.vm.findClass RX8 = some m.cls := findClass_of_methodNamed B.named
  have hlocks := B.notSynchronized
  subst hsz
  have hD := hD0
  have hP : va_P D vwCl [(o, .inr (8, [.ref kp, .int 0])), (kp, .inl (cy 5, 8, .inr (.inr (.inr (.inr (fun _ => none))))))] s.heap := hP
  have hl := lv_entry ([.ref o]) (n := 1) (Nat.le_of_ble_eq_true rfl)
  rw [lg_entry_eq]
  generalize (lg_sl ([.ref o]) ++ List.replicate (1 - (lg_sl ([.ref o])).length) Slot.unset).toArray = ls at hl ⊢
  have hl : lv_has ls 1 [(0, .ref o)] := hl
  refine lv_aload_n hx hb dX8_isFull_0 rfl (lv_at hl 0 rfl) ?_
  refine va_get (D := D) (ci := 8) (v := .int 0) (C := RX8) (T := TX8) (N := 2) hx hb hta inlX8 hown hK hP 0 rfl rfl 1 (by decide) (hta _ wk_371) (fun _ h9 => h9) rfl dX8_isFull_1 ?_
  refine lv_aload_n hx hb dX8_isFull_4 rfl (lv_at hl 0 rfl) ?_
  refine va_get (D := D) (ci := 8) (v := .ref kp) (C := RX8) (T := TX8) (N := 2) hx hb hta inlX8 hown hK hP 0 rfl rfl 0 (by decide) (hta _ wk_92) (fun _ h9 => h9) rfl dX8_isFull_5 ?_
  refine va_alen (D := D) (v := 8) hx hb hK hP 1 5 rfl rfl rfl dX8_isFull_8 ?_
  refine lv_icmp_lt (tgt := 16) hx hb dX8_isFull_9 (by decide) (fun _ => ?_) (fun c => absurd c (by decide))
  refine lv_iconst (v := 0) hx hb dX8_isFull_16 (by decide) ?_
  exact W.zret (ty := .boolean) (v := 0) hx hb hr rfl (fun t ht hW => ⟨_, rfl, rfl, ht⟩) (fun q h => by cases h) dX8_isFull_17
set_option maxHeartbeats 4000000 in
set_option maxRecDepth 100000 in
theorem c_X7_wipe (l : Launch) (D : va_G) (cy : Nat → ClassId) (sz : Nat) (o : Nat) (t0 : Nat) (t1 : Nat) (t2 : Nat) (t3 : Nat) (t4 : Nat) (t5 : Nat) (t6 : Nat)  : Met l yX7_wipe (tl_w yX7_wipe cX7_wipe 1 none) ({ frames := 0, cells := 0, slots := 0, locals := 0 }) (va_Pc [.ref o] (tl_P D cy [(o, .inr (7, [.int 0, .ref t0, .ref t1, .ref t2, .ref t3, .ref t4, .ref t5, .ref t6, .int 0]))] sz)) (va_Qv (fun (u : Unit) => True) (tl_B D (va_A [(o, .inr (7, [.int 0, .ref t0, .ref t1, .ref t2, .ref t3, .ref t4, .ref t5, .ref t6, .int 0]))] sz) (fun u : Unit => [])) (va_A [(o, .inr (7, [.int 0, .ref t0, .ref t1, .ref t2, .ref t3, .ref t4, .ref t5, .ref t6, .int 0]))] sz)) 0 0 (va_A [(o, .inr (7, [.int 0, .ref t0, .ref t1, .ref t2, .ref t3, .ref t4, .ref t5, .ref t6, .int 0]))] sz) := by
  refine Met.ofW (cc := cX7_wipe) (maxL := 1) (ret := none) (by decide) rfl ?_
  intro p e s m args below meth c s₁ B hml hv
  obtain ⟨rfl, hsz, hP, hK, hD0, hN⟩ := hv
  have hx := B.exec
  have hb := B.bytes
  have hr := B.returns
  have hta := tl_hta (atoms_spec (ws := tl_w yX7_wipe cX7_wipe 1 none) B.pre)
  have hown : s.vm.findClass RX7 = some m.cls := findClass_of_methodNamed B.named
  have hlocks := B.notSynchronized
  subst hsz
  have hD := hD0.self (sz := s.heap.size)
  generalize hAe : va_A [(o, .inr (7, [.int 0, .ref t0, .ref t1, .ref t2, .ref t3, .ref t4, .ref t5, .ref t6, .int 0]))] s.heap.size = A at hD ⊢
  have hA : ∀ q : Nat, s.heap.size ≤ q → A q := fun q h => by rw [← hAe]; exact Or.inr h
  have hS : va_S A s.heap s.heap [] := va_S.rf
  have hP : va_P D vwCl [(o, .inr (7, [.int 0, .ref t0, .ref t1, .ref t2, .ref t3, .ref t4, .ref t5, .ref t6, .int 0]))] s.heap := hP
  have hl := lv_entry ([.ref o]) (n := 1) (Nat.le_of_ble_eq_true rfl)
  rw [lg_entry_eq]
  generalize (lg_sl ([.ref o]) ++ List.replicate (1 - (lg_sl ([.ref o])).length) Slot.unset).toArray = ls at hl ⊢
  have hl : lv_has ls 1 [(0, .ref o)] := hl
  refine lv_aload_n hx hb dX7_wipe_0 rfl (lv_at hl 0 rfl) ?_
  refine lv_iconst (v := 0) hx hb dX7_wipe_1 (by decide) ?_
  refine va_put (D := D) (ci := 7) (v := .int 0) (ty := tyX7 0) (C := RX7) (T := TX7) (N := 9) hx hb hta inlX7 tyX7 tyX7_ok nmX7 hown hK hP hD hS 0 rfl rfl 0 (by decide) (hta _ wk_375) (fun _ h9 => h9) rfl (tyX7_ok 0 (by decide)) rfl rfl (Nat.le_of_ble_eq_true rfl) dX7_wipe_2 (fun H locs hP hD hS => ?_)
  have hP : va_P D vwCl [(o, .inr (7, [.int 0, .ref t0, .ref t1, .ref t2, .ref t3, .ref t4, .ref t5, .ref t6, .int 0]))] H := hP
  have hD : va_D A [(o, .inr (7, [.int 0, .ref t0, .ref t1, .ref t2, .ref t3, .ref t4, .ref t5, .ref t6, .int 0]))] := hD
  refine lv_aload_n hx hb dX7_wipe_5 rfl (lv_at hl 0 rfl) ?_
  refine lv_iconst (v := 0) hx hb dX7_wipe_6 (by decide) ?_
  refine va_put (D := D) (ci := 7) (v := .int 0) (ty := tyX7 8) (C := RX7) (T := TX7) (N := 9) hx hb hta inlX7 tyX7 tyX7_ok nmX7 hown hK hP hD hS 0 rfl rfl 8 (by decide) (hta _ wk_376) (fun _ h9 => h9) rfl (tyX7_ok 8 (by decide)) rfl rfl (Nat.le_of_ble_eq_true rfl) dX7_wipe_7 (fun H locs hP hD hS => ?_)
  have hP : va_P D vwCl [(o, .inr (7, [.int 0, .ref t0, .ref t1, .ref t2, .ref t3, .ref t4, .ref t5, .ref t6, .int 0]))] H := hP
  have hD : va_D A [(o, .inr (7, [.int 0, .ref t0, .ref t1, .ref t2, .ref t3, .ref t4, .ref t5, .ref t6, .int 0]))] := hD
  have hP9 := hP.sub (ws' := []) [] rfl
  have hD9 := hD.sub (ws' := []) [] (by decide) rfl
  exact W.vret hx hb hr (fun t ht hW => ⟨⟨(), rfl, trivial, by rw [ht]; exact hP9, hD9⟩, hS.F ht⟩) hS.2.2 dX7_wipe_10
set_option maxHeartbeats 4000000 in
set_option maxRecDepth 100000 in
theorem c_X9_add (l : Launch) (D : va_G) (cy : Nat → ClassId) (sz : Nat) (tk : Nat) (tq : Nat) (tp : Nat) (tv : Nat)  : Met l yX9_add (tl_w yX9_add cX9_add 4 none) ({ frames := 0, cells := 0, slots := 0, locals := 0 }) (va_Pc [.ref tk, .int 0, .int 0, .int 0] (tl_P D cy [(tk, .inr (9, [.ref tq, .ref tp, .ref tv, .int 0])), (tq, .inl (cy 0, 401, .inl (fun _ => 0))), (tp, .inl (cy 0, 401, .inl (fun _ => 0))), (tv, .inl (cy 0, 401, .inl (fun _ => 0)))] sz)) (va_Qv (fun (u : Unit) => True) (tl_B D (va_A [(tk, .inr (9, [.ref tq, .ref tp, .ref tv, .int 0])), (tq, .inl (cy 0, 401, .inl (fun _ => 0))), (tp, .inl (cy 0, 401, .inl (fun _ => 0))), (tv, .inl (cy 0, 401, .inl (fun _ => 0)))] sz) (fun u : Unit => [(tk, .inr (9, [.ref tq, .ref tp, .ref tv, .int 1])), (tq, .inl (cy 0, 401, .inl (upd (fun _ => 0) (0 : Int32).toNatClampNeg 0))), (tp, .inl (cy 0, 401, .inl (upd (fun _ => 0) (0 : Int32).toNatClampNeg 0))), (tv, .inl (cy 0, 401, .inl (upd (fun _ => 0) (0 : Int32).toNatClampNeg 0)))])) (va_A [(tk, .inr (9, [.ref tq, .ref tp, .ref tv, .int 0])), (tq, .inl (cy 0, 401, .inl (fun _ => 0))), (tp, .inl (cy 0, 401, .inl (fun _ => 0))), (tv, .inl (cy 0, 401, .inl (fun _ => 0)))] sz)) 0 0 (va_A [(tk, .inr (9, [.ref tq, .ref tp, .ref tv, .int 0])), (tq, .inl (cy 0, 401, .inl (fun _ => 0))), (tp, .inl (cy 0, 401, .inl (fun _ => 0))), (tv, .inl (cy 0, 401, .inl (fun _ => 0)))] sz) := by
  refine Met.ofW (cc := cX9_add) (maxL := 4) (ret := none) (by decide) rfl ?_
  intro p e s m args below meth c s₁ B hml hv
  obtain ⟨rfl, hsz, hP, hK, hD0, hN⟩ := hv
  have hx := B.exec
  have hb := B.bytes
  have hr := B.returns
  have hta := tl_hta (atoms_spec (ws := tl_w yX9_add cX9_add 4 none) B.pre)
  have hown : s.vm.findClass RX9 = some m.cls := findClass_of_methodNamed B.named
  have hlocks := B.notSynchronized
  subst hsz
  have hD := hD0.self (sz := s.heap.size)
  generalize hAe : va_A [(tk, .inr (9, [.ref tq, .ref tp, .ref tv, .int 0])), (tq, .inl (cy 0, 401, .inl (fun _ => 0))), (tp, .inl (cy 0, 401, .inl (fun _ => 0))), (tv, .inl (cy 0, 401, .inl (fun _ => 0)))] s.heap.size = A at hD ⊢
  have hA : ∀ q : Nat, s.heap.size ≤ q → A q := fun q h => by rw [← hAe]; exact Or.inr h
  have hS : va_S A s.heap s.heap [] := va_S.rf
  have hP : va_P D vwCl [(tk, .inr (9, [.ref tq, .ref tp, .ref tv, .int 0])), (tq, .inl (cy 0, 401, .inl (fun _ => 0))), (tp, .inl (cy 0, 401, .inl (fun _ => 0))), (tv, .inl (cy 0, 401, .inl (fun _ => 0)))] s.heap := hP
  have hl := lv_entry ([.ref tk, .int 0, .int 0, .int 0]) (n := 4) (Nat.le_of_ble_eq_true rfl)
  rw [lg_entry_eq]
  generalize (lg_sl ([.ref tk, .int 0, .int 0, .int 0]) ++ List.replicate (4 - (lg_sl ([.ref tk, .int 0, .int 0, .int 0])).length) Slot.unset).toArray = ls at hl ⊢
  have hl : lv_has ls 4 [(0, .ref tk), (1, .int 0), (2, .int 0), (3, .int 0)] := hl
  refine lv_aload_n hx hb dX9_add_0 rfl (lv_at hl 0 rfl) ?_
  refine va_get (D := D) (ci := 9) (v := .int 0) (C := RX9) (T := TX9) (N := 4) hx hb hta inlX9 hown hK hP 0 rfl rfl 3 (by decide) (hta _ wk_387) (fun _ h9 => h9) rfl dX9_add_1 ?_
  refine lv_aload_n hx hb dX9_add_4 rfl (lv_at hl 0 rfl) ?_
  refine va_get (D := D) (ci := 9) (v := .ref tq) (C := RX9) (T := TX9) (N := 4) hx hb hta inlX9 hown hK hP 0 rfl rfl 0 (by decide) (hta _ wk_105) (fun _ h9 => h9) rfl dX9_add_5 ?_
  refine va_alen (D := D) (v := 401) hx hb hK hP 1 0 rfl rfl rfl dX9_add_8 ?_
  refine lv_icmp_ge (tgt := 52) hx hb dX9_add_9 (by decide) (fun c => absurd c (by decide)) (fun _ => ?_)
  refine lv_aload_n hx hb dX9_add_12 rfl (lv_at hl 0 rfl) ?_
  refine va_get (D := D) (ci := 9) (v := .ref tq) (C := RX9) (T := TX9) (N := 4) hx hb hta inlX9 hown hK hP 0 rfl rfl 0 (by decide) (hta _ wk_105) (fun _ h9 => h9) rfl dX9_add_13 ?_
  refine lv_aload_n hx hb dX9_add_16 rfl (lv_at hl 0 rfl) ?_
  refine va_get (D := D) (ci := 9) (v := .int 0) (C := RX9) (T := TX9) (N := 4) hx hb hta inlX9 hown hK hP 0 rfl rfl 3 (by decide) (hta _ wk_387) (fun _ h9 => h9) rfl dX9_add_17 ?_
  refine lv_iload_n hx hb dX9_add_20 rfl (lv_at hl 1 rfl) ?_
  refine va_iast (D := D) hx hb hK hP hD hS 1 0 rfl rfl (tl_in (by decide) (by decide)) dX9_add_21 (fun H locs hP hD hS => ?_)
  have hP : va_P D vwCl [(tk, .inr (9, [.ref tq, .ref tp, .ref tv, .int 0])), (tq, .inl (cy 0, 401, .inl (upd (fun _ => 0) (0 : Int32).toNatClampNeg 0))), (tp, .inl (cy 0, 401, .inl (fun _ => 0))), (tv, .inl (cy 0, 401, .inl (fun _ => 0)))] H := hP
  have hD : va_D A [(tk, .inr (9, [.ref tq, .ref tp, .ref tv, .int 0])), (tq, .inl (cy 0, 401, .inl (upd (fun _ => 0) (0 : Int32).toNatClampNeg 0))), (tp, .inl (cy 0, 401, .inl (fun _ => 0))), (tv, .inl (cy 0, 401, .inl (fun _ => 0)))] := hD
  refine lv_aload_n hx hb dX9_add_22 rfl (lv_at hl 0 rfl) ?_
  refine va_get (D := D) (ci := 9) (v := .ref tp) (C := RX9) (T := TX9) (N := 4) hx hb hta inlX9 hown hK hP 0 rfl rfl 1 (by decide) (hta _ wk_106) (fun _ h9 => h9) rfl dX9_add_23 ?_
  refine lv_aload_n hx hb dX9_add_26 rfl (lv_at hl 0 rfl) ?_
  refine va_get (D := D) (ci := 9) (v := .int 0) (C := RX9) (T := TX9) (N := 4) hx hb hta inlX9 hown hK hP 0 rfl rfl 3 (by decide) (hta _ wk_387) (fun _ h9 => h9) rfl dX9_add_27 ?_
  refine lv_iload_n hx hb dX9_add_30 rfl (lv_at hl 2 rfl) ?_
  refine va_iast (D := D) hx hb hK hP hD hS 2 0 rfl rfl (tl_in (by decide) (by decide)) dX9_add_31 (fun H locs hP hD hS => ?_)
  have hP : va_P D vwCl [(tk, .inr (9, [.ref tq, .ref tp, .ref tv, .int 0])), (tq, .inl (cy 0, 401, .inl (upd (fun _ => 0) (0 : Int32).toNatClampNeg 0))), (tp, .inl (cy 0, 401, .inl (upd (fun _ => 0) (0 : Int32).toNatClampNeg 0))), (tv, .inl (cy 0, 401, .inl (fun _ => 0)))] H := hP
  have hD : va_D A [(tk, .inr (9, [.ref tq, .ref tp, .ref tv, .int 0])), (tq, .inl (cy 0, 401, .inl (upd (fun _ => 0) (0 : Int32).toNatClampNeg 0))), (tp, .inl (cy 0, 401, .inl (upd (fun _ => 0) (0 : Int32).toNatClampNeg 0))), (tv, .inl (cy 0, 401, .inl (fun _ => 0)))] := hD
  refine lv_aload_n hx hb dX9_add_32 rfl (lv_at hl 0 rfl) ?_
  refine va_get (D := D) (ci := 9) (v := .ref tv) (C := RX9) (T := TX9) (N := 4) hx hb hta inlX9 hown hK hP 0 rfl rfl 2 (by decide) (hta _ wk_107) (fun _ h9 => h9) rfl dX9_add_33 ?_
  refine lv_aload_n hx hb dX9_add_36 rfl (lv_at hl 0 rfl) ?_
  refine va_get (D := D) (ci := 9) (v := .int 0) (C := RX9) (T := TX9) (N := 4) hx hb hta inlX9 hown hK hP 0 rfl rfl 3 (by decide) (hta _ wk_387) (fun _ h9 => h9) rfl dX9_add_37 ?_
  refine lv_iload_n hx hb dX9_add_40 rfl (lv_at hl 3 rfl) ?_
  refine va_iast (D := D) hx hb hK hP hD hS 3 0 rfl rfl (tl_in (by decide) (by decide)) dX9_add_41 (fun H locs hP hD hS => ?_)
  have hP : va_P D vwCl [(tk, .inr (9, [.ref tq, .ref tp, .ref tv, .int 0])), (tq, .inl (cy 0, 401, .inl (upd (fun _ => 0) (0 : Int32).toNatClampNeg 0))), (tp, .inl (cy 0, 401, .inl (upd (fun _ => 0) (0 : Int32).toNatClampNeg 0))), (tv, .inl (cy 0, 401, .inl (upd (fun _ => 0) (0 : Int32).toNatClampNeg 0)))] H := hP
  have hD : va_D A [(tk, .inr (9, [.ref tq, .ref tp, .ref tv, .int 0])), (tq, .inl (cy 0, 401, .inl (upd (fun _ => 0) (0 : Int32).toNatClampNeg 0))), (tp, .inl (cy 0, 401, .inl (upd (fun _ => 0) (0 : Int32).toNatClampNeg 0))), (tv, .inl (cy 0, 401, .inl (upd (fun _ => 0) (0 : Int32).toNatClampNeg 0)))] := hD
  refine lv_aload_n hx hb dX9_add_42 rfl (lv_at hl 0 rfl) ?_
  refine lv_dup hx hb dX9_add_43 rfl ?_
  refine va_get (D := D) (ci := 9) (v := .int 0) (C := RX9) (T := TX9) (N := 4) hx hb hta inlX9 hown hK hP 0 rfl rfl 3 (by decide) (hta _ wk_387) (fun _ h9 => h9) rfl dX9_add_44 ?_
  refine lv_iconst (v := 1) hx hb dX9_add_47 (by decide) ?_
  refine lv_iadd hx hb dX9_add_48 ?_
  refine lv_topi (fun z_1 ez_1 => ?_)
  obtain rfl : z_1 = (1 : Int32) := ez_1.trans (by decide)
  refine va_put (D := D) (ci := 9) (v := .int 1) (ty := tyX9 3) (C := RX9) (T := TX9) (N := 4) hx hb hta inlX9 tyX9 tyX9_ok nmX9 hown hK hP hD hS 0 rfl rfl 3 (by decide) (hta _ wk_387) (fun _ h9 => h9) rfl (tyX9_ok 3 (by decide)) rfl rfl (Nat.le_of_ble_eq_true rfl) dX9_add_49 (fun H locs hP hD hS => ?_)
  have hP : va_P D vwCl [(tk, .inr (9, [.ref tq, .ref tp, .ref tv, .int 1])), (tq, .inl (cy 0, 401, .inl (upd (fun _ => 0) (0 : Int32).toNatClampNeg 0))), (tp, .inl (cy 0, 401, .inl (upd (fun _ => 0) (0 : Int32).toNatClampNeg 0))), (tv, .inl (cy 0, 401, .inl (upd (fun _ => 0) (0 : Int32).toNatClampNeg 0)))] H := hP
  have hD : va_D A [(tk, .inr (9, [.ref tq, .ref tp, .ref tv, .int 1])), (tq, .inl (cy 0, 401, .inl (upd (fun _ => 0) (0 : Int32).toNatClampNeg 0))), (tp, .inl (cy 0, 401, .inl (upd (fun _ => 0) (0 : Int32).toNatClampNeg 0))), (tv, .inl (cy 0, 401, .inl (upd (fun _ => 0) (0 : Int32).toNatClampNeg 0)))] := hD
  have hP9 := hP.sub (ws' := [(tk, .inr (9, [.ref tq, .ref tp, .ref tv, .int 1])), (tq, .inl (cy 0, 401, .inl (upd (fun _ => 0) (0 : Int32).toNatClampNeg 0))), (tp, .inl (cy 0, 401, .inl (upd (fun _ => 0) (0 : Int32).toNatClampNeg 0))), (tv, .inl (cy 0, 401, .inl (upd (fun _ => 0) (0 : Int32).toNatClampNeg 0)))]) [0, 1, 2, 3] rfl
  have hD9 := hD.sub (ws' := [(tk, .inr (9, [.ref tq, .ref tp, .ref tv, .int 1])), (tq, .inl (cy 0, 401, .inl (upd (fun _ => 0) (0 : Int32).toNatClampNeg 0))), (tp, .inl (cy 0, 401, .inl (upd (fun _ => 0) (0 : Int32).toNatClampNeg 0))), (tv, .inl (cy 0, 401, .inl (upd (fun _ => 0) (0 : Int32).toNatClampNeg 0)))]) [0, 1, 2, 3] (by decide) rfl
  exact W.vret hx hb hr (fun t ht hW => ⟨⟨(), rfl, trivial, by rw [ht]; exact hP9, hD9⟩, hS.F ht⟩) hS.2.2 dX9_add_52
set_option maxHeartbeats 4000000 in
set_option maxRecDepth 100000 in
theorem c_X9_cut (l : Launch) (D : va_G) (cy : Nat → ClassId) (sz : Nat) (tk : Nat) (b : Nat) (tq : Nat) (tp : Nat) (tv : Nat) (to : Nat) (ro : Nat) (sl : Nat) (li : Nat) (ca : Nat) (ho : Nat) (ta : Nat)  : Met l yX9_cut (tl_w yX9_cut cX9_cut 5 none) ({ frames := 1, cells := 0, slots := 0, locals := 23 }) (va_Pc [.ref tk, .ref b] (tl_P D cy [(tk, .inr (9, [.ref tq, .ref tp, .ref tv, .int 0])), (tq, .inl (cy 0, 401, .inl (fun _ => 0))), (tp, .inl (cy 0, 401, .inl (fun _ => 0))), (tv, .inl (cy 0, 401, .inl (fun _ => 0))), (b, .inr (0, [.int 0, .ref to, .ref ro, .ref sl, .ref li, .ref ca, .ref ho, .ref ta, .int 0]))] sz)) (va_Qv (fun (u : Unit) => True) (tl_B D (va_A [(tk, .inr (9, [.ref tq, .ref tp, .ref tv, .int 0])), (tq, .inl (cy 0, 401, .inl (fun _ => 0))), (tp, .inl (cy 0, 401, .inl (fun _ => 0))), (tv, .inl (cy 0, 401, .inl (fun _ => 0))), (b, .inr (0, [.int 0, .ref to, .ref ro, .ref sl, .ref li, .ref ca, .ref ho, .ref ta, .int 0]))] sz) (fun u : Unit => [(tk, .inr (9, [.ref tq, .ref tp, .ref tv, .int 1])), (tq, .inl (cy 0, 401, .inl (upd (fun _ => 0) (0 : Int32).toNatClampNeg 0))), (tp, .inl (cy 0, 401, .inl (upd (fun _ => 0) (0 : Int32).toNatClampNeg 0))), (tv, .inl (cy 0, 401, .inl (upd (fun _ => 0) (0 : Int32).toNatClampNeg 0))), (b, .inr (0, [.int 0, .ref to, .ref ro, .ref sl, .ref li, .ref ca, .ref ho, .ref ta, .int 0]))])) (va_A [(tk, .inr (9, [.ref tq, .ref tp, .ref tv, .int 0])), (tq, .inl (cy 0, 401, .inl (fun _ => 0))), (tp, .inl (cy 0, 401, .inl (fun _ => 0))), (tv, .inl (cy 0, 401, .inl (fun _ => 0))), (b, .inr (0, [.int 0, .ref to, .ref ro, .ref sl, .ref li, .ref ca, .ref ho, .ref ta, .int 0]))] sz)) 0 0 (va_A [(tk, .inr (9, [.ref tq, .ref tp, .ref tv, .int 0])), (tq, .inl (cy 0, 401, .inl (fun _ => 0))), (tp, .inl (cy 0, 401, .inl (fun _ => 0))), (tv, .inl (cy 0, 401, .inl (fun _ => 0))), (b, .inr (0, [.int 0, .ref to, .ref ro, .ref sl, .ref li, .ref ca, .ref ho, .ref ta, .int 0]))] sz) := by
  refine Met.ofW (cc := cX9_cut) (maxL := 5) (ret := none) (by decide) rfl ?_
  intro p e s m args below meth c s₁ B hml hv
  obtain ⟨rfl, hsz, hP, hK, hD0, hN⟩ := hv
  have hx := B.exec
  have hb := B.bytes
  have hr := B.returns
  have hta := tl_hta (atoms_spec (ws := tl_w yX9_cut cX9_cut 5 none) B.pre)
  have hown : s.vm.findClass RX9 = some m.cls := findClass_of_methodNamed B.named
  have hlocks := B.notSynchronized
  subst hsz
  have hD := hD0.self (sz := s.heap.size)
  generalize hAe : va_A [(tk, .inr (9, [.ref tq, .ref tp, .ref tv, .int 0])), (tq, .inl (cy 0, 401, .inl (fun _ => 0))), (tp, .inl (cy 0, 401, .inl (fun _ => 0))), (tv, .inl (cy 0, 401, .inl (fun _ => 0))), (b, .inr (0, [.int 0, .ref to, .ref ro, .ref sl, .ref li, .ref ca, .ref ho, .ref ta, .int 0]))] s.heap.size = A at hD ⊢
  have hA : ∀ q : Nat, s.heap.size ≤ q → A q := fun q h => by rw [← hAe]; exact Or.inr h
  have hS : va_S A s.heap s.heap [] := va_S.rf
  have hP : va_P D vwCl [(tk, .inr (9, [.ref tq, .ref tp, .ref tv, .int 0])), (tq, .inl (cy 0, 401, .inl (fun _ => 0))), (tp, .inl (cy 0, 401, .inl (fun _ => 0))), (tv, .inl (cy 0, 401, .inl (fun _ => 0))), (b, .inr (0, [.int 0, .ref to, .ref ro, .ref sl, .ref li, .ref ca, .ref ho, .ref ta, .int 0]))] s.heap := hP
  have hl := lv_entry ([.ref tk, .ref b]) (n := 5) (Nat.le_of_ble_eq_true rfl)
  rw [lg_entry_eq]
  generalize (lg_sl ([.ref tk, .ref b]) ++ List.replicate (5 - (lg_sl ([.ref tk, .ref b])).length) Slot.unset).toArray = ls at hl ⊢
  have hl : lv_has ls 5 [(0, .ref tk), (1, .ref b)] := hl
  refine lv_aload_n hx hb dX9_cut_0 rfl (lv_at hl 0 rfl) ?_
  refine lv_iconst (v := 0) hx hb dX9_cut_1 (by decide) ?_
  refine va_put (D := D) (ci := 9) (v := .int 0) (ty := tyX9 3) (C := RX9) (T := TX9) (N := 4) hx hb hta inlX9 tyX9 tyX9_ok nmX9 hown hK hP hD hS 0 rfl rfl 3 (by decide) (hta _ wk_387) (fun _ h9 => h9) rfl (tyX9_ok 3 (by decide)) rfl rfl (Nat.le_of_ble_eq_true rfl) dX9_cut_2 (fun H locs hP hD hS => ?_)
  have hP : va_P D vwCl [(tk, .inr (9, [.ref tq, .ref tp, .ref tv, .int 0])), (tq, .inl (cy 0, 401, .inl (fun _ => 0))), (tp, .inl (cy 0, 401, .inl (fun _ => 0))), (tv, .inl (cy 0, 401, .inl (fun _ => 0))), (b, .inr (0, [.int 0, .ref to, .ref ro, .ref sl, .ref li, .ref ca, .ref ho, .ref ta, .int 0]))] H := hP
  have hD : va_D A [(tk, .inr (9, [.ref tq, .ref tp, .ref tv, .int 0])), (tq, .inl (cy 0, 401, .inl (fun _ => 0))), (tp, .inl (cy 0, 401, .inl (fun _ => 0))), (tv, .inl (cy 0, 401, .inl (fun _ => 0))), (b, .inr (0, [.int 0, .ref to, .ref ro, .ref sl, .ref li, .ref ca, .ref ho, .ref ta, .int 0]))] := hD
  refine lv_iconst (v := 0) hx hb dX9_cut_5 (by decide) ?_
  refine lv_istore_n (lv' := [(2, .int 0), (0, .ref tk), (1, .ref b)]) hx hb dX9_cut_6 rfl hl (by decide) rfl (fun ls hl => ?_)
  refine lv_iload_n hx hb dX9_cut_7 rfl (lv_at hl 0 rfl) ?_
  refine lv_aload_n hx hb dX9_cut_8 rfl (lv_at hl 2 rfl) ?_
  refine va_getN (D := D) (ci := 0) (v := .int 0) (C := RX0) (T := TX0) (N := 9) hx hb hta inlX0 hown hK hP 4 rfl rfl 8 (by decide) (va_Nw.use rfl (hN.1 25 _ nk_25)) (fun _ h9 => h9) rfl dX9_cut_9 ?_
  refine lv_icmp_ge (tgt := 171) hx hb dX9_cut_12 (by decide) (fun _ => ?_) (fun c => absurd c (by decide))
  refine lv_aload_n hx hb dX9_cut_171 rfl (lv_at hl 1 rfl) ?_
  refine lv_iconst (v := 0) hx hb dX9_cut_172 (by decide) ?_
  refine lv_aload_n hx hb dX9_cut_173 rfl (lv_at hl 2 rfl) ?_
  refine va_getN (D := D) (ci := 0) (v := .int 0) (C := RX0) (T := TX0) (N := 9) hx hb hta inlX0 hown hK hP 4 rfl rfl 8 (by decide) (va_Nw.use rfl (hN.1 25 _ nk_25)) (fun _ h9 => h9) rfl dX9_cut_174 ?_
  refine lv_iconst (v := 0) hx hb dX9_cut_177 (by decide) ?_
  have hPc := hP.sub (ws' := [(tk, .inr (9, [.ref tq, .ref tp, .ref tv, .int 0])), (tq, .inl (cy 0, 401, .inl (fun _ => 0))), (tp, .inl (cy 0, 401, .inl (fun _ => 0))), (tv, .inl (cy 0, 401, .inl (fun _ => 0)))]) [0, 1, 2, 3] rfl
  have hDc := hD.sub (ws' := [(tk, .inr (9, [.ref tq, .ref tp, .ref tv, .int 0])), (tq, .inl (cy 0, 401, .inl (fun _ => 0))), (tp, .inl (cy 0, 401, .inl (fun _ => 0))), (tv, .inl (cy 0, 401, .inl (fun _ => 0)))]) [0, 1, 2, 3] (by decide) rfl
  refine tl_cv (wr := [(b, .inr (0, [.int 0, .ref to, .ref ro, .ref sl, .ref li, .ref ca, .ref ho, .ref ta, .int 0]))]) _ _ hP hD hS hA [0, 1, 2, 3] [4] rfl rfl (by decide) (by decide) (tl_rV (As := [.int 0, .int 0, .int 0]) (rest := []) ⟨hx, hb, hml, hown, hta⟩ hK hN hPc hDc (ci := 9) rfl 0 rfl lk_X9_44 (c_X9_add l D cy H.size tk tq tp tv ) rfl rfl ⟨Nat.le_of_ble_eq_true rfl, Nat.le_of_ble_eq_true rfl⟩ rfl hl.1 rfl (Nat.le_of_ble_eq_true rfl) dX9_cut_178 ⟨Nat.le_of_ble_eq_true rfl, Nat.le_of_ble_eq_true rfl⟩) (fun u_3 H locs hw_1 hP hD hS => ?_)
  have hP : va_P D vwCl [(b, .inr (0, [.int 0, .ref to, .ref ro, .ref sl, .ref li, .ref ca, .ref ho, .ref ta, .int 0])), (tk, .inr (9, [.ref tq, .ref tp, .ref tv, .int 1])), (tq, .inl (cy 0, 401, .inl (upd (fun _ => 0) (0 : Int32).toNatClampNeg 0))), (tp, .inl (cy 0, 401, .inl (upd (fun _ => 0) (0 : Int32).toNatClampNeg 0))), (tv, .inl (cy 0, 401, .inl (upd (fun _ => 0) (0 : Int32).toNatClampNeg 0)))] H := hP
  have hD : va_D A [(b, .inr (0, [.int 0, .ref to, .ref ro, .ref sl, .ref li, .ref ca, .ref ho, .ref ta, .int 0])), (tk, .inr (9, [.ref tq, .ref tp, .ref tv, .int 1])), (tq, .inl (cy 0, 401, .inl (upd (fun _ => 0) (0 : Int32).toNatClampNeg 0))), (tp, .inl (cy 0, 401, .inl (upd (fun _ => 0) (0 : Int32).toNatClampNeg 0))), (tv, .inl (cy 0, 401, .inl (upd (fun _ => 0) (0 : Int32).toNatClampNeg 0)))] := hD
  refine W.widen (k := 0) (n := 0) (Nat.le_refl _) (Nat.le_refl _) ?_
  have hP9 := hP.sub (ws' := [(tk, .inr (9, [.ref tq, .ref tp, .ref tv, .int 1])), (tq, .inl (cy 0, 401, .inl (upd (fun _ => 0) (0 : Int32).toNatClampNeg 0))), (tp, .inl (cy 0, 401, .inl (upd (fun _ => 0) (0 : Int32).toNatClampNeg 0))), (tv, .inl (cy 0, 401, .inl (upd (fun _ => 0) (0 : Int32).toNatClampNeg 0))), (b, .inr (0, [.int 0, .ref to, .ref ro, .ref sl, .ref li, .ref ca, .ref ho, .ref ta, .int 0]))]) [1, 2, 3, 4, 0] rfl
  have hD9 := hD.sub (ws' := [(tk, .inr (9, [.ref tq, .ref tp, .ref tv, .int 1])), (tq, .inl (cy 0, 401, .inl (upd (fun _ => 0) (0 : Int32).toNatClampNeg 0))), (tp, .inl (cy 0, 401, .inl (upd (fun _ => 0) (0 : Int32).toNatClampNeg 0))), (tv, .inl (cy 0, 401, .inl (upd (fun _ => 0) (0 : Int32).toNatClampNeg 0))), (b, .inr (0, [.int 0, .ref to, .ref ro, .ref sl, .ref li, .ref ca, .ref ho, .ref ta, .int 0]))]) [1, 2, 3, 4, 0] (by decide) rfl
  exact W.vret hx hb hr (fun t ht hW => ⟨⟨(), rfl, trivial, by rw [ht]; exact hP9, hD9⟩, hS.F ht⟩) hS.2.2 dX9_cut_181
set_option maxHeartbeats 4000000 in
set_option maxRecDepth 100000 in
theorem c_X2_kindHere (l : Launch) (D : va_G) (cy : Nat → ClassId) (sz : Nat) (pa : Nat) (tk : Nat) (dr : Nat) (p0 : Int32) (tq : Nat) (tp : Nat) (tv : Nat)  : Met l yX2_kindHere (tl_w yX2_kindHere cX2_kindHere 1 (some .int)) ({ frames := 0, cells := 0, slots := 0, locals := 0 }) (va_Pc [.ref pa] (tl_P D cy [(pa, .inr (2, [.ref tk, .ref dr, .int p0, .int 0, .int 0, .int 0])), (tk, .inr (9, [.ref tq, .ref tp, .ref tv, .int 1])), (tq, .inl (cy 0, 401, .inl (upd (fun _ => 0) (0 : Int32).toNatClampNeg 0))), (tp, .inl (cy 0, 401, .inl (upd (fun _ => 0) (0 : Int32).toNatClampNeg 0))), (tv, .inl (cy 0, 401, .inl (upd (fun _ => 0) (0 : Int32).toNatClampNeg 0)))] sz)) (vp_Si (fun r : Int32 => r = 0)) 0 0 (fun _ => False) := by
  refine Met.ofW (cc := cX2_kindHere) (maxL := 1) (ret := (some .int)) (by decide) rfl ?_
  intro p e s m args below meth c s₁ B hml hv
  obtain ⟨rfl, hsz, hP, hK, hD0, hN⟩ := hv
  have hx := B.exec
  have hb := B.bytes
  have hr := B.returns
  have hta := tl_hta (atoms_spec (ws := tl_w yX2_kindHere cX2_kindHere 1 (some .int)) B.pre)
  have hown : s.vm.findClass RX2 = some m.cls := findClass_of_methodNamed B.named
  have hlocks := B.notSynchronized
  subst hsz
  have hD := hD0
  have hP : va_P D vwCl [(pa, .inr (2, [.ref tk, .ref dr, .int p0, .int 0, .int 0, .int 0])), (tk, .inr (9, [.ref tq, .ref tp, .ref tv, .int 1])), (tq, .inl (cy 0, 401, .inl (upd (fun _ => 0) (0 : Int32).toNatClampNeg 0))), (tp, .inl (cy 0, 401, .inl (upd (fun _ => 0) (0 : Int32).toNatClampNeg 0))), (tv, .inl (cy 0, 401, .inl (upd (fun _ => 0) (0 : Int32).toNatClampNeg 0)))] s.heap := hP
  have hl := lv_entry ([.ref pa]) (n := 1) (Nat.le_of_ble_eq_true rfl)
  rw [lg_entry_eq]
  generalize (lg_sl ([.ref pa]) ++ List.replicate (1 - (lg_sl ([.ref pa])).length) Slot.unset).toArray = ls at hl ⊢
  have hl : lv_has ls 1 [(0, .ref pa)] := hl
  refine lv_aload_n hx hb dX2_kindHere_0 rfl (lv_at hl 0 rfl) ?_
  refine va_get (D := D) (ci := 2) (v := .int 0) (C := RX2) (T := TX2) (N := 6) hx hb hta inlX2 hown hK hP 0 rfl rfl 3 (by decide) (hta _ wk_381) (fun _ h9 => h9) rfl dX2_kindHere_1 ?_
  refine lv_if_lt (tgt := 36) hx hb dX2_kindHere_4 (by decide) (fun c => absurd c (by decide)) (fun _ => ?_)
  refine lv_aload_n hx hb dX2_kindHere_7 rfl (lv_at hl 0 rfl) ?_
  refine va_get (D := D) (ci := 2) (v := .int 0) (C := RX2) (T := TX2) (N := 6) hx hb hta inlX2 hown hK hP 0 rfl rfl 3 (by decide) (hta _ wk_381) (fun _ h9 => h9) rfl dX2_kindHere_8 ?_
  refine lv_aload_n hx hb dX2_kindHere_11 rfl (lv_at hl 0 rfl) ?_
  refine va_get (D := D) (ci := 2) (v := .ref tk) (C := RX2) (T := TX2) (N := 6) hx hb hta inlX2 hown hK hP 0 rfl rfl 0 (by decide) (hta _ wk_99) (fun _ h9 => h9) rfl dX2_kindHere_12 ?_
  refine va_getN (D := D) (ci := 9) (v := .int 1) (C := RX9) (T := TX9) (N := 4) hx hb hta inlX9 hown hK hP 1 rfl rfl 3 (by decide) (va_Nw.use rfl (hN.1 34 _ nk_34)) (fun _ h9 => h9) rfl dX2_kindHere_15 ?_
  refine lv_icmp_ge (tgt := 36) hx hb dX2_kindHere_18 (by decide) (fun c => absurd c (by decide)) (fun _ => ?_)
  refine lv_aload_n hx hb dX2_kindHere_21 rfl (lv_at hl 0 rfl) ?_
  refine va_get (D := D) (ci := 2) (v := .ref tk) (C := RX2) (T := TX2) (N := 6) hx hb hta inlX2 hown hK hP 0 rfl rfl 0 (by decide) (hta _ wk_99) (fun _ h9 => h9) rfl dX2_kindHere_22 ?_
  refine va_getN (D := D) (ci := 9) (v := .ref tq) (C := RX9) (T := TX9) (N := 4) hx hb hta inlX9 hown hK hP 1 rfl rfl 0 (by decide) (va_Nw.use rfl (hN.1 31 _ nk_31)) (fun _ h9 => h9) rfl dX2_kindHere_25 ?_
  refine lv_aload_n hx hb dX2_kindHere_28 rfl (lv_at hl 0 rfl) ?_
  refine va_get (D := D) (ci := 2) (v := .int 0) (C := RX2) (T := TX2) (N := 6) hx hb hta inlX2 hown hK hP 0 rfl rfl 3 (by decide) (hta _ wk_381) (fun _ h9 => h9) rfl dX2_kindHere_29 ?_
  refine va_iald (D := D) hx hb hK hP 2 0 rfl rfl (tl_in (by decide) (by decide)) dX2_kindHere_32 ?_
  refine W.eq (g2 := F0 m 33 ls ([.int 0])) (by rw [pk_us]) ?_
  refine lv_goto (tgt := 37) hx hb dX2_kindHere_33 (by decide) ?_
  exact W.iret (v := 0) hx hb hr (fun t ht hW => ⟨_, rfl, rfl, ht⟩) (fun q h => by cases h) dX2_kindHere_37
set_option maxHeartbeats 4000000 in
set_option maxRecDepth 100000 in
theorem c_X2_valueHere (l : Launch) (D : va_G) (cy : Nat → ClassId) (sz : Nat) (pa : Nat) (tk : Nat) (dr : Nat) (p0 : Int32) (tq : Nat) (tp : Nat) (tv : Nat)  : Met l yX2_valueHere (tl_w yX2_valueHere cX2_valueHere 1 (some .int)) ({ frames := 0, cells := 0, slots := 0, locals := 0 }) (va_Pc [.ref pa] (tl_P D cy [(pa, .inr (2, [.ref tk, .ref dr, .int p0, .int 0, .int 0, .int 0])), (tk, .inr (9, [.ref tq, .ref tp, .ref tv, .int 1])), (tq, .inl (cy 0, 401, .inl (upd (fun _ => 0) (0 : Int32).toNatClampNeg 0))), (tp, .inl (cy 0, 401, .inl (upd (fun _ => 0) (0 : Int32).toNatClampNeg 0))), (tv, .inl (cy 0, 401, .inl (upd (fun _ => 0) (0 : Int32).toNatClampNeg 0)))] sz)) (vp_Si (fun r : Int32 => r = 0)) 0 0 (fun _ => False) := by
  refine Met.ofW (cc := cX2_valueHere) (maxL := 1) (ret := (some .int)) (by decide) rfl ?_
  intro p e s m args below meth c s₁ B hml hv
  obtain ⟨rfl, hsz, hP, hK, hD0, hN⟩ := hv
  have hx := B.exec
  have hb := B.bytes
  have hr := B.returns
  have hta := tl_hta (atoms_spec (ws := tl_w yX2_valueHere cX2_valueHere 1 (some .int)) B.pre)
  have hown : s.vm.findClass RX2 = some m.cls := findClass_of_methodNamed B.named
  have hlocks := B.notSynchronized
  subst hsz
  have hD := hD0
  have hP : va_P D vwCl [(pa, .inr (2, [.ref tk, .ref dr, .int p0, .int 0, .int 0, .int 0])), (tk, .inr (9, [.ref tq, .ref tp, .ref tv, .int 1])), (tq, .inl (cy 0, 401, .inl (upd (fun _ => 0) (0 : Int32).toNatClampNeg 0))), (tp, .inl (cy 0, 401, .inl (upd (fun _ => 0) (0 : Int32).toNatClampNeg 0))), (tv, .inl (cy 0, 401, .inl (upd (fun _ => 0) (0 : Int32).toNatClampNeg 0)))] s.heap := hP
  have hl := lv_entry ([.ref pa]) (n := 1) (Nat.le_of_ble_eq_true rfl)
  rw [lg_entry_eq]
  generalize (lg_sl ([.ref pa]) ++ List.replicate (1 - (lg_sl ([.ref pa])).length) Slot.unset).toArray = ls at hl ⊢
  have hl : lv_has ls 1 [(0, .ref pa)] := hl
  refine lv_aload_n hx hb dX2_valueHere_0 rfl (lv_at hl 0 rfl) ?_
  refine va_get (D := D) (ci := 2) (v := .int 0) (C := RX2) (T := TX2) (N := 6) hx hb hta inlX2 hown hK hP 0 rfl rfl 3 (by decide) (hta _ wk_381) (fun _ h9 => h9) rfl dX2_valueHere_1 ?_
  refine lv_if_lt (tgt := 36) hx hb dX2_valueHere_4 (by decide) (fun c => absurd c (by decide)) (fun _ => ?_)
  refine lv_aload_n hx hb dX2_valueHere_7 rfl (lv_at hl 0 rfl) ?_
  refine va_get (D := D) (ci := 2) (v := .int 0) (C := RX2) (T := TX2) (N := 6) hx hb hta inlX2 hown hK hP 0 rfl rfl 3 (by decide) (hta _ wk_381) (fun _ h9 => h9) rfl dX2_valueHere_8 ?_
  refine lv_aload_n hx hb dX2_valueHere_11 rfl (lv_at hl 0 rfl) ?_
  refine va_get (D := D) (ci := 2) (v := .ref tk) (C := RX2) (T := TX2) (N := 6) hx hb hta inlX2 hown hK hP 0 rfl rfl 0 (by decide) (hta _ wk_99) (fun _ h9 => h9) rfl dX2_valueHere_12 ?_
  refine va_getN (D := D) (ci := 9) (v := .int 1) (C := RX9) (T := TX9) (N := 4) hx hb hta inlX9 hown hK hP 1 rfl rfl 3 (by decide) (va_Nw.use rfl (hN.1 34 _ nk_34)) (fun _ h9 => h9) rfl dX2_valueHere_15 ?_
  refine lv_icmp_ge (tgt := 36) hx hb dX2_valueHere_18 (by decide) (fun c => absurd c (by decide)) (fun _ => ?_)
  refine lv_aload_n hx hb dX2_valueHere_21 rfl (lv_at hl 0 rfl) ?_
  refine va_get (D := D) (ci := 2) (v := .ref tk) (C := RX2) (T := TX2) (N := 6) hx hb hta inlX2 hown hK hP 0 rfl rfl 0 (by decide) (hta _ wk_99) (fun _ h9 => h9) rfl dX2_valueHere_22 ?_
  refine va_getN (D := D) (ci := 9) (v := .ref tv) (C := RX9) (T := TX9) (N := 4) hx hb hta inlX9 hown hK hP 1 rfl rfl 2 (by decide) (va_Nw.use rfl (hN.1 33 _ nk_33)) (fun _ h9 => h9) rfl dX2_valueHere_25 ?_
  refine lv_aload_n hx hb dX2_valueHere_28 rfl (lv_at hl 0 rfl) ?_
  refine va_get (D := D) (ci := 2) (v := .int 0) (C := RX2) (T := TX2) (N := 6) hx hb hta inlX2 hown hK hP 0 rfl rfl 3 (by decide) (hta _ wk_381) (fun _ h9 => h9) rfl dX2_valueHere_29 ?_
  refine va_iald (D := D) hx hb hK hP 4 0 rfl rfl (tl_in (by decide) (by decide)) dX2_valueHere_32 ?_
  refine W.eq (g2 := F0 m 33 ls ([.int 0])) (by rw [pk_us]) ?_
  refine lv_goto (tgt := 37) hx hb dX2_valueHere_33 (by decide) ?_
  exact W.iret (v := 0) hx hb hr (fun t ht hW => ⟨_, rfl, rfl, ht⟩) (fun q h => by cases h) dX2_valueHere_37
set_option maxHeartbeats 4000000 in
set_option maxRecDepth 100000 in
theorem c_X2_faultHere (l : Launch) (D : va_G) (cy : Nat → ClassId) (sz : Nat) (pa : Nat) (tk : Nat) (dr : Nat) (p0 : Int32) (tq : Nat) (tp : Nat) (tv : Nat)  : Met l yX2_faultHere (tl_w yX2_faultHere cX2_faultHere 3 (some .boolean)) ({ frames := 0, cells := 0, slots := 0, locals := 0 }) (va_Pc [.ref pa, .int 0] (tl_P D cy [(pa, .inr (2, [.ref tk, .ref dr, .int p0, .int 0, .int 0, .int 0])), (tk, .inr (9, [.ref tq, .ref tp, .ref tv, .int 1])), (tq, .inl (cy 0, 401, .inl (upd (fun _ => 0) (0 : Int32).toNatClampNeg 0))), (tp, .inl (cy 0, 401, .inl (upd (fun _ => 0) (0 : Int32).toNatClampNeg 0))), (tv, .inl (cy 0, 401, .inl (upd (fun _ => 0) (0 : Int32).toNatClampNeg 0)))] sz)) (va_Qi (fun (r : Int32) (u : Unit) => r = 0) (tl_B D (va_A [(pa, .inr (2, [.ref tk, .ref dr, .int p0, .int 0, .int 0, .int 0])), (tk, .inr (9, [.ref tq, .ref tp, .ref tv, .int 1])), (tq, .inl (cy 0, 401, .inl (upd (fun _ => 0) (0 : Int32).toNatClampNeg 0))), (tp, .inl (cy 0, 401, .inl (upd (fun _ => 0) (0 : Int32).toNatClampNeg 0))), (tv, .inl (cy 0, 401, .inl (upd (fun _ => 0) (0 : Int32).toNatClampNeg 0)))] sz) (fun u : Unit => [(pa, .inr (2, [.ref tk, .ref dr, .int p0, .int 0, .int 0, .int 1]))])) (va_A [(pa, .inr (2, [.ref tk, .ref dr, .int p0, .int 0, .int 0, .int 0])), (tk, .inr (9, [.ref tq, .ref tp, .ref tv, .int 1])), (tq, .inl (cy 0, 401, .inl (upd (fun _ => 0) (0 : Int32).toNatClampNeg 0))), (tp, .inl (cy 0, 401, .inl (upd (fun _ => 0) (0 : Int32).toNatClampNeg 0))), (tv, .inl (cy 0, 401, .inl (upd (fun _ => 0) (0 : Int32).toNatClampNeg 0)))] sz)) 0 0 (va_A [(pa, .inr (2, [.ref tk, .ref dr, .int p0, .int 0, .int 0, .int 0])), (tk, .inr (9, [.ref tq, .ref tp, .ref tv, .int 1])), (tq, .inl (cy 0, 401, .inl (upd (fun _ => 0) (0 : Int32).toNatClampNeg 0))), (tp, .inl (cy 0, 401, .inl (upd (fun _ => 0) (0 : Int32).toNatClampNeg 0))), (tv, .inl (cy 0, 401, .inl (upd (fun _ => 0) (0 : Int32).toNatClampNeg 0)))] sz) := by
  refine Met.ofW (cc := cX2_faultHere) (maxL := 3) (ret := (some .boolean)) (by decide) rfl ?_
  intro p e s m args below meth c s₁ B hml hv
  obtain ⟨rfl, hsz, hP, hK, hD0, hN⟩ := hv
  have hx := B.exec
  have hb := B.bytes
  have hr := B.returns
  have hta := tl_hta (atoms_spec (ws := tl_w yX2_faultHere cX2_faultHere 3 (some .boolean)) B.pre)
  have hown : s.vm.findClass RX2 = some m.cls := findClass_of_methodNamed B.named
  have hlocks := B.notSynchronized
  subst hsz
  have hD := hD0.self (sz := s.heap.size)
  generalize hAe : va_A [(pa, .inr (2, [.ref tk, .ref dr, .int p0, .int 0, .int 0, .int 0])), (tk, .inr (9, [.ref tq, .ref tp, .ref tv, .int 1])), (tq, .inl (cy 0, 401, .inl (upd (fun _ => 0) (0 : Int32).toNatClampNeg 0))), (tp, .inl (cy 0, 401, .inl (upd (fun _ => 0) (0 : Int32).toNatClampNeg 0))), (tv, .inl (cy 0, 401, .inl (upd (fun _ => 0) (0 : Int32).toNatClampNeg 0)))] s.heap.size = A at hD ⊢
  have hA : ∀ q : Nat, s.heap.size ≤ q → A q := fun q h => by rw [← hAe]; exact Or.inr h
  have hS : va_S A s.heap s.heap [] := va_S.rf
  have hP : va_P D vwCl [(pa, .inr (2, [.ref tk, .ref dr, .int p0, .int 0, .int 0, .int 0])), (tk, .inr (9, [.ref tq, .ref tp, .ref tv, .int 1])), (tq, .inl (cy 0, 401, .inl (upd (fun _ => 0) (0 : Int32).toNatClampNeg 0))), (tp, .inl (cy 0, 401, .inl (upd (fun _ => 0) (0 : Int32).toNatClampNeg 0))), (tv, .inl (cy 0, 401, .inl (upd (fun _ => 0) (0 : Int32).toNatClampNeg 0)))] s.heap := hP
  have hl := lv_entry ([.ref pa, .int 0]) (n := 3) (Nat.le_of_ble_eq_true rfl)
  rw [lg_entry_eq]
  generalize (lg_sl ([.ref pa, .int 0]) ++ List.replicate (3 - (lg_sl ([.ref pa, .int 0])).length) Slot.unset).toArray = ls at hl ⊢
  have hl : lv_has ls 3 [(0, .ref pa), (1, .int 0)] := hl
  refine lv_aload_n hx hb dX2_faultHere_0 rfl (lv_at hl 0 rfl) ?_
  refine va_get (D := D) (ci := 2) (v := .int 0) (C := RX2) (T := TX2) (N := 6) hx hb hta inlX2 hown hK hP 0 rfl rfl 3 (by decide) (hta _ wk_381) (fun _ h9 => h9) rfl dX2_faultHere_1 ?_
  refine lv_if_lt (tgt := 36) hx hb dX2_faultHere_4 (by decide) (fun c => absurd c (by decide)) (fun _ => ?_)
  refine lv_aload_n hx hb dX2_faultHere_7 rfl (lv_at hl 0 rfl) ?_
  refine va_get (D := D) (ci := 2) (v := .int 0) (C := RX2) (T := TX2) (N := 6) hx hb hta inlX2 hown hK hP 0 rfl rfl 3 (by decide) (hta _ wk_381) (fun _ h9 => h9) rfl dX2_faultHere_8 ?_
  refine lv_aload_n hx hb dX2_faultHere_11 rfl (lv_at hl 0 rfl) ?_
  refine va_get (D := D) (ci := 2) (v := .ref tk) (C := RX2) (T := TX2) (N := 6) hx hb hta inlX2 hown hK hP 0 rfl rfl 0 (by decide) (hta _ wk_99) (fun _ h9 => h9) rfl dX2_faultHere_12 ?_
  refine va_getN (D := D) (ci := 9) (v := .int 1) (C := RX9) (T := TX9) (N := 4) hx hb hta inlX9 hown hK hP 1 rfl rfl 3 (by decide) (va_Nw.use rfl (hN.1 34 _ nk_34)) (fun _ h9 => h9) rfl dX2_faultHere_15 ?_
  refine lv_icmp_ge (tgt := 36) hx hb dX2_faultHere_18 (by decide) (fun c => absurd c (by decide)) (fun _ => ?_)
  refine lv_aload_n hx hb dX2_faultHere_21 rfl (lv_at hl 0 rfl) ?_
  refine va_get (D := D) (ci := 2) (v := .ref tk) (C := RX2) (T := TX2) (N := 6) hx hb hta inlX2 hown hK hP 0 rfl rfl 0 (by decide) (hta _ wk_99) (fun _ h9 => h9) rfl dX2_faultHere_22 ?_
  refine va_getN (D := D) (ci := 9) (v := .ref tp) (C := RX9) (T := TX9) (N := 4) hx hb hta inlX9 hown hK hP 1 rfl rfl 1 (by decide) (va_Nw.use rfl (hN.1 32 _ nk_32)) (fun _ h9 => h9) rfl dX2_faultHere_25 ?_
  refine lv_aload_n hx hb dX2_faultHere_28 rfl (lv_at hl 0 rfl) ?_
  refine va_get (D := D) (ci := 2) (v := .int 0) (C := RX2) (T := TX2) (N := 6) hx hb hta inlX2 hown hK hP 0 rfl rfl 3 (by decide) (hta _ wk_381) (fun _ h9 => h9) rfl dX2_faultHere_29 ?_
  refine va_iald (D := D) hx hb hK hP 3 0 rfl rfl (tl_in (by decide) (by decide)) dX2_faultHere_32 ?_
  refine W.eq (g2 := F0 m 33 ls ([.int 0])) (by rw [pk_us]) ?_
  refine lv_goto (tgt := 37) hx hb dX2_faultHere_33 (by decide) ?_
  refine lv_istore_n (lv' := [(2, .int 0), (0, .ref pa), (1, .int 0)]) hx hb dX2_faultHere_37 rfl hl (by decide) rfl (fun ls hl => ?_)
  refine lv_aload_n hx hb dX2_faultHere_38 rfl (lv_at hl 1 rfl) ?_
  refine lv_iconst (v := 1) hx hb dX2_faultHere_39 (by decide) ?_
  refine lv_bipush (v := 8) hx hb dX2_faultHere_40 (by decide) ?_
  refine lv_iload_n hx hb dX2_faultHere_42 rfl (lv_at hl 0 rfl) ?_
  refine lv_imul hx hb dX2_faultHere_43 ?_
  refine lv_topi (fun z_1 ez_1 => ?_)
  obtain rfl : z_1 = (0 : Int32) := ez_1.trans (by decide)
  refine lv_iadd hx hb dX2_faultHere_44 ?_
  refine lv_topi (fun z_2 ez_2 => ?_)
  obtain rfl : z_2 = (1 : Int32) := ez_2.trans (by decide)
  refine lv_iload_n hx hb dX2_faultHere_45 rfl (lv_at hl 2 rfl) ?_
  refine lv_iadd hx hb dX2_faultHere_46 ?_
  refine lv_topi (fun z_3 ez_3 => ?_)
  obtain rfl : z_3 = (1 : Int32) := ez_3.trans (by decide)
  refine va_put (D := D) (ci := 2) (v := .int 1) (ty := tyX2 5) (C := RX2) (T := TX2) (N := 6) hx hb hta inlX2 tyX2 tyX2_ok nmX2 hown hK hP hD hS 0 rfl rfl 5 (by decide) (hta _ wk_383) (fun _ h9 => h9) rfl (tyX2_ok 5 (by decide)) rfl rfl (Nat.le_of_ble_eq_true rfl) dX2_faultHere_47 (fun H locs hP hD hS => ?_)
  have hP : va_P D vwCl [(pa, .inr (2, [.ref tk, .ref dr, .int p0, .int 0, .int 0, .int 1])), (tk, .inr (9, [.ref tq, .ref tp, .ref tv, .int 1])), (tq, .inl (cy 0, 401, .inl (upd (fun _ => 0) (0 : Int32).toNatClampNeg 0))), (tp, .inl (cy 0, 401, .inl (upd (fun _ => 0) (0 : Int32).toNatClampNeg 0))), (tv, .inl (cy 0, 401, .inl (upd (fun _ => 0) (0 : Int32).toNatClampNeg 0)))] H := hP
  have hD : va_D A [(pa, .inr (2, [.ref tk, .ref dr, .int p0, .int 0, .int 0, .int 1])), (tk, .inr (9, [.ref tq, .ref tp, .ref tv, .int 1])), (tq, .inl (cy 0, 401, .inl (upd (fun _ => 0) (0 : Int32).toNatClampNeg 0))), (tp, .inl (cy 0, 401, .inl (upd (fun _ => 0) (0 : Int32).toNatClampNeg 0))), (tv, .inl (cy 0, 401, .inl (upd (fun _ => 0) (0 : Int32).toNatClampNeg 0)))] := hD
  refine lv_iconst (v := 0) hx hb dX2_faultHere_50 (by decide) ?_
  have hP9 := hP.sub (ws' := [(pa, .inr (2, [.ref tk, .ref dr, .int p0, .int 0, .int 0, .int 1]))]) [0] rfl
  have hD9 := hD.sub (ws' := [(pa, .inr (2, [.ref tk, .ref dr, .int p0, .int 0, .int 0, .int 1]))]) [0] (by decide) rfl
  exact W.zret (ty := .boolean) (v := 0) hx hb hr rfl (fun t ht hW => ⟨⟨_, (), rfl, rfl, by rw [ht]; exact hP9, hD9⟩, hS.F ht⟩) hS.2.2 dX2_faultHere_51
set_option maxHeartbeats 4000000 in
set_option maxRecDepth 100000 in
theorem c_X2_head (l : Launch) (D : va_G) (cy : Nat → ClassId) (sz : Nat) (pa : Nat) (tk : Nat) (dr : Nat) (p0 : Int32) (tq : Nat) (tp : Nat) (tv : Nat)  : Met l yX2_head (tl_w yX2_head cX2_head 3 (some .boolean)) ({ frames := 1, cells := 0, slots := 0, locals := 22 }) (va_Pc [.ref pa] (tl_P D cy [(pa, .inr (2, [.ref tk, .ref dr, .int p0, .int 0, .int 0, .int 0])), (tk, .inr (9, [.ref tq, .ref tp, .ref tv, .int 1])), (tq, .inl (cy 0, 401, .inl (upd (fun _ => 0) (0 : Int32).toNatClampNeg 0))), (tp, .inl (cy 0, 401, .inl (upd (fun _ => 0) (0 : Int32).toNatClampNeg 0))), (tv, .inl (cy 0, 401, .inl (upd (fun _ => 0) (0 : Int32).toNatClampNeg 0)))] sz)) (va_Qi (fun (r : Int32) (u : Unit) => r = 0) (tl_B D (va_A [(pa, .inr (2, [.ref tk, .ref dr, .int p0, .int 0, .int 0, .int 0])), (tk, .inr (9, [.ref tq, .ref tp, .ref tv, .int 1])), (tq, .inl (cy 0, 401, .inl (upd (fun _ => 0) (0 : Int32).toNatClampNeg 0))), (tp, .inl (cy 0, 401, .inl (upd (fun _ => 0) (0 : Int32).toNatClampNeg 0))), (tv, .inl (cy 0, 401, .inl (upd (fun _ => 0) (0 : Int32).toNatClampNeg 0)))] sz) (fun u : Unit => [(pa, .inr (2, [.ref tk, .ref dr, .int p0, .int 0, .int 0, .int 1]))])) (va_A [(pa, .inr (2, [.ref tk, .ref dr, .int p0, .int 0, .int 0, .int 0])), (tk, .inr (9, [.ref tq, .ref tp, .ref tv, .int 1])), (tq, .inl (cy 0, 401, .inl (upd (fun _ => 0) (0 : Int32).toNatClampNeg 0))), (tp, .inl (cy 0, 401, .inl (upd (fun _ => 0) (0 : Int32).toNatClampNeg 0))), (tv, .inl (cy 0, 401, .inl (upd (fun _ => 0) (0 : Int32).toNatClampNeg 0)))] sz)) 0 0 (va_A [(pa, .inr (2, [.ref tk, .ref dr, .int p0, .int 0, .int 0, .int 0])), (tk, .inr (9, [.ref tq, .ref tp, .ref tv, .int 1])), (tq, .inl (cy 0, 401, .inl (upd (fun _ => 0) (0 : Int32).toNatClampNeg 0))), (tp, .inl (cy 0, 401, .inl (upd (fun _ => 0) (0 : Int32).toNatClampNeg 0))), (tv, .inl (cy 0, 401, .inl (upd (fun _ => 0) (0 : Int32).toNatClampNeg 0)))] sz) := by
  refine Met.ofW (cc := cX2_head) (maxL := 3) (ret := (some .boolean)) (by decide) rfl ?_
  intro p e s m args below meth c s₁ B hml hv
  obtain ⟨rfl, hsz, hP, hK, hD0, hN⟩ := hv
  have hx := B.exec
  have hb := B.bytes
  have hr := B.returns
  have hta := tl_hta (atoms_spec (ws := tl_w yX2_head cX2_head 3 (some .boolean)) B.pre)
  have hown : s.vm.findClass RX2 = some m.cls := findClass_of_methodNamed B.named
  have hlocks := B.notSynchronized
  subst hsz
  have hD := hD0.self (sz := s.heap.size)
  generalize hAe : va_A [(pa, .inr (2, [.ref tk, .ref dr, .int p0, .int 0, .int 0, .int 0])), (tk, .inr (9, [.ref tq, .ref tp, .ref tv, .int 1])), (tq, .inl (cy 0, 401, .inl (upd (fun _ => 0) (0 : Int32).toNatClampNeg 0))), (tp, .inl (cy 0, 401, .inl (upd (fun _ => 0) (0 : Int32).toNatClampNeg 0))), (tv, .inl (cy 0, 401, .inl (upd (fun _ => 0) (0 : Int32).toNatClampNeg 0)))] s.heap.size = A at hD ⊢
  have hA : ∀ q : Nat, s.heap.size ≤ q → A q := fun q h => by rw [← hAe]; exact Or.inr h
  have hS : va_S A s.heap s.heap [] := va_S.rf
  have hP : va_P D vwCl [(pa, .inr (2, [.ref tk, .ref dr, .int p0, .int 0, .int 0, .int 0])), (tk, .inr (9, [.ref tq, .ref tp, .ref tv, .int 1])), (tq, .inl (cy 0, 401, .inl (upd (fun _ => 0) (0 : Int32).toNatClampNeg 0))), (tp, .inl (cy 0, 401, .inl (upd (fun _ => 0) (0 : Int32).toNatClampNeg 0))), (tv, .inl (cy 0, 401, .inl (upd (fun _ => 0) (0 : Int32).toNatClampNeg 0)))] s.heap := hP
  have hl := lv_entry ([.ref pa]) (n := 3) (Nat.le_of_ble_eq_true rfl)
  rw [lg_entry_eq]
  generalize (lg_sl ([.ref pa]) ++ List.replicate (3 - (lg_sl ([.ref pa])).length) Slot.unset).toArray = ls at hl ⊢
  have hl : lv_has ls 3 [(0, .ref pa)] := hl
  refine lv_aload_n hx hb dX2_head_0 rfl (lv_at hl 0 rfl) ?_
  refine tl_si (tl_rV (As := []) (rest := []) ⟨hx, hb, hml, hown, hta⟩ hK hN hP hD (ci := 2) rfl 0 rfl lk_X2_67 (c_X2_valueHere l D cy s.heap.size pa tk dr p0 tq tp tv ) rfl rfl ⟨Nat.le_of_ble_eq_true rfl, Nat.le_of_ble_eq_true rfl⟩ rfl hl.1 rfl (Nat.le_of_ble_eq_true rfl) dX2_head_1 ⟨Nat.le_of_ble_eq_true rfl, Nat.le_of_ble_eq_true rfl⟩) (fun r_2 hw_1 => ?_)
  subst hw_1
  refine lv_istore_n (lv' := [(1, .int 0), (0, .ref pa)]) hx hb dX2_head_4 rfl hl (by decide) rfl (fun ls hl => ?_)
  refine lv_aload_n hx hb dX2_head_5 rfl (lv_at hl 1 rfl) ?_
  refine tl_si (tl_rV (As := []) (rest := []) ⟨hx, hb, hml, hown, hta⟩ hK hN hP hD (ci := 2) rfl 0 rfl lk_X2_49 (c_X2_kindHere l D cy s.heap.size pa tk dr p0 tq tp tv ) rfl rfl ⟨Nat.le_of_ble_eq_true rfl, Nat.le_of_ble_eq_true rfl⟩ rfl hl.1 rfl (Nat.le_of_ble_eq_true rfl) dX2_head_6 ⟨Nat.le_of_ble_eq_true rfl, Nat.le_of_ble_eq_true rfl⟩) (fun r_4 hw_3 => ?_)
  subst hw_3
  refine lv_iconst (v := 3) hx hb dX2_head_9 (by decide) ?_
  refine lv_icmp_ne (tgt := 21) hx hb dX2_head_10 (by decide) (fun _ => ?_) (fun c => absurd c (by decide))
  refine lv_aload_n hx hb dX2_head_21 rfl (lv_at hl 1 rfl) ?_
  refine lv_iconst (v := 0) hx hb dX2_head_22 (by decide) ?_
  refine tl_ci (wr := []) _ _ hP hD hS hA [0, 1, 2, 3, 4] [] rfl rfl (by decide) (by decide) (tl_rV (As := [.int 0]) (rest := []) ⟨hx, hb, hml, hown, hta⟩ hK hN hP hD (ci := 2) rfl 0 rfl lk_X2_53 (c_X2_faultHere l D cy s.heap.size pa tk dr p0 tq tp tv ) rfl rfl ⟨Nat.le_of_ble_eq_true rfl, Nat.le_of_ble_eq_true rfl⟩ rfl hl.1 rfl (Nat.le_of_ble_eq_true rfl) dX2_head_23 ⟨Nat.le_of_ble_eq_true rfl, Nat.le_of_ble_eq_true rfl⟩) (fun r_6 u_7 H locs hw_5 hP hD hS => ?_)
  have hP : va_P D vwCl [(pa, .inr (2, [.ref tk, .ref dr, .int p0, .int 0, .int 0, .int 1]))] H := hP
  have hD : va_D A [(pa, .inr (2, [.ref tk, .ref dr, .int p0, .int 0, .int 0, .int 1]))] := hD
  refine W.widen (k := 0) (n := 0) (Nat.le_refl _) (Nat.le_refl _) ?_
  subst hw_5
  have hP9 := hP.sub (ws' := [(pa, .inr (2, [.ref tk, .ref dr, .int p0, .int 0, .int 0, .int 1]))]) [0] rfl
  have hD9 := hD.sub (ws' := [(pa, .inr (2, [.ref tk, .ref dr, .int p0, .int 0, .int 0, .int 1]))]) [0] (by decide) rfl
  exact W.zret (ty := .boolean) (v := 0) hx hb hr rfl (fun t ht hW => ⟨⟨_, (), rfl, rfl, by rw [ht]; exact hP9, hD9⟩, hS.F ht⟩) hS.2.2 dX2_head_26
set_option maxHeartbeats 4000000 in
set_option maxRecDepth 100000 in
theorem c_X2_parse (l : Launch) (D : va_G) (cy : Nat → ClassId) (sz : Nat) (pa : Nat) (b : Nat) (p0 : Int32) (dr : Nat) (tk : Nat) (te : Nat) (tq : Nat) (tp : Nat) (tv : Nat) (to : Nat) (ro : Nat) (sl : Nat) (li : Nat) (ca : Nat) (ho : Nat) (ta : Nat)  : Met l yX2_parse (tl_w yX2_parse cX2_parse 5 (some .int)) ({ frames := 2, cells := 0, slots := 0, locals := 47 }) (va_Pc [.ref pa, .ref b, .int p0, .ref dr] (tl_P D cy [(pa, .inr (2, [.ref tk, .ref te, .int 0, .int 0, .int 0, .int 0])), (tk, .inr (9, [.ref tq, .ref tp, .ref tv, .int 0])), (tq, .inl (cy 0, 401, .inl (fun _ => 0))), (tp, .inl (cy 0, 401, .inl (fun _ => 0))), (tv, .inl (cy 0, 401, .inl (fun _ => 0))), (b, .inr (0, [.int 0, .ref to, .ref ro, .ref sl, .ref li, .ref ca, .ref ho, .ref ta, .int 0]))] sz)) (va_Qi (fun (r : Int32) (u : Unit) => r = 1) (tl_B D (va_A [(pa, .inr (2, [.ref tk, .ref te, .int 0, .int 0, .int 0, .int 0])), (tk, .inr (9, [.ref tq, .ref tp, .ref tv, .int 0])), (tq, .inl (cy 0, 401, .inl (fun _ => 0))), (tp, .inl (cy 0, 401, .inl (fun _ => 0))), (tv, .inl (cy 0, 401, .inl (fun _ => 0))), (b, .inr (0, [.int 0, .ref to, .ref ro, .ref sl, .ref li, .ref ca, .ref ho, .ref ta, .int 0]))] sz) (fun u : Unit => [(b, .inr (0, [.int 0, .ref to, .ref ro, .ref sl, .ref li, .ref ca, .ref ho, .ref ta, .int 0]))])) (va_A [(pa, .inr (2, [.ref tk, .ref te, .int 0, .int 0, .int 0, .int 0])), (tk, .inr (9, [.ref tq, .ref tp, .ref tv, .int 0])), (tq, .inl (cy 0, 401, .inl (fun _ => 0))), (tp, .inl (cy 0, 401, .inl (fun _ => 0))), (tv, .inl (cy 0, 401, .inl (fun _ => 0))), (b, .inr (0, [.int 0, .ref to, .ref ro, .ref sl, .ref li, .ref ca, .ref ho, .ref ta, .int 0]))] sz)) 0 0 (va_A [(pa, .inr (2, [.ref tk, .ref te, .int 0, .int 0, .int 0, .int 0])), (tk, .inr (9, [.ref tq, .ref tp, .ref tv, .int 0])), (tq, .inl (cy 0, 401, .inl (fun _ => 0))), (tp, .inl (cy 0, 401, .inl (fun _ => 0))), (tv, .inl (cy 0, 401, .inl (fun _ => 0))), (b, .inr (0, [.int 0, .ref to, .ref ro, .ref sl, .ref li, .ref ca, .ref ho, .ref ta, .int 0]))] sz) := by
  refine Met.ofW (cc := cX2_parse) (maxL := 5) (ret := (some .int)) (by decide) rfl ?_
  intro p e s m args below meth c s₁ B hml hv
  obtain ⟨rfl, hsz, hP, hK, hD0, hN⟩ := hv
  have hx := B.exec
  have hb := B.bytes
  have hr := B.returns
  have hta := tl_hta (atoms_spec (ws := tl_w yX2_parse cX2_parse 5 (some .int)) B.pre)
  have hown : s.vm.findClass RX2 = some m.cls := findClass_of_methodNamed B.named
  have hlocks := B.notSynchronized
  subst hsz
  have hD := hD0.self (sz := s.heap.size)
  generalize hAe : va_A [(pa, .inr (2, [.ref tk, .ref te, .int 0, .int 0, .int 0, .int 0])), (tk, .inr (9, [.ref tq, .ref tp, .ref tv, .int 0])), (tq, .inl (cy 0, 401, .inl (fun _ => 0))), (tp, .inl (cy 0, 401, .inl (fun _ => 0))), (tv, .inl (cy 0, 401, .inl (fun _ => 0))), (b, .inr (0, [.int 0, .ref to, .ref ro, .ref sl, .ref li, .ref ca, .ref ho, .ref ta, .int 0]))] s.heap.size = A at hD ⊢
  have hA : ∀ q : Nat, s.heap.size ≤ q → A q := fun q h => by rw [← hAe]; exact Or.inr h
  have hS : va_S A s.heap s.heap [] := va_S.rf
  have hP : va_P D vwCl [(pa, .inr (2, [.ref tk, .ref te, .int 0, .int 0, .int 0, .int 0])), (tk, .inr (9, [.ref tq, .ref tp, .ref tv, .int 0])), (tq, .inl (cy 0, 401, .inl (fun _ => 0))), (tp, .inl (cy 0, 401, .inl (fun _ => 0))), (tv, .inl (cy 0, 401, .inl (fun _ => 0))), (b, .inr (0, [.int 0, .ref to, .ref ro, .ref sl, .ref li, .ref ca, .ref ho, .ref ta, .int 0]))] s.heap := hP
  have hl := lv_entry ([.ref pa, .ref b, .int p0, .ref dr]) (n := 5) (Nat.le_of_ble_eq_true rfl)
  rw [lg_entry_eq]
  generalize (lg_sl ([.ref pa, .ref b, .int p0, .ref dr]) ++ List.replicate (5 - (lg_sl ([.ref pa, .ref b, .int p0, .ref dr])).length) Slot.unset).toArray = ls at hl ⊢
  have hl : lv_has ls 5 [(0, .ref pa), (1, .ref b), (2, .int p0), (3, .ref dr)] := hl
  refine lv_aload_n hx hb dX2_parse_0 rfl (lv_at hl 0 rfl) ?_
  refine va_get (D := D) (ci := 2) (v := .ref tk) (C := RX2) (T := TX2) (N := 6) hx hb hta inlX2 hown hK hP 0 rfl rfl 0 (by decide) (hta _ wk_99) (fun _ h9 => h9) rfl dX2_parse_1 ?_
  refine lv_aload_n hx hb dX2_parse_4 rfl (lv_at hl 1 rfl) ?_
  have hPc := hP.sub (ws' := [(tk, .inr (9, [.ref tq, .ref tp, .ref tv, .int 0])), (tq, .inl (cy 0, 401, .inl (fun _ => 0))), (tp, .inl (cy 0, 401, .inl (fun _ => 0))), (tv, .inl (cy 0, 401, .inl (fun _ => 0))), (b, .inr (0, [.int 0, .ref to, .ref ro, .ref sl, .ref li, .ref ca, .ref ho, .ref ta, .int 0]))]) [1, 2, 3, 4, 5] rfl
  have hDc := hD.sub (ws' := [(tk, .inr (9, [.ref tq, .ref tp, .ref tv, .int 0])), (tq, .inl (cy 0, 401, .inl (fun _ => 0))), (tp, .inl (cy 0, 401, .inl (fun _ => 0))), (tv, .inl (cy 0, 401, .inl (fun _ => 0))), (b, .inr (0, [.int 0, .ref to, .ref ro, .ref sl, .ref li, .ref ca, .ref ho, .ref ta, .int 0]))]) [1, 2, 3, 4, 5] (by decide) rfl
  refine tl_cv (wr := [(pa, .inr (2, [.ref tk, .ref te, .int 0, .int 0, .int 0, .int 0]))]) _ _ hP hD hS hA [1, 2, 3, 4, 5] [0] rfl rfl (by decide) (by decide) (tl_rVN (As := [.ref b]) (rest := []) ⟨hx, hb, hml, hown, hta⟩ hK hN hPc hDc (ci := 9) rfl 0 rfl lk_X2_25 (c_X9_cut l D cy s.heap.size tk b tq tp tv to ro sl li ca ho ta ) rfl rfl ⟨Nat.le_of_ble_eq_true rfl, Nat.le_of_ble_eq_true rfl⟩ rfl hl.1 rfl (Nat.le_of_ble_eq_true rfl) dX2_parse_5 ⟨Nat.le_of_ble_eq_true rfl, Nat.le_of_ble_eq_true rfl⟩) (fun u_3 H locs hw_1 hP hD hS => ?_)
  have hP : va_P D vwCl [(pa, .inr (2, [.ref tk, .ref te, .int 0, .int 0, .int 0, .int 0])), (tk, .inr (9, [.ref tq, .ref tp, .ref tv, .int 1])), (tq, .inl (cy 0, 401, .inl (upd (fun _ => 0) (0 : Int32).toNatClampNeg 0))), (tp, .inl (cy 0, 401, .inl (upd (fun _ => 0) (0 : Int32).toNatClampNeg 0))), (tv, .inl (cy 0, 401, .inl (upd (fun _ => 0) (0 : Int32).toNatClampNeg 0))), (b, .inr (0, [.int 0, .ref to, .ref ro, .ref sl, .ref li, .ref ca, .ref ho, .ref ta, .int 0]))] H := hP
  have hD : va_D A [(pa, .inr (2, [.ref tk, .ref te, .int 0, .int 0, .int 0, .int 0])), (tk, .inr (9, [.ref tq, .ref tp, .ref tv, .int 1])), (tq, .inl (cy 0, 401, .inl (upd (fun _ => 0) (0 : Int32).toNatClampNeg 0))), (tp, .inl (cy 0, 401, .inl (upd (fun _ => 0) (0 : Int32).toNatClampNeg 0))), (tv, .inl (cy 0, 401, .inl (upd (fun _ => 0) (0 : Int32).toNatClampNeg 0))), (b, .inr (0, [.int 0, .ref to, .ref ro, .ref sl, .ref li, .ref ca, .ref ho, .ref ta, .int 0]))] := hD
  refine W.widen (k := 0) (n := 0) (Nat.le_refl _) (Nat.le_refl _) ?_
  refine lv_aload_n hx hb dX2_parse_8 rfl (lv_at hl 0 rfl) ?_
  refine lv_aload_n hx hb dX2_parse_9 rfl (lv_at hl 3 rfl) ?_
  refine va_put (D := D) (ci := 2) (v := .ref dr) (ty := tyX2 1) (C := RX2) (T := TX2) (N := 6) hx hb hta inlX2 tyX2 tyX2_ok nmX2 hown hK hP hD hS 0 rfl rfl 1 (by decide) (hta _ wk_101) (fun _ h9 => h9) rfl (tyX2_ok 1 (by decide)) rfl rfl (Nat.le_of_ble_eq_true rfl) dX2_parse_10 (fun H locs hP hD hS => ?_)
  have hP : va_P D vwCl [(pa, .inr (2, [.ref tk, .ref dr, .int 0, .int 0, .int 0, .int 0])), (tk, .inr (9, [.ref tq, .ref tp, .ref tv, .int 1])), (tq, .inl (cy 0, 401, .inl (upd (fun _ => 0) (0 : Int32).toNatClampNeg 0))), (tp, .inl (cy 0, 401, .inl (upd (fun _ => 0) (0 : Int32).toNatClampNeg 0))), (tv, .inl (cy 0, 401, .inl (upd (fun _ => 0) (0 : Int32).toNatClampNeg 0))), (b, .inr (0, [.int 0, .ref to, .ref ro, .ref sl, .ref li, .ref ca, .ref ho, .ref ta, .int 0]))] H := hP
  have hD : va_D A [(pa, .inr (2, [.ref tk, .ref dr, .int 0, .int 0, .int 0, .int 0])), (tk, .inr (9, [.ref tq, .ref tp, .ref tv, .int 1])), (tq, .inl (cy 0, 401, .inl (upd (fun _ => 0) (0 : Int32).toNatClampNeg 0))), (tp, .inl (cy 0, 401, .inl (upd (fun _ => 0) (0 : Int32).toNatClampNeg 0))), (tv, .inl (cy 0, 401, .inl (upd (fun _ => 0) (0 : Int32).toNatClampNeg 0))), (b, .inr (0, [.int 0, .ref to, .ref ro, .ref sl, .ref li, .ref ca, .ref ho, .ref ta, .int 0]))] := hD
  refine lv_aload_n hx hb dX2_parse_13 rfl (lv_at hl 0 rfl) ?_
  refine lv_iload_n hx hb dX2_parse_14 rfl (lv_at hl 2 rfl) ?_
  refine va_put (D := D) (ci := 2) (v := .int p0) (ty := tyX2 2) (C := RX2) (T := TX2) (N := 6) hx hb hta inlX2 tyX2 tyX2_ok nmX2 hown hK hP hD hS 0 rfl rfl 2 (by decide) (hta _ wk_380) (fun _ h9 => h9) rfl (tyX2_ok 2 (by decide)) rfl rfl (Nat.le_of_ble_eq_true rfl) dX2_parse_15 (fun H locs hP hD hS => ?_)
  have hP : va_P D vwCl [(pa, .inr (2, [.ref tk, .ref dr, .int p0, .int 0, .int 0, .int 0])), (tk, .inr (9, [.ref tq, .ref tp, .ref tv, .int 1])), (tq, .inl (cy 0, 401, .inl (upd (fun _ => 0) (0 : Int32).toNatClampNeg 0))), (tp, .inl (cy 0, 401, .inl (upd (fun _ => 0) (0 : Int32).toNatClampNeg 0))), (tv, .inl (cy 0, 401, .inl (upd (fun _ => 0) (0 : Int32).toNatClampNeg 0))), (b, .inr (0, [.int 0, .ref to, .ref ro, .ref sl, .ref li, .ref ca, .ref ho, .ref ta, .int 0]))] H := hP
  have hD : va_D A [(pa, .inr (2, [.ref tk, .ref dr, .int p0, .int 0, .int 0, .int 0])), (tk, .inr (9, [.ref tq, .ref tp, .ref tv, .int 1])), (tq, .inl (cy 0, 401, .inl (upd (fun _ => 0) (0 : Int32).toNatClampNeg 0))), (tp, .inl (cy 0, 401, .inl (upd (fun _ => 0) (0 : Int32).toNatClampNeg 0))), (tv, .inl (cy 0, 401, .inl (upd (fun _ => 0) (0 : Int32).toNatClampNeg 0))), (b, .inr (0, [.int 0, .ref to, .ref ro, .ref sl, .ref li, .ref ca, .ref ho, .ref ta, .int 0]))] := hD
  refine lv_aload_n hx hb dX2_parse_18 rfl (lv_at hl 0 rfl) ?_
  refine lv_iconst (v := 0) hx hb dX2_parse_19 (by decide) ?_
  refine va_put (D := D) (ci := 2) (v := .int 0) (ty := tyX2 3) (C := RX2) (T := TX2) (N := 6) hx hb hta inlX2 tyX2 tyX2_ok nmX2 hown hK hP hD hS 0 rfl rfl 3 (by decide) (hta _ wk_381) (fun _ h9 => h9) rfl (tyX2_ok 3 (by decide)) rfl rfl (Nat.le_of_ble_eq_true rfl) dX2_parse_20 (fun H locs hP hD hS => ?_)
  have hP : va_P D vwCl [(pa, .inr (2, [.ref tk, .ref dr, .int p0, .int 0, .int 0, .int 0])), (tk, .inr (9, [.ref tq, .ref tp, .ref tv, .int 1])), (tq, .inl (cy 0, 401, .inl (upd (fun _ => 0) (0 : Int32).toNatClampNeg 0))), (tp, .inl (cy 0, 401, .inl (upd (fun _ => 0) (0 : Int32).toNatClampNeg 0))), (tv, .inl (cy 0, 401, .inl (upd (fun _ => 0) (0 : Int32).toNatClampNeg 0))), (b, .inr (0, [.int 0, .ref to, .ref ro, .ref sl, .ref li, .ref ca, .ref ho, .ref ta, .int 0]))] H := hP
  have hD : va_D A [(pa, .inr (2, [.ref tk, .ref dr, .int p0, .int 0, .int 0, .int 0])), (tk, .inr (9, [.ref tq, .ref tp, .ref tv, .int 1])), (tq, .inl (cy 0, 401, .inl (upd (fun _ => 0) (0 : Int32).toNatClampNeg 0))), (tp, .inl (cy 0, 401, .inl (upd (fun _ => 0) (0 : Int32).toNatClampNeg 0))), (tv, .inl (cy 0, 401, .inl (upd (fun _ => 0) (0 : Int32).toNatClampNeg 0))), (b, .inr (0, [.int 0, .ref to, .ref ro, .ref sl, .ref li, .ref ca, .ref ho, .ref ta, .int 0]))] := hD
  refine lv_aload_n hx hb dX2_parse_23 rfl (lv_at hl 0 rfl) ?_
  refine lv_iconst (v := 0) hx hb dX2_parse_24 (by decide) ?_
  refine va_put (D := D) (ci := 2) (v := .int 0) (ty := tyX2 4) (C := RX2) (T := TX2) (N := 6) hx hb hta inlX2 tyX2 tyX2_ok nmX2 hown hK hP hD hS 0 rfl rfl 4 (by decide) (hta _ wk_382) (fun _ h9 => h9) rfl (tyX2_ok 4 (by decide)) rfl rfl (Nat.le_of_ble_eq_true rfl) dX2_parse_25 (fun H locs hP hD hS => ?_)
  have hP : va_P D vwCl [(pa, .inr (2, [.ref tk, .ref dr, .int p0, .int 0, .int 0, .int 0])), (tk, .inr (9, [.ref tq, .ref tp, .ref tv, .int 1])), (tq, .inl (cy 0, 401, .inl (upd (fun _ => 0) (0 : Int32).toNatClampNeg 0))), (tp, .inl (cy 0, 401, .inl (upd (fun _ => 0) (0 : Int32).toNatClampNeg 0))), (tv, .inl (cy 0, 401, .inl (upd (fun _ => 0) (0 : Int32).toNatClampNeg 0))), (b, .inr (0, [.int 0, .ref to, .ref ro, .ref sl, .ref li, .ref ca, .ref ho, .ref ta, .int 0]))] H := hP
  have hD : va_D A [(pa, .inr (2, [.ref tk, .ref dr, .int p0, .int 0, .int 0, .int 0])), (tk, .inr (9, [.ref tq, .ref tp, .ref tv, .int 1])), (tq, .inl (cy 0, 401, .inl (upd (fun _ => 0) (0 : Int32).toNatClampNeg 0))), (tp, .inl (cy 0, 401, .inl (upd (fun _ => 0) (0 : Int32).toNatClampNeg 0))), (tv, .inl (cy 0, 401, .inl (upd (fun _ => 0) (0 : Int32).toNatClampNeg 0))), (b, .inr (0, [.int 0, .ref to, .ref ro, .ref sl, .ref li, .ref ca, .ref ho, .ref ta, .int 0]))] := hD
  refine lv_aload_n hx hb dX2_parse_28 rfl (lv_at hl 0 rfl) ?_
  refine lv_iconst (v := 0) hx hb dX2_parse_29 (by decide) ?_
  refine va_put (D := D) (ci := 2) (v := .int 0) (ty := tyX2 5) (C := RX2) (T := TX2) (N := 6) hx hb hta inlX2 tyX2 tyX2_ok nmX2 hown hK hP hD hS 0 rfl rfl 5 (by decide) (hta _ wk_383) (fun _ h9 => h9) rfl (tyX2_ok 5 (by decide)) rfl rfl (Nat.le_of_ble_eq_true rfl) dX2_parse_30 (fun H locs hP hD hS => ?_)
  have hP : va_P D vwCl [(pa, .inr (2, [.ref tk, .ref dr, .int p0, .int 0, .int 0, .int 0])), (tk, .inr (9, [.ref tq, .ref tp, .ref tv, .int 1])), (tq, .inl (cy 0, 401, .inl (upd (fun _ => 0) (0 : Int32).toNatClampNeg 0))), (tp, .inl (cy 0, 401, .inl (upd (fun _ => 0) (0 : Int32).toNatClampNeg 0))), (tv, .inl (cy 0, 401, .inl (upd (fun _ => 0) (0 : Int32).toNatClampNeg 0))), (b, .inr (0, [.int 0, .ref to, .ref ro, .ref sl, .ref li, .ref ca, .ref ho, .ref ta, .int 0]))] H := hP
  have hD : va_D A [(pa, .inr (2, [.ref tk, .ref dr, .int p0, .int 0, .int 0, .int 0])), (tk, .inr (9, [.ref tq, .ref tp, .ref tv, .int 1])), (tq, .inl (cy 0, 401, .inl (upd (fun _ => 0) (0 : Int32).toNatClampNeg 0))), (tp, .inl (cy 0, 401, .inl (upd (fun _ => 0) (0 : Int32).toNatClampNeg 0))), (tv, .inl (cy 0, 401, .inl (upd (fun _ => 0) (0 : Int32).toNatClampNeg 0))), (b, .inr (0, [.int 0, .ref to, .ref ro, .ref sl, .ref li, .ref ca, .ref ho, .ref ta, .int 0]))] := hD
  refine lv_iconst (v := 0) hx hb dX2_parse_33 (by decide) ?_
  refine lv_istore (lv' := [(4, .int 0), (0, .ref pa), (1, .ref b), (2, .int p0), (3, .ref dr)]) hx hb dX2_parse_34 hl (by decide) rfl (fun ls hl => ?_)
  refine lv_iload hx hb dX2_parse_36 (lv_at hl 0 rfl) ?_
  refine lv_bipush (v := 12) hx hb dX2_parse_38 (by decide) ?_
  refine lv_icmp_gt (tgt := 107) hx hb dX2_parse_40 (by decide) (fun c => absurd c (by decide)) (fun _ => ?_)
  refine lv_aload_n hx hb dX2_parse_43 rfl (lv_at hl 1 rfl) ?_
  have hPc := hP.sub (ws' := [(pa, .inr (2, [.ref tk, .ref dr, .int p0, .int 0, .int 0, .int 0])), (tk, .inr (9, [.ref tq, .ref tp, .ref tv, .int 1])), (tq, .inl (cy 0, 401, .inl (upd (fun _ => 0) (0 : Int32).toNatClampNeg 0))), (tp, .inl (cy 0, 401, .inl (upd (fun _ => 0) (0 : Int32).toNatClampNeg 0))), (tv, .inl (cy 0, 401, .inl (upd (fun _ => 0) (0 : Int32).toNatClampNeg 0)))]) [0, 1, 2, 3, 4] rfl
  have hDc := hD.sub (ws' := [(pa, .inr (2, [.ref tk, .ref dr, .int p0, .int 0, .int 0, .int 0])), (tk, .inr (9, [.ref tq, .ref tp, .ref tv, .int 1])), (tq, .inl (cy 0, 401, .inl (upd (fun _ => 0) (0 : Int32).toNatClampNeg 0))), (tp, .inl (cy 0, 401, .inl (upd (fun _ => 0) (0 : Int32).toNatClampNeg 0))), (tv, .inl (cy 0, 401, .inl (upd (fun _ => 0) (0 : Int32).toNatClampNeg 0)))]) [0, 1, 2, 3, 4] (by decide) rfl
  refine tl_ci (wr := [(b, .inr (0, [.int 0, .ref to, .ref ro, .ref sl, .ref li, .ref ca, .ref ho, .ref ta, .int 0]))]) _ _ hP hD hS hA [0, 1, 2, 3, 4] [5] rfl rfl (by decide) (by decide) (tl_rV (As := []) (rest := []) ⟨hx, hb, hml, hown, hta⟩ hK hN hPc hDc (ci := 2) rfl 0 rfl lk_X2_42 (c_X2_head l D cy H.size pa tk dr p0 tq tp tv ) rfl rfl ⟨Nat.le_of_ble_eq_true rfl, Nat.le_of_ble_eq_true rfl⟩ rfl hl.1 rfl (Nat.le_of_ble_eq_true rfl) dX2_parse_44 ⟨Nat.le_of_ble_eq_true rfl, Nat.le_of_ble_eq_true rfl⟩) (fun r_5 u_6 H locs hw_4 hP hD hS => ?_)
  have hP : va_P D vwCl [(b, .inr (0, [.int 0, .ref to, .ref ro, .ref sl, .ref li, .ref ca, .ref ho, .ref ta, .int 0])), (pa, .inr (2, [.ref tk, .ref dr, .int p0, .int 0, .int 0, .int 1]))] H := hP
  have hD : va_D A [(b, .inr (0, [.int 0, .ref to, .ref ro, .ref sl, .ref li, .ref ca, .ref ho, .ref ta, .int 0])), (pa, .inr (2, [.ref tk, .ref dr, .int p0, .int 0, .int 0, .int 1]))] := hD
  refine W.widen (k := 0) (n := 0) (Nat.le_refl _) (Nat.le_refl _) ?_
  subst hw_4
  refine lv_if_eq (tgt := 57) hx hb dX2_parse_47 (by decide) (fun _ => ?_) (fun c => absurd c (by decide))
  refine lv_aload_n hx hb dX2_parse_57 rfl (lv_at hl 1 rfl) ?_
  refine va_get (D := D) (ci := 2) (v := .int 1) (C := RX2) (T := TX2) (N := 6) hx hb hta inlX2 hown hK hP 1 rfl rfl 5 (by decide) (hta _ wk_383) (fun _ h9 => h9) rfl dX2_parse_58 ?_
  have hP9 := hP.sub (ws' := [(b, .inr (0, [.int 0, .ref to, .ref ro, .ref sl, .ref li, .ref ca, .ref ho, .ref ta, .int 0]))]) [0] rfl
  have hD9 := hD.sub (ws' := [(b, .inr (0, [.int 0, .ref to, .ref ro, .ref sl, .ref li, .ref ca, .ref ho, .ref ta, .int 0]))]) [0] (by decide) rfl
  exact W.iret (v := 1) hx hb hr (fun t ht hW => ⟨⟨_, (), rfl, rfl, by rw [ht]; exact hP9, hD9⟩, hS.F ht⟩) hS.2.2 dX2_parse_61
set_option maxHeartbeats 4000000 in
set_option maxRecDepth 100000 in
theorem c_X11_shelfOf_0 (l : Launch) (D : va_G) (cy : Nat → ClassId) (sz : Nat) (x : Nat) (b : Nat) (im : Nat) (la : Nat) (cu : Nat) (wa : Nat) (pa : Nat) (dr : Nat) (su : Nat) (mk : Nat) (vi : Nat) (re : Nat) (rd : Nat) (so : Nat) (fw : Nat) (wo : Nat) (gi : Nat)  : Met l yX11_shelfOf (tl_w yX11_shelfOf cX11_shelfOf 2 (some (.object "ThinLine$Texts"))) ({ frames := 0, cells := 0, slots := 0, locals := 0 }) (va_Pc [.ref x, .int 0] (tl_P D cy [(x, .inr (11, [.ref b, .ref im, .ref la, .ref cu, .ref wa, .ref pa, .ref dr, .ref su, .ref mk, .ref vi, .ref re, .ref rd, .ref so, .ref fw, .ref wo, .ref gi]))] sz)) (va_Sq (fun r : Option Nat => r = some la)) 0 0 (fun _ => False) := by
  refine Met.ofW (cc := cX11_shelfOf) (maxL := 2) (ret := (some (.object "ThinLine$Texts"))) (by decide) rfl ?_
  intro p e s m args below meth c s₁ B hml hv
  obtain ⟨rfl, hsz, hP, hK, hD0, hN⟩ := hv
  have hx := B.exec
  have hb := B.bytes
  have hr := B.returns
  have hta := tl_hta (atoms_spec (ws := tl_w yX11_shelfOf cX11_shelfOf 2 (some (.object "ThinLine$Texts"))) B.pre)
  have hown : s.vm.findClass RX11 = some m.cls := findClass_of_methodNamed B.named
  have hlocks := B.notSynchronized
  subst hsz
  have hD := hD0
  have hP : va_P D vwCl [(x, .inr (11, [.ref b, .ref im, .ref la, .ref cu, .ref wa, .ref pa, .ref dr, .ref su, .ref mk, .ref vi, .ref re, .ref rd, .ref so, .ref fw, .ref wo, .ref gi]))] s.heap := hP
  have hl := lv_entry ([.ref x, .int 0]) (n := 2) (Nat.le_of_ble_eq_true rfl)
  rw [lg_entry_eq]
  generalize (lg_sl ([.ref x, .int 0]) ++ List.replicate (2 - (lg_sl ([.ref x, .int 0])).length) Slot.unset).toArray = ls at hl ⊢
  have hl : lv_has ls 2 [(0, .ref x), (1, .int 0)] := hl
  refine lv_iload_n hx hb dX11_shelfOf_0 rfl (lv_at hl 1 rfl) ?_
  refine lv_tableIn (tgt := 28) hx hb dX11_shelfOf_1 (by decide) (by decide) (by rfl) (by decide) ?_
  refine lv_aload_n hx hb dX11_shelfOf_28 rfl (lv_at hl 0 rfl) ?_
  refine va_get (D := D) (ci := 11) (v := .ref la) (C := RX11) (T := TX11) (N := 16) hx hb hta inlX11 hown hK hP 0 rfl rfl 2 (by decide) (hta _ wk_20) (fun _ h9 => h9) rfl dX11_shelfOf_29 ?_
  exact W.aret (v := .ref la) hx hb hr (Or.inl ⟨_, rfl⟩) (Or.inr ⟨_, rfl⟩) (fun t ht hW => ⟨some la, rfl, rfl, ht⟩) (fun q h => by cases h) dX11_shelfOf_32
set_option maxHeartbeats 4000000 in
set_option maxRecDepth 100000 in
theorem c_X11_shelfOf_1 (l : Launch) (D : va_G) (cy : Nat → ClassId) (sz : Nat) (x : Nat) (b : Nat) (im : Nat) (la : Nat) (cu : Nat) (wa : Nat) (pa : Nat) (dr : Nat) (su : Nat) (mk : Nat) (vi : Nat) (re : Nat) (rd : Nat) (so : Nat) (fw : Nat) (wo : Nat) (gi : Nat)  : Met l yX11_shelfOf (tl_w yX11_shelfOf cX11_shelfOf 2 (some (.object "ThinLine$Texts"))) ({ frames := 0, cells := 0, slots := 0, locals := 0 }) (va_Pc [.ref x, .int 1] (tl_P D cy [(x, .inr (11, [.ref b, .ref im, .ref la, .ref cu, .ref wa, .ref pa, .ref dr, .ref su, .ref mk, .ref vi, .ref re, .ref rd, .ref so, .ref fw, .ref wo, .ref gi]))] sz)) (va_Sq (fun r : Option Nat => r = some cu)) 0 0 (fun _ => False) := by
  refine Met.ofW (cc := cX11_shelfOf) (maxL := 2) (ret := (some (.object "ThinLine$Texts"))) (by decide) rfl ?_
  intro p e s m args below meth c s₁ B hml hv
  obtain ⟨rfl, hsz, hP, hK, hD0, hN⟩ := hv
  have hx := B.exec
  have hb := B.bytes
  have hr := B.returns
  have hta := tl_hta (atoms_spec (ws := tl_w yX11_shelfOf cX11_shelfOf 2 (some (.object "ThinLine$Texts"))) B.pre)
  have hown : s.vm.findClass RX11 = some m.cls := findClass_of_methodNamed B.named
  have hlocks := B.notSynchronized
  subst hsz
  have hD := hD0
  have hP : va_P D vwCl [(x, .inr (11, [.ref b, .ref im, .ref la, .ref cu, .ref wa, .ref pa, .ref dr, .ref su, .ref mk, .ref vi, .ref re, .ref rd, .ref so, .ref fw, .ref wo, .ref gi]))] s.heap := hP
  have hl := lv_entry ([.ref x, .int 1]) (n := 2) (Nat.le_of_ble_eq_true rfl)
  rw [lg_entry_eq]
  generalize (lg_sl ([.ref x, .int 1]) ++ List.replicate (2 - (lg_sl ([.ref x, .int 1])).length) Slot.unset).toArray = ls at hl ⊢
  have hl : lv_has ls 2 [(0, .ref x), (1, .int 1)] := hl
  refine lv_iload_n hx hb dX11_shelfOf_0 rfl (lv_at hl 1 rfl) ?_
  refine lv_tableIn (tgt := 33) hx hb dX11_shelfOf_1 (by decide) (by decide) (by rfl) (by decide) ?_
  refine lv_aload_n hx hb dX11_shelfOf_33 rfl (lv_at hl 0 rfl) ?_
  refine va_get (D := D) (ci := 11) (v := .ref cu) (C := RX11) (T := TX11) (N := 16) hx hb hta inlX11 hown hK hP 0 rfl rfl 3 (by decide) (hta _ wk_21) (fun _ h9 => h9) rfl dX11_shelfOf_34 ?_
  exact W.aret (v := .ref cu) hx hb hr (Or.inl ⟨_, rfl⟩) (Or.inr ⟨_, rfl⟩) (fun t ht hW => ⟨some cu, rfl, rfl, ht⟩) (fun q h => by cases h) dX11_shelfOf_37
set_option maxHeartbeats 4000000 in
set_option maxRecDepth 100000 in
theorem c_X11_shelfOf_2 (l : Launch) (D : va_G) (cy : Nat → ClassId) (sz : Nat) (x : Nat) (b : Nat) (im : Nat) (la : Nat) (cu : Nat) (wa : Nat) (pa : Nat) (dr : Nat) (su : Nat) (mk : Nat) (vi : Nat) (re : Nat) (rd : Nat) (so : Nat) (fw : Nat) (wo : Nat) (gi : Nat)  : Met l yX11_shelfOf (tl_w yX11_shelfOf cX11_shelfOf 2 (some (.object "ThinLine$Texts"))) ({ frames := 0, cells := 0, slots := 0, locals := 0 }) (va_Pc [.ref x, .int 2] (tl_P D cy [(x, .inr (11, [.ref b, .ref im, .ref la, .ref cu, .ref wa, .ref pa, .ref dr, .ref su, .ref mk, .ref vi, .ref re, .ref rd, .ref so, .ref fw, .ref wo, .ref gi]))] sz)) (va_Sq (fun r : Option Nat => r = some wa)) 0 0 (fun _ => False) := by
  refine Met.ofW (cc := cX11_shelfOf) (maxL := 2) (ret := (some (.object "ThinLine$Texts"))) (by decide) rfl ?_
  intro p e s m args below meth c s₁ B hml hv
  obtain ⟨rfl, hsz, hP, hK, hD0, hN⟩ := hv
  have hx := B.exec
  have hb := B.bytes
  have hr := B.returns
  have hta := tl_hta (atoms_spec (ws := tl_w yX11_shelfOf cX11_shelfOf 2 (some (.object "ThinLine$Texts"))) B.pre)
  have hown : s.vm.findClass RX11 = some m.cls := findClass_of_methodNamed B.named
  have hlocks := B.notSynchronized
  subst hsz
  have hD := hD0
  have hP : va_P D vwCl [(x, .inr (11, [.ref b, .ref im, .ref la, .ref cu, .ref wa, .ref pa, .ref dr, .ref su, .ref mk, .ref vi, .ref re, .ref rd, .ref so, .ref fw, .ref wo, .ref gi]))] s.heap := hP
  have hl := lv_entry ([.ref x, .int 2]) (n := 2) (Nat.le_of_ble_eq_true rfl)
  rw [lg_entry_eq]
  generalize (lg_sl ([.ref x, .int 2]) ++ List.replicate (2 - (lg_sl ([.ref x, .int 2])).length) Slot.unset).toArray = ls at hl ⊢
  have hl : lv_has ls 2 [(0, .ref x), (1, .int 2)] := hl
  refine lv_iload_n hx hb dX11_shelfOf_0 rfl (lv_at hl 1 rfl) ?_
  refine lv_tableIn (tgt := 38) hx hb dX11_shelfOf_1 (by decide) (by decide) (by rfl) (by decide) ?_
  refine lv_aload_n hx hb dX11_shelfOf_38 rfl (lv_at hl 0 rfl) ?_
  refine va_get (D := D) (ci := 11) (v := .ref wa) (C := RX11) (T := TX11) (N := 16) hx hb hta inlX11 hown hK hP 0 rfl rfl 4 (by decide) (hta _ wk_22) (fun _ h9 => h9) rfl dX11_shelfOf_39 ?_
  exact W.aret (v := .ref wa) hx hb hr (Or.inl ⟨_, rfl⟩) (Or.inr ⟨_, rfl⟩) (fun t ht hW => ⟨some wa, rfl, rfl, ht⟩) (fun q h => by cases h) dX11_shelfOf_42
set_option maxHeartbeats 4000000 in
set_option maxRecDepth 100000 in
theorem c_X11_shelfOf_n (l : Launch) (D : va_G) (cy : Nat → ClassId) (sz : Nat) (x : Nat) (p0 : Int32) (b : Nat) (im : Nat) (la : Nat) (cu : Nat) (wa : Nat) (pa : Nat) (dr : Nat) (su : Nat) (mk : Nat) (vi : Nat) (re : Nat) (rd : Nat) (so : Nat) (fw : Nat) (wo : Nat) (gi : Nat) (hne : p0.toInt < 0 ∨ 2 < p0.toInt) : Met l yX11_shelfOf (tl_w yX11_shelfOf cX11_shelfOf 2 (some (.object "ThinLine$Texts"))) ({ frames := 0, cells := 0, slots := 0, locals := 0 }) (va_Pc [.ref x, .int p0] (tl_P D cy [(x, .inr (11, [.ref b, .ref im, .ref la, .ref cu, .ref wa, .ref pa, .ref dr, .ref su, .ref mk, .ref vi, .ref re, .ref rd, .ref so, .ref fw, .ref wo, .ref gi]))] sz)) (va_Sq (fun r : Option Nat => r = none)) 0 0 (fun _ => False) := by
  refine Met.ofW (cc := cX11_shelfOf) (maxL := 2) (ret := (some (.object "ThinLine$Texts"))) (by decide) rfl ?_
  intro p e s m args below meth c s₁ B hml hv
  obtain ⟨rfl, hsz, hP, hK, hD0, hN⟩ := hv
  have hx := B.exec
  have hb := B.bytes
  have hr := B.returns
  have hta := tl_hta (atoms_spec (ws := tl_w yX11_shelfOf cX11_shelfOf 2 (some (.object "ThinLine$Texts"))) B.pre)
  have hown : s.vm.findClass RX11 = some m.cls := findClass_of_methodNamed B.named
  have hlocks := B.notSynchronized
  subst hsz
  have hD := hD0
  have hP : va_P D vwCl [(x, .inr (11, [.ref b, .ref im, .ref la, .ref cu, .ref wa, .ref pa, .ref dr, .ref su, .ref mk, .ref vi, .ref re, .ref rd, .ref so, .ref fw, .ref wo, .ref gi]))] s.heap := hP
  have hl := lv_entry ([.ref x, .int p0]) (n := 2) (Nat.le_of_ble_eq_true rfl)
  rw [lg_entry_eq]
  generalize (lg_sl ([.ref x, .int p0]) ++ List.replicate (2 - (lg_sl ([.ref x, .int p0])).length) Slot.unset).toArray = ls at hl ⊢
  have hl : lv_has ls 2 [(0, .ref x), (1, .int p0)] := hl
  refine lv_iload_n hx hb dX11_shelfOf_0 rfl (lv_at hl 1 rfl) ?_
  refine lv_tableOut (tgt := 43) hx hb dX11_shelfOf_1 (by omega) (by decide) ?_
  refine lv_null hx hb dX11_shelfOf_43 ?_
  exact W.aret (v := .null) hx hb hr (Or.inl ⟨_, rfl⟩) (Or.inl rfl) (fun t ht hW => ⟨none, rfl, rfl, ht⟩) (fun q h => by cases h) dX11_shelfOf_44
set_option maxHeartbeats 4000000 in
set_option maxRecDepth 100000 in
theorem c_X11_text_0 (l : Launch) (D : va_G) (cy : Nat → ClassId) (sz : Nat) (x : Nat) (b : Nat) (im : Nat) (la : Nat) (cu : Nat) (wa : Nat) (pa : Nat) (dr : Nat) (su : Nat) (mk : Nat) (vi : Nat) (re : Nat) (rd : Nat) (so : Nat) (fw : Nat) (wo : Nat) (gi : Nat) (to : Nat) (ro : Nat) (sl : Nat) (li : Nat) (ca : Nat) (ho : Nat) (ta : Nat) (lk : Nat) (ck : Nat) (wk : Nat) (t0 : Nat) (t1 : Nat) (t2 : Nat) (t3 : Nat) (t4 : Nat) (t5 : Nat) (t6 : Nat) (tk : Nat) (te : Nat) (tq : Nat) (tp : Nat) (tv : Nat)  : Met l yX11_text (tl_w yX11_text cX11_text 5 (some .int)) ({ frames := 6, cells := 0, slots := 0, locals := 200 }) (va_Pc [.ref x, .int 0] (tl_P D cy [(x, .inr (11, [.ref b, .ref im, .ref la, .ref cu, .ref wa, .ref pa, .ref dr, .ref su, .ref mk, .ref vi, .ref re, .ref rd, .ref so, .ref fw, .ref wo, .ref gi])), (b, .inr (0, [.int 0, .ref to, .ref ro, .ref sl, .ref li, .ref ca, .ref ho, .ref ta, .int 0])), (la, .inr (8, [.ref lk, .int 0])), (lk, .inl (cy 5, 6, .inr (.inr (.inr (.inr (fun _ => none)))))), (cu, .inr (8, [.ref ck, .int 0])), (ck, .inl (cy 5, 8, .inr (.inr (.inr (.inr (fun _ => none)))))), (wa, .inr (8, [.ref wk, .int 0])), (wk, .inl (cy 5, 8, .inr (.inr (.inr (.inr (fun _ => none)))))), (dr, .inr (7, [.int 0, .ref t0, .ref t1, .ref t2, .ref t3, .ref t4, .ref t5, .ref t6, .int 0])), (pa, .inr (2, [.ref tk, .ref te, .int 0, .int 0, .int 0, .int 0])), (tk, .inr (9, [.ref tq, .ref tp, .ref tv, .int 0])), (tq, .inl (cy 0, 401, .inl (fun _ => 0))), (tp, .inl (cy 0, 401, .inl (fun _ => 0))), (tv, .inl (cy 0, 401, .inl (fun _ => 0)))] sz)) (va_Qi (fun (r : Int32) (u : Unit) => tl_E r (0 ≤ (0 : Int32).toInt ∧ (0 : Int32).toInt ≤ 2) (-3) (-1)) (tl_B D (va_A [(x, .inr (11, [.ref b, .ref im, .ref la, .ref cu, .ref wa, .ref pa, .ref dr, .ref su, .ref mk, .ref vi, .ref re, .ref rd, .ref so, .ref fw, .ref wo, .ref gi])), (b, .inr (0, [.int 0, .ref to, .ref ro, .ref sl, .ref li, .ref ca, .ref ho, .ref ta, .int 0])), (la, .inr (8, [.ref lk, .int 0])), (lk, .inl (cy 5, 6, .inr (.inr (.inr (.inr (fun _ => none)))))), (cu, .inr (8, [.ref ck, .int 0])), (ck, .inl (cy 5, 8, .inr (.inr (.inr (.inr (fun _ => none)))))), (wa, .inr (8, [.ref wk, .int 0])), (wk, .inl (cy 5, 8, .inr (.inr (.inr (.inr (fun _ => none)))))), (dr, .inr (7, [.int 0, .ref t0, .ref t1, .ref t2, .ref t3, .ref t4, .ref t5, .ref t6, .int 0])), (pa, .inr (2, [.ref tk, .ref te, .int 0, .int 0, .int 0, .int 0])), (tk, .inr (9, [.ref tq, .ref tp, .ref tv, .int 0])), (tq, .inl (cy 0, 401, .inl (fun _ => 0))), (tp, .inl (cy 0, 401, .inl (fun _ => 0))), (tv, .inl (cy 0, 401, .inl (fun _ => 0)))] sz) (fun u : Unit => [])) (va_A [(x, .inr (11, [.ref b, .ref im, .ref la, .ref cu, .ref wa, .ref pa, .ref dr, .ref su, .ref mk, .ref vi, .ref re, .ref rd, .ref so, .ref fw, .ref wo, .ref gi])), (b, .inr (0, [.int 0, .ref to, .ref ro, .ref sl, .ref li, .ref ca, .ref ho, .ref ta, .int 0])), (la, .inr (8, [.ref lk, .int 0])), (lk, .inl (cy 5, 6, .inr (.inr (.inr (.inr (fun _ => none)))))), (cu, .inr (8, [.ref ck, .int 0])), (ck, .inl (cy 5, 8, .inr (.inr (.inr (.inr (fun _ => none)))))), (wa, .inr (8, [.ref wk, .int 0])), (wk, .inl (cy 5, 8, .inr (.inr (.inr (.inr (fun _ => none)))))), (dr, .inr (7, [.int 0, .ref t0, .ref t1, .ref t2, .ref t3, .ref t4, .ref t5, .ref t6, .int 0])), (pa, .inr (2, [.ref tk, .ref te, .int 0, .int 0, .int 0, .int 0])), (tk, .inr (9, [.ref tq, .ref tp, .ref tv, .int 0])), (tq, .inl (cy 0, 401, .inl (fun _ => 0))), (tp, .inl (cy 0, 401, .inl (fun _ => 0))), (tv, .inl (cy 0, 401, .inl (fun _ => 0)))] sz)) 0 0 (va_A [(x, .inr (11, [.ref b, .ref im, .ref la, .ref cu, .ref wa, .ref pa, .ref dr, .ref su, .ref mk, .ref vi, .ref re, .ref rd, .ref so, .ref fw, .ref wo, .ref gi])), (b, .inr (0, [.int 0, .ref to, .ref ro, .ref sl, .ref li, .ref ca, .ref ho, .ref ta, .int 0])), (la, .inr (8, [.ref lk, .int 0])), (lk, .inl (cy 5, 6, .inr (.inr (.inr (.inr (fun _ => none)))))), (cu, .inr (8, [.ref ck, .int 0])), (ck, .inl (cy 5, 8, .inr (.inr (.inr (.inr (fun _ => none)))))), (wa, .inr (8, [.ref wk, .int 0])), (wk, .inl (cy 5, 8, .inr (.inr (.inr (.inr (fun _ => none)))))), (dr, .inr (7, [.int 0, .ref t0, .ref t1, .ref t2, .ref t3, .ref t4, .ref t5, .ref t6, .int 0])), (pa, .inr (2, [.ref tk, .ref te, .int 0, .int 0, .int 0, .int 0])), (tk, .inr (9, [.ref tq, .ref tp, .ref tv, .int 0])), (tq, .inl (cy 0, 401, .inl (fun _ => 0))), (tp, .inl (cy 0, 401, .inl (fun _ => 0))), (tv, .inl (cy 0, 401, .inl (fun _ => 0)))] sz) := by
  refine Met.ofW (cc := cX11_text) (maxL := 5) (ret := (some .int)) (by decide) rfl ?_
  intro p e s m args below meth c s₁ B hml hv
  obtain ⟨rfl, hsz, hP, hK, hD0, hN⟩ := hv
  have hx := B.exec
  have hb := B.bytes
  have hr := B.returns
  have hta := tl_hta (atoms_spec (ws := tl_w yX11_text cX11_text 5 (some .int)) B.pre)
  have hown : s.vm.findClass RX11 = some m.cls := findClass_of_methodNamed B.named
  have hlocks := B.notSynchronized
  subst hsz
  have hD := hD0.self (sz := s.heap.size)
  generalize hAe : va_A [(x, .inr (11, [.ref b, .ref im, .ref la, .ref cu, .ref wa, .ref pa, .ref dr, .ref su, .ref mk, .ref vi, .ref re, .ref rd, .ref so, .ref fw, .ref wo, .ref gi])), (b, .inr (0, [.int 0, .ref to, .ref ro, .ref sl, .ref li, .ref ca, .ref ho, .ref ta, .int 0])), (la, .inr (8, [.ref lk, .int 0])), (lk, .inl (cy 5, 6, .inr (.inr (.inr (.inr (fun _ => none)))))), (cu, .inr (8, [.ref ck, .int 0])), (ck, .inl (cy 5, 8, .inr (.inr (.inr (.inr (fun _ => none)))))), (wa, .inr (8, [.ref wk, .int 0])), (wk, .inl (cy 5, 8, .inr (.inr (.inr (.inr (fun _ => none)))))), (dr, .inr (7, [.int 0, .ref t0, .ref t1, .ref t2, .ref t3, .ref t4, .ref t5, .ref t6, .int 0])), (pa, .inr (2, [.ref tk, .ref te, .int 0, .int 0, .int 0, .int 0])), (tk, .inr (9, [.ref tq, .ref tp, .ref tv, .int 0])), (tq, .inl (cy 0, 401, .inl (fun _ => 0))), (tp, .inl (cy 0, 401, .inl (fun _ => 0))), (tv, .inl (cy 0, 401, .inl (fun _ => 0)))] s.heap.size = A at hD ⊢
  have hA : ∀ q : Nat, s.heap.size ≤ q → A q := fun q h => by rw [← hAe]; exact Or.inr h
  have hS : va_S A s.heap s.heap [] := va_S.rf
  have hP : va_P D vwCl [(x, .inr (11, [.ref b, .ref im, .ref la, .ref cu, .ref wa, .ref pa, .ref dr, .ref su, .ref mk, .ref vi, .ref re, .ref rd, .ref so, .ref fw, .ref wo, .ref gi])), (b, .inr (0, [.int 0, .ref to, .ref ro, .ref sl, .ref li, .ref ca, .ref ho, .ref ta, .int 0])), (la, .inr (8, [.ref lk, .int 0])), (lk, .inl (cy 5, 6, .inr (.inr (.inr (.inr (fun _ => none)))))), (cu, .inr (8, [.ref ck, .int 0])), (ck, .inl (cy 5, 8, .inr (.inr (.inr (.inr (fun _ => none)))))), (wa, .inr (8, [.ref wk, .int 0])), (wk, .inl (cy 5, 8, .inr (.inr (.inr (.inr (fun _ => none)))))), (dr, .inr (7, [.int 0, .ref t0, .ref t1, .ref t2, .ref t3, .ref t4, .ref t5, .ref t6, .int 0])), (pa, .inr (2, [.ref tk, .ref te, .int 0, .int 0, .int 0, .int 0])), (tk, .inr (9, [.ref tq, .ref tp, .ref tv, .int 0])), (tq, .inl (cy 0, 401, .inl (fun _ => 0))), (tp, .inl (cy 0, 401, .inl (fun _ => 0))), (tv, .inl (cy 0, 401, .inl (fun _ => 0)))] s.heap := hP
  have hl := lv_entry ([.ref x, .int 0]) (n := 5) (Nat.le_of_ble_eq_true rfl)
  rw [lg_entry_eq]
  generalize (lg_sl ([.ref x, .int 0]) ++ List.replicate (5 - (lg_sl ([.ref x, .int 0])).length) Slot.unset).toArray = ls at hl ⊢
  have hl : lv_has ls 5 [(0, .ref x), (1, .int 0)] := hl
  refine lv_aload_n hx hb dX11_text_0 rfl (lv_at hl 0 rfl) ?_
  refine lv_iload_n hx hb dX11_text_1 rfl (lv_at hl 1 rfl) ?_
  have hPc := hP.sub (ws' := [(x, .inr (11, [.ref b, .ref im, .ref la, .ref cu, .ref wa, .ref pa, .ref dr, .ref su, .ref mk, .ref vi, .ref re, .ref rd, .ref so, .ref fw, .ref wo, .ref gi]))]) [0] rfl
  have hDc := hD.sub (ws' := [(x, .inr (11, [.ref b, .ref im, .ref la, .ref cu, .ref wa, .ref pa, .ref dr, .ref su, .ref mk, .ref vi, .ref re, .ref rd, .ref so, .ref fw, .ref wo, .ref gi]))]) [0] (by decide) rfl
  refine tl_sq (tl_rV (As := [.int 0]) (rest := []) ⟨hx, hb, hml, hown, hta⟩ hK hN hPc hDc (ci := 11) rfl 0 rfl lk_X11_182 (c_X11_shelfOf_0 l D cy s.heap.size x b im la cu wa pa dr su mk vi re rd so fw wo gi ) rfl rfl ⟨Nat.le_of_ble_eq_true rfl, Nat.le_of_ble_eq_true rfl⟩ rfl hl.1 rfl (Nat.le_of_ble_eq_true rfl) dX11_text_2 ⟨Nat.le_of_ble_eq_true rfl, Nat.le_of_ble_eq_true rfl⟩) (fun r_2 hw_1 => ?_)
  subst hw_1
  refine W.eq (g2 := F0 m 5 ls [.ref la]) rfl ?_
  refine lv_astore_n (lv' := [(2, .ref la), (0, .ref x), (1, .int 0)]) hx hb dX11_text_5 rfl hl (by decide) rfl (fun ls hl => ?_)
  refine lv_aload_n hx hb dX11_text_6 rfl (lv_at hl 0 rfl) ?_
  refine lv_ifnull hx hb dX11_text_7 ?_
  refine lv_aload_n hx hb dX11_text_10 rfl (lv_at hl 0 rfl) ?_
  have hPc := hP.sub (ws' := [(la, .inr (8, [.ref lk, .int 0])), (lk, .inl (cy 5, 6, .inr (.inr (.inr (.inr (fun _ => none))))))]) [2, 3] rfl
  have hDc := hD.sub (ws' := [(la, .inr (8, [.ref lk, .int 0])), (lk, .inl (cy 5, 6, .inr (.inr (.inr (.inr (fun _ => none))))))]) [2, 3] (by decide) rfl
  refine tl_si (tl_rVN (As := []) (rest := []) ⟨hx, hb, hml, hown, hta⟩ hK hN hPc hDc (ci := 8) rfl 0 rfl lk_X11_186 (c_X8_isFull_6 l D cy s.heap.size la lk ) rfl rfl ⟨Nat.le_of_ble_eq_true rfl, Nat.le_of_ble_eq_true rfl⟩ rfl hl.1 rfl (Nat.le_of_ble_eq_true rfl) dX11_text_11 ⟨Nat.le_of_ble_eq_true rfl, Nat.le_of_ble_eq_true rfl⟩) (fun r_4 hw_3 => ?_)
  subst hw_3
  refine lv_if_eq (tgt := 19) hx hb dX11_text_14 (by decide) (fun _ => ?_) (fun c => absurd c (by decide))
  refine lv_aload_n hx hb dX11_text_19 rfl (lv_at hl 1 rfl) ?_
  refine va_get (D := D) (ci := 11) (v := .ref dr) (C := RX11) (T := TX11) (N := 16) hx hb hta inlX11 hown hK hP 0 rfl rfl 6 (by decide) (hta _ wk_30) (fun _ h9 => h9) rfl dX11_text_20 ?_
  have hPc := hP.sub (ws' := [(dr, .inr (7, [.int 0, .ref t0, .ref t1, .ref t2, .ref t3, .ref t4, .ref t5, .ref t6, .int 0]))]) [8] rfl
  have hDc := hD.sub (ws' := [(dr, .inr (7, [.int 0, .ref t0, .ref t1, .ref t2, .ref t3, .ref t4, .ref t5, .ref t6, .int 0]))]) [8] (by decide) rfl
  refine tl_cv (wr := [(x, .inr (11, [.ref b, .ref im, .ref la, .ref cu, .ref wa, .ref pa, .ref dr, .ref su, .ref mk, .ref vi, .ref re, .ref rd, .ref so, .ref fw, .ref wo, .ref gi])), (b, .inr (0, [.int 0, .ref to, .ref ro, .ref sl, .ref li, .ref ca, .ref ho, .ref ta, .int 0])), (la, .inr (8, [.ref lk, .int 0])), (lk, .inl (cy 5, 6, .inr (.inr (.inr (.inr (fun _ => none)))))), (cu, .inr (8, [.ref ck, .int 0])), (ck, .inl (cy 5, 8, .inr (.inr (.inr (.inr (fun _ => none)))))), (wa, .inr (8, [.ref wk, .int 0])), (wk, .inl (cy 5, 8, .inr (.inr (.inr (.inr (fun _ => none)))))), (pa, .inr (2, [.ref tk, .ref te, .int 0, .int 0, .int 0, .int 0])), (tk, .inr (9, [.ref tq, .ref tp, .ref tv, .int 0])), (tq, .inl (cy 0, 401, .inl (fun _ => 0))), (tp, .inl (cy 0, 401, .inl (fun _ => 0))), (tv, .inl (cy 0, 401, .inl (fun _ => 0)))]) _ _ hP hD hS hA [8] [0, 1, 2, 3, 4, 5, 6, 7, 9, 10, 11, 12, 13] rfl rfl (by decide) (by decide) (tl_rVN (As := []) (rest := []) ⟨hx, hb, hml, hown, hta⟩ hK hN hPc hDc (ci := 7) rfl 0 rfl lk_X11_190 (c_X7_wipe l D cy s.heap.size dr t0 t1 t2 t3 t4 t5 t6 ) rfl rfl ⟨Nat.le_of_ble_eq_true rfl, Nat.le_of_ble_eq_true rfl⟩ rfl hl.1 rfl (Nat.le_of_ble_eq_true rfl) dX11_text_23 ⟨Nat.le_of_ble_eq_true rfl, Nat.le_of_ble_eq_true rfl⟩) (fun u_7 H locs hw_5 hP hD hS => ?_)
  have hP : va_P D vwCl [(x, .inr (11, [.ref b, .ref im, .ref la, .ref cu, .ref wa, .ref pa, .ref dr, .ref su, .ref mk, .ref vi, .ref re, .ref rd, .ref so, .ref fw, .ref wo, .ref gi])), (b, .inr (0, [.int 0, .ref to, .ref ro, .ref sl, .ref li, .ref ca, .ref ho, .ref ta, .int 0])), (la, .inr (8, [.ref lk, .int 0])), (lk, .inl (cy 5, 6, .inr (.inr (.inr (.inr (fun _ => none)))))), (cu, .inr (8, [.ref ck, .int 0])), (ck, .inl (cy 5, 8, .inr (.inr (.inr (.inr (fun _ => none)))))), (wa, .inr (8, [.ref wk, .int 0])), (wk, .inl (cy 5, 8, .inr (.inr (.inr (.inr (fun _ => none)))))), (pa, .inr (2, [.ref tk, .ref te, .int 0, .int 0, .int 0, .int 0])), (tk, .inr (9, [.ref tq, .ref tp, .ref tv, .int 0])), (tq, .inl (cy 0, 401, .inl (fun _ => 0))), (tp, .inl (cy 0, 401, .inl (fun _ => 0))), (tv, .inl (cy 0, 401, .inl (fun _ => 0)))] H := hP
  have hD : va_D A [(x, .inr (11, [.ref b, .ref im, .ref la, .ref cu, .ref wa, .ref pa, .ref dr, .ref su, .ref mk, .ref vi, .ref re, .ref rd, .ref so, .ref fw, .ref wo, .ref gi])), (b, .inr (0, [.int 0, .ref to, .ref ro, .ref sl, .ref li, .ref ca, .ref ho, .ref ta, .int 0])), (la, .inr (8, [.ref lk, .int 0])), (lk, .inl (cy 5, 6, .inr (.inr (.inr (.inr (fun _ => none)))))), (cu, .inr (8, [.ref ck, .int 0])), (ck, .inl (cy 5, 8, .inr (.inr (.inr (.inr (fun _ => none)))))), (wa, .inr (8, [.ref wk, .int 0])), (wk, .inl (cy 5, 8, .inr (.inr (.inr (.inr (fun _ => none)))))), (pa, .inr (2, [.ref tk, .ref te, .int 0, .int 0, .int 0, .int 0])), (tk, .inr (9, [.ref tq, .ref tp, .ref tv, .int 0])), (tq, .inl (cy 0, 401, .inl (fun _ => 0))), (tp, .inl (cy 0, 401, .inl (fun _ => 0))), (tv, .inl (cy 0, 401, .inl (fun _ => 0)))] := hD
  refine W.widen (k := 0) (n := 0) (Nat.le_refl _) (Nat.le_refl _) ?_
  refine lv_aload_n hx hb dX11_text_26 rfl (lv_at hl 1 rfl) ?_
  refine va_get (D := D) (ci := 11) (v := .ref pa) (C := RX11) (T := TX11) (N := 16) hx hb hta inlX11 hown hK hP 0 rfl rfl 5 (by decide) (hta _ wk_26) (fun _ h9 => h9) rfl dX11_text_27 ?_
  refine lv_aload_n hx hb dX11_text_30 rfl (lv_at hl 1 rfl) ?_
  refine va_get (D := D) (ci := 11) (v := .ref b) (C := RX11) (T := TX11) (N := 16) hx hb hta inlX11 hown hK hP 0 rfl rfl 0 (by decide) (hta _ wk_15) (fun _ h9 => h9) rfl dX11_text_31 ?_
  refine lv_iload_n hx hb dX11_text_34 rfl (lv_at hl 2 rfl) ?_
  refine lv_aload_n hx hb dX11_text_35 rfl (lv_at hl 1 rfl) ?_
  refine va_get (D := D) (ci := 11) (v := .ref dr) (C := RX11) (T := TX11) (N := 16) hx hb hta inlX11 hown hK hP 0 rfl rfl 6 (by decide) (hta _ wk_30) (fun _ h9 => h9) rfl dX11_text_36 ?_
  have hPc := hP.sub (ws' := [(pa, .inr (2, [.ref tk, .ref te, .int 0, .int 0, .int 0, .int 0])), (tk, .inr (9, [.ref tq, .ref tp, .ref tv, .int 0])), (tq, .inl (cy 0, 401, .inl (fun _ => 0))), (tp, .inl (cy 0, 401, .inl (fun _ => 0))), (tv, .inl (cy 0, 401, .inl (fun _ => 0))), (b, .inr (0, [.int 0, .ref to, .ref ro, .ref sl, .ref li, .ref ca, .ref ho, .ref ta, .int 0]))]) [8, 9, 10, 11, 12, 1] rfl
  have hDc := hD.sub (ws' := [(pa, .inr (2, [.ref tk, .ref te, .int 0, .int 0, .int 0, .int 0])), (tk, .inr (9, [.ref tq, .ref tp, .ref tv, .int 0])), (tq, .inl (cy 0, 401, .inl (fun _ => 0))), (tp, .inl (cy 0, 401, .inl (fun _ => 0))), (tv, .inl (cy 0, 401, .inl (fun _ => 0))), (b, .inr (0, [.int 0, .ref to, .ref ro, .ref sl, .ref li, .ref ca, .ref ho, .ref ta, .int 0]))]) [8, 9, 10, 11, 12, 1] (by decide) rfl
  refine tl_ci (wr := [(x, .inr (11, [.ref b, .ref im, .ref la, .ref cu, .ref wa, .ref pa, .ref dr, .ref su, .ref mk, .ref vi, .ref re, .ref rd, .ref so, .ref fw, .ref wo, .ref gi])), (la, .inr (8, [.ref lk, .int 0])), (lk, .inl (cy 5, 6, .inr (.inr (.inr (.inr (fun _ => none)))))), (cu, .inr (8, [.ref ck, .int 0])), (ck, .inl (cy 5, 8, .inr (.inr (.inr (.inr (fun _ => none)))))), (wa, .inr (8, [.ref wk, .int 0])), (wk, .inl (cy 5, 8, .inr (.inr (.inr (.inr (fun _ => none))))))]) _ _ hP hD hS hA [8, 9, 10, 11, 12, 1] [0, 2, 3, 4, 5, 6, 7] rfl rfl (by decide) (by decide) (tl_rVN (As := [.ref b, .int 0, .ref dr]) (rest := []) ⟨hx, hb, hml, hown, hta⟩ hK hN hPc hDc (ci := 2) rfl 0 rfl lk_X11_193 (c_X2_parse l D cy H.size pa b 0 dr tk te tq tp tv to ro sl li ca ho ta ) rfl rfl ⟨Nat.le_of_ble_eq_true rfl, Nat.le_of_ble_eq_true rfl⟩ rfl hl.1 rfl (Nat.le_of_ble_eq_true rfl) dX11_text_39 ⟨Nat.le_of_ble_eq_true rfl, Nat.le_of_ble_eq_true rfl⟩) (fun r_9 u_10 H locs hw_8 hP hD hS => ?_)
  have hP : va_P D vwCl [(x, .inr (11, [.ref b, .ref im, .ref la, .ref cu, .ref wa, .ref pa, .ref dr, .ref su, .ref mk, .ref vi, .ref re, .ref rd, .ref so, .ref fw, .ref wo, .ref gi])), (la, .inr (8, [.ref lk, .int 0])), (lk, .inl (cy 5, 6, .inr (.inr (.inr (.inr (fun _ => none)))))), (cu, .inr (8, [.ref ck, .int 0])), (ck, .inl (cy 5, 8, .inr (.inr (.inr (.inr (fun _ => none)))))), (wa, .inr (8, [.ref wk, .int 0])), (wk, .inl (cy 5, 8, .inr (.inr (.inr (.inr (fun _ => none)))))), (b, .inr (0, [.int 0, .ref to, .ref ro, .ref sl, .ref li, .ref ca, .ref ho, .ref ta, .int 0]))] H := hP
  have hD : va_D A [(x, .inr (11, [.ref b, .ref im, .ref la, .ref cu, .ref wa, .ref pa, .ref dr, .ref su, .ref mk, .ref vi, .ref re, .ref rd, .ref so, .ref fw, .ref wo, .ref gi])), (la, .inr (8, [.ref lk, .int 0])), (lk, .inl (cy 5, 6, .inr (.inr (.inr (.inr (fun _ => none)))))), (cu, .inr (8, [.ref ck, .int 0])), (ck, .inl (cy 5, 8, .inr (.inr (.inr (.inr (fun _ => none)))))), (wa, .inr (8, [.ref wk, .int 0])), (wk, .inl (cy 5, 8, .inr (.inr (.inr (.inr (fun _ => none)))))), (b, .inr (0, [.int 0, .ref to, .ref ro, .ref sl, .ref li, .ref ca, .ref ho, .ref ta, .int 0]))] := hD
  refine W.widen (k := 0) (n := 0) (Nat.le_refl _) (Nat.le_refl _) ?_
  subst hw_8
  refine lv_istore_n (lv' := [(3, .int 1), (2, .ref la), (0, .ref x), (1, .int 0)]) hx hb dX11_text_42 rfl hl (by decide) rfl (fun ls hl => ?_)
  refine lv_aload_n hx hb dX11_text_43 rfl (lv_at hl 2 rfl) ?_
  refine va_get (D := D) (ci := 11) (v := .ref b) (C := RX11) (T := TX11) (N := 16) hx hb hta inlX11 hown hK hP 0 rfl rfl 0 (by decide) (hta _ wk_15) (fun _ h9 => h9) rfl dX11_text_44 ?_
  refine lv_iconst (v := 0) hx hb dX11_text_47 (by decide) ?_
  refine va_putN (D := D) (ci := 0) (v := .int 0) (ty := tyX0 8) (C := RX0) (T := TX0) (N := 9) hx hb hta inlX0 tyX0 tyX0_ok nmX0 hown hK hP hD hS 7 rfl rfl 8 (by decide) (va_Nw.use rfl (hN.1 26 _ nk_26)) (fun _ h9 => h9) rfl (tyX0_ok 8 (by decide)) rfl rfl (Nat.le_of_ble_eq_true rfl) dX11_text_48 (fun H locs hP hD hS => ?_)
  have hP : va_P D vwCl [(x, .inr (11, [.ref b, .ref im, .ref la, .ref cu, .ref wa, .ref pa, .ref dr, .ref su, .ref mk, .ref vi, .ref re, .ref rd, .ref so, .ref fw, .ref wo, .ref gi])), (la, .inr (8, [.ref lk, .int 0])), (lk, .inl (cy 5, 6, .inr (.inr (.inr (.inr (fun _ => none)))))), (cu, .inr (8, [.ref ck, .int 0])), (ck, .inl (cy 5, 8, .inr (.inr (.inr (.inr (fun _ => none)))))), (wa, .inr (8, [.ref wk, .int 0])), (wk, .inl (cy 5, 8, .inr (.inr (.inr (.inr (fun _ => none)))))), (b, .inr (0, [.int 0, .ref to, .ref ro, .ref sl, .ref li, .ref ca, .ref ho, .ref ta, .int 0]))] H := hP
  have hD : va_D A [(x, .inr (11, [.ref b, .ref im, .ref la, .ref cu, .ref wa, .ref pa, .ref dr, .ref su, .ref mk, .ref vi, .ref re, .ref rd, .ref so, .ref fw, .ref wo, .ref gi])), (la, .inr (8, [.ref lk, .int 0])), (lk, .inl (cy 5, 6, .inr (.inr (.inr (.inr (fun _ => none)))))), (cu, .inr (8, [.ref ck, .int 0])), (ck, .inl (cy 5, 8, .inr (.inr (.inr (.inr (fun _ => none)))))), (wa, .inr (8, [.ref wk, .int 0])), (wk, .inl (cy 5, 8, .inr (.inr (.inr (.inr (fun _ => none)))))), (b, .inr (0, [.int 0, .ref to, .ref ro, .ref sl, .ref li, .ref ca, .ref ho, .ref ta, .int 0]))] := hD
  refine lv_iload_n hx hb dX11_text_51 rfl (lv_at hl 0 rfl) ?_
  refine lv_if_eq (tgt := 60) hx hb dX11_text_52 (by decide) (fun c => absurd c (by decide)) (fun _ => ?_)
  refine lv_bipush (v := (-2)) hx hb dX11_text_55 (by decide) ?_
  refine lv_iload_n hx hb dX11_text_57 rfl (lv_at hl 0 rfl) ?_
  refine lv_isub hx hb dX11_text_58 ?_
  refine lv_topi (fun z_11 ez_11 => ?_)
  obtain rfl : z_11 = ((-3) : Int32) := ez_11.trans (by decide)
  have hP9 := hP.sub (ws' := []) [] rfl
  have hD9 := hD.sub (ws' := []) [] (by decide) rfl
  exact W.iret (v := (-3)) hx hb hr (fun t ht hW => ⟨⟨_, (), rfl, (Or.inl ⟨by decide, rfl⟩), by rw [ht]; exact hP9, hD9⟩, hS.F ht⟩) hS.2.2 dX11_text_59
set_option maxHeartbeats 4000000 in
set_option maxRecDepth 100000 in
theorem c_X11_text_1 (l : Launch) (D : va_G) (cy : Nat → ClassId) (sz : Nat) (x : Nat) (b : Nat) (im : Nat) (la : Nat) (cu : Nat) (wa : Nat) (pa : Nat) (dr : Nat) (su : Nat) (mk : Nat) (vi : Nat) (re : Nat) (rd : Nat) (so : Nat) (fw : Nat) (wo : Nat) (gi : Nat) (to : Nat) (ro : Nat) (sl : Nat) (li : Nat) (ca : Nat) (ho : Nat) (ta : Nat) (lk : Nat) (ck : Nat) (wk : Nat) (t0 : Nat) (t1 : Nat) (t2 : Nat) (t3 : Nat) (t4 : Nat) (t5 : Nat) (t6 : Nat) (tk : Nat) (te : Nat) (tq : Nat) (tp : Nat) (tv : Nat)  : Met l yX11_text (tl_w yX11_text cX11_text 5 (some .int)) ({ frames := 6, cells := 0, slots := 0, locals := 200 }) (va_Pc [.ref x, .int 1] (tl_P D cy [(x, .inr (11, [.ref b, .ref im, .ref la, .ref cu, .ref wa, .ref pa, .ref dr, .ref su, .ref mk, .ref vi, .ref re, .ref rd, .ref so, .ref fw, .ref wo, .ref gi])), (b, .inr (0, [.int 0, .ref to, .ref ro, .ref sl, .ref li, .ref ca, .ref ho, .ref ta, .int 0])), (la, .inr (8, [.ref lk, .int 0])), (lk, .inl (cy 5, 6, .inr (.inr (.inr (.inr (fun _ => none)))))), (cu, .inr (8, [.ref ck, .int 0])), (ck, .inl (cy 5, 8, .inr (.inr (.inr (.inr (fun _ => none)))))), (wa, .inr (8, [.ref wk, .int 0])), (wk, .inl (cy 5, 8, .inr (.inr (.inr (.inr (fun _ => none)))))), (dr, .inr (7, [.int 0, .ref t0, .ref t1, .ref t2, .ref t3, .ref t4, .ref t5, .ref t6, .int 0])), (pa, .inr (2, [.ref tk, .ref te, .int 0, .int 0, .int 0, .int 0])), (tk, .inr (9, [.ref tq, .ref tp, .ref tv, .int 0])), (tq, .inl (cy 0, 401, .inl (fun _ => 0))), (tp, .inl (cy 0, 401, .inl (fun _ => 0))), (tv, .inl (cy 0, 401, .inl (fun _ => 0)))] sz)) (va_Qi (fun (r : Int32) (u : Unit) => tl_E r (0 ≤ (1 : Int32).toInt ∧ (1 : Int32).toInt ≤ 2) (-3) (-1)) (tl_B D (va_A [(x, .inr (11, [.ref b, .ref im, .ref la, .ref cu, .ref wa, .ref pa, .ref dr, .ref su, .ref mk, .ref vi, .ref re, .ref rd, .ref so, .ref fw, .ref wo, .ref gi])), (b, .inr (0, [.int 0, .ref to, .ref ro, .ref sl, .ref li, .ref ca, .ref ho, .ref ta, .int 0])), (la, .inr (8, [.ref lk, .int 0])), (lk, .inl (cy 5, 6, .inr (.inr (.inr (.inr (fun _ => none)))))), (cu, .inr (8, [.ref ck, .int 0])), (ck, .inl (cy 5, 8, .inr (.inr (.inr (.inr (fun _ => none)))))), (wa, .inr (8, [.ref wk, .int 0])), (wk, .inl (cy 5, 8, .inr (.inr (.inr (.inr (fun _ => none)))))), (dr, .inr (7, [.int 0, .ref t0, .ref t1, .ref t2, .ref t3, .ref t4, .ref t5, .ref t6, .int 0])), (pa, .inr (2, [.ref tk, .ref te, .int 0, .int 0, .int 0, .int 0])), (tk, .inr (9, [.ref tq, .ref tp, .ref tv, .int 0])), (tq, .inl (cy 0, 401, .inl (fun _ => 0))), (tp, .inl (cy 0, 401, .inl (fun _ => 0))), (tv, .inl (cy 0, 401, .inl (fun _ => 0)))] sz) (fun u : Unit => [])) (va_A [(x, .inr (11, [.ref b, .ref im, .ref la, .ref cu, .ref wa, .ref pa, .ref dr, .ref su, .ref mk, .ref vi, .ref re, .ref rd, .ref so, .ref fw, .ref wo, .ref gi])), (b, .inr (0, [.int 0, .ref to, .ref ro, .ref sl, .ref li, .ref ca, .ref ho, .ref ta, .int 0])), (la, .inr (8, [.ref lk, .int 0])), (lk, .inl (cy 5, 6, .inr (.inr (.inr (.inr (fun _ => none)))))), (cu, .inr (8, [.ref ck, .int 0])), (ck, .inl (cy 5, 8, .inr (.inr (.inr (.inr (fun _ => none)))))), (wa, .inr (8, [.ref wk, .int 0])), (wk, .inl (cy 5, 8, .inr (.inr (.inr (.inr (fun _ => none)))))), (dr, .inr (7, [.int 0, .ref t0, .ref t1, .ref t2, .ref t3, .ref t4, .ref t5, .ref t6, .int 0])), (pa, .inr (2, [.ref tk, .ref te, .int 0, .int 0, .int 0, .int 0])), (tk, .inr (9, [.ref tq, .ref tp, .ref tv, .int 0])), (tq, .inl (cy 0, 401, .inl (fun _ => 0))), (tp, .inl (cy 0, 401, .inl (fun _ => 0))), (tv, .inl (cy 0, 401, .inl (fun _ => 0)))] sz)) 0 0 (va_A [(x, .inr (11, [.ref b, .ref im, .ref la, .ref cu, .ref wa, .ref pa, .ref dr, .ref su, .ref mk, .ref vi, .ref re, .ref rd, .ref so, .ref fw, .ref wo, .ref gi])), (b, .inr (0, [.int 0, .ref to, .ref ro, .ref sl, .ref li, .ref ca, .ref ho, .ref ta, .int 0])), (la, .inr (8, [.ref lk, .int 0])), (lk, .inl (cy 5, 6, .inr (.inr (.inr (.inr (fun _ => none)))))), (cu, .inr (8, [.ref ck, .int 0])), (ck, .inl (cy 5, 8, .inr (.inr (.inr (.inr (fun _ => none)))))), (wa, .inr (8, [.ref wk, .int 0])), (wk, .inl (cy 5, 8, .inr (.inr (.inr (.inr (fun _ => none)))))), (dr, .inr (7, [.int 0, .ref t0, .ref t1, .ref t2, .ref t3, .ref t4, .ref t5, .ref t6, .int 0])), (pa, .inr (2, [.ref tk, .ref te, .int 0, .int 0, .int 0, .int 0])), (tk, .inr (9, [.ref tq, .ref tp, .ref tv, .int 0])), (tq, .inl (cy 0, 401, .inl (fun _ => 0))), (tp, .inl (cy 0, 401, .inl (fun _ => 0))), (tv, .inl (cy 0, 401, .inl (fun _ => 0)))] sz) := by
  refine Met.ofW (cc := cX11_text) (maxL := 5) (ret := (some .int)) (by decide) rfl ?_
  intro p e s m args below meth c s₁ B hml hv
  obtain ⟨rfl, hsz, hP, hK, hD0, hN⟩ := hv
  have hx := B.exec
  have hb := B.bytes
  have hr := B.returns
  have hta := tl_hta (atoms_spec (ws := tl_w yX11_text cX11_text 5 (some .int)) B.pre)
  have hown : s.vm.findClass RX11 = some m.cls := findClass_of_methodNamed B.named
  have hlocks := B.notSynchronized
  subst hsz
  have hD := hD0.self (sz := s.heap.size)
  generalize hAe : va_A [(x, .inr (11, [.ref b, .ref im, .ref la, .ref cu, .ref wa, .ref pa, .ref dr, .ref su, .ref mk, .ref vi, .ref re, .ref rd, .ref so, .ref fw, .ref wo, .ref gi])), (b, .inr (0, [.int 0, .ref to, .ref ro, .ref sl, .ref li, .ref ca, .ref ho, .ref ta, .int 0])), (la, .inr (8, [.ref lk, .int 0])), (lk, .inl (cy 5, 6, .inr (.inr (.inr (.inr (fun _ => none)))))), (cu, .inr (8, [.ref ck, .int 0])), (ck, .inl (cy 5, 8, .inr (.inr (.inr (.inr (fun _ => none)))))), (wa, .inr (8, [.ref wk, .int 0])), (wk, .inl (cy 5, 8, .inr (.inr (.inr (.inr (fun _ => none)))))), (dr, .inr (7, [.int 0, .ref t0, .ref t1, .ref t2, .ref t3, .ref t4, .ref t5, .ref t6, .int 0])), (pa, .inr (2, [.ref tk, .ref te, .int 0, .int 0, .int 0, .int 0])), (tk, .inr (9, [.ref tq, .ref tp, .ref tv, .int 0])), (tq, .inl (cy 0, 401, .inl (fun _ => 0))), (tp, .inl (cy 0, 401, .inl (fun _ => 0))), (tv, .inl (cy 0, 401, .inl (fun _ => 0)))] s.heap.size = A at hD ⊢
  have hA : ∀ q : Nat, s.heap.size ≤ q → A q := fun q h => by rw [← hAe]; exact Or.inr h
  have hS : va_S A s.heap s.heap [] := va_S.rf
  have hP : va_P D vwCl [(x, .inr (11, [.ref b, .ref im, .ref la, .ref cu, .ref wa, .ref pa, .ref dr, .ref su, .ref mk, .ref vi, .ref re, .ref rd, .ref so, .ref fw, .ref wo, .ref gi])), (b, .inr (0, [.int 0, .ref to, .ref ro, .ref sl, .ref li, .ref ca, .ref ho, .ref ta, .int 0])), (la, .inr (8, [.ref lk, .int 0])), (lk, .inl (cy 5, 6, .inr (.inr (.inr (.inr (fun _ => none)))))), (cu, .inr (8, [.ref ck, .int 0])), (ck, .inl (cy 5, 8, .inr (.inr (.inr (.inr (fun _ => none)))))), (wa, .inr (8, [.ref wk, .int 0])), (wk, .inl (cy 5, 8, .inr (.inr (.inr (.inr (fun _ => none)))))), (dr, .inr (7, [.int 0, .ref t0, .ref t1, .ref t2, .ref t3, .ref t4, .ref t5, .ref t6, .int 0])), (pa, .inr (2, [.ref tk, .ref te, .int 0, .int 0, .int 0, .int 0])), (tk, .inr (9, [.ref tq, .ref tp, .ref tv, .int 0])), (tq, .inl (cy 0, 401, .inl (fun _ => 0))), (tp, .inl (cy 0, 401, .inl (fun _ => 0))), (tv, .inl (cy 0, 401, .inl (fun _ => 0)))] s.heap := hP
  have hl := lv_entry ([.ref x, .int 1]) (n := 5) (Nat.le_of_ble_eq_true rfl)
  rw [lg_entry_eq]
  generalize (lg_sl ([.ref x, .int 1]) ++ List.replicate (5 - (lg_sl ([.ref x, .int 1])).length) Slot.unset).toArray = ls at hl ⊢
  have hl : lv_has ls 5 [(0, .ref x), (1, .int 1)] := hl
  refine lv_aload_n hx hb dX11_text_0 rfl (lv_at hl 0 rfl) ?_
  refine lv_iload_n hx hb dX11_text_1 rfl (lv_at hl 1 rfl) ?_
  have hPc := hP.sub (ws' := [(x, .inr (11, [.ref b, .ref im, .ref la, .ref cu, .ref wa, .ref pa, .ref dr, .ref su, .ref mk, .ref vi, .ref re, .ref rd, .ref so, .ref fw, .ref wo, .ref gi]))]) [0] rfl
  have hDc := hD.sub (ws' := [(x, .inr (11, [.ref b, .ref im, .ref la, .ref cu, .ref wa, .ref pa, .ref dr, .ref su, .ref mk, .ref vi, .ref re, .ref rd, .ref so, .ref fw, .ref wo, .ref gi]))]) [0] (by decide) rfl
  refine tl_sq (tl_rV (As := [.int 1]) (rest := []) ⟨hx, hb, hml, hown, hta⟩ hK hN hPc hDc (ci := 11) rfl 0 rfl lk_X11_182 (c_X11_shelfOf_1 l D cy s.heap.size x b im la cu wa pa dr su mk vi re rd so fw wo gi ) rfl rfl ⟨Nat.le_of_ble_eq_true rfl, Nat.le_of_ble_eq_true rfl⟩ rfl hl.1 rfl (Nat.le_of_ble_eq_true rfl) dX11_text_2 ⟨Nat.le_of_ble_eq_true rfl, Nat.le_of_ble_eq_true rfl⟩) (fun r_2 hw_1 => ?_)
  subst hw_1
  refine W.eq (g2 := F0 m 5 ls [.ref cu]) rfl ?_
  refine lv_astore_n (lv' := [(2, .ref cu), (0, .ref x), (1, .int 1)]) hx hb dX11_text_5 rfl hl (by decide) rfl (fun ls hl => ?_)
  refine lv_aload_n hx hb dX11_text_6 rfl (lv_at hl 0 rfl) ?_
  refine lv_ifnull hx hb dX11_text_7 ?_
  refine lv_aload_n hx hb dX11_text_10 rfl (lv_at hl 0 rfl) ?_
  have hPc := hP.sub (ws' := [(cu, .inr (8, [.ref ck, .int 0])), (ck, .inl (cy 5, 8, .inr (.inr (.inr (.inr (fun _ => none))))))]) [4, 5] rfl
  have hDc := hD.sub (ws' := [(cu, .inr (8, [.ref ck, .int 0])), (ck, .inl (cy 5, 8, .inr (.inr (.inr (.inr (fun _ => none))))))]) [4, 5] (by decide) rfl
  refine tl_si (tl_rVN (As := []) (rest := []) ⟨hx, hb, hml, hown, hta⟩ hK hN hPc hDc (ci := 8) rfl 0 rfl lk_X11_186 (c_X8_isFull_8 l D cy s.heap.size cu ck ) rfl rfl ⟨Nat.le_of_ble_eq_true rfl, Nat.le_of_ble_eq_true rfl⟩ rfl hl.1 rfl (Nat.le_of_ble_eq_true rfl) dX11_text_11 ⟨Nat.le_of_ble_eq_true rfl, Nat.le_of_ble_eq_true rfl⟩) (fun r_4 hw_3 => ?_)
  subst hw_3
  refine lv_if_eq (tgt := 19) hx hb dX11_text_14 (by decide) (fun _ => ?_) (fun c => absurd c (by decide))
  refine lv_aload_n hx hb dX11_text_19 rfl (lv_at hl 1 rfl) ?_
  refine va_get (D := D) (ci := 11) (v := .ref dr) (C := RX11) (T := TX11) (N := 16) hx hb hta inlX11 hown hK hP 0 rfl rfl 6 (by decide) (hta _ wk_30) (fun _ h9 => h9) rfl dX11_text_20 ?_
  have hPc := hP.sub (ws' := [(dr, .inr (7, [.int 0, .ref t0, .ref t1, .ref t2, .ref t3, .ref t4, .ref t5, .ref t6, .int 0]))]) [8] rfl
  have hDc := hD.sub (ws' := [(dr, .inr (7, [.int 0, .ref t0, .ref t1, .ref t2, .ref t3, .ref t4, .ref t5, .ref t6, .int 0]))]) [8] (by decide) rfl
  refine tl_cv (wr := [(x, .inr (11, [.ref b, .ref im, .ref la, .ref cu, .ref wa, .ref pa, .ref dr, .ref su, .ref mk, .ref vi, .ref re, .ref rd, .ref so, .ref fw, .ref wo, .ref gi])), (b, .inr (0, [.int 0, .ref to, .ref ro, .ref sl, .ref li, .ref ca, .ref ho, .ref ta, .int 0])), (la, .inr (8, [.ref lk, .int 0])), (lk, .inl (cy 5, 6, .inr (.inr (.inr (.inr (fun _ => none)))))), (cu, .inr (8, [.ref ck, .int 0])), (ck, .inl (cy 5, 8, .inr (.inr (.inr (.inr (fun _ => none)))))), (wa, .inr (8, [.ref wk, .int 0])), (wk, .inl (cy 5, 8, .inr (.inr (.inr (.inr (fun _ => none)))))), (pa, .inr (2, [.ref tk, .ref te, .int 0, .int 0, .int 0, .int 0])), (tk, .inr (9, [.ref tq, .ref tp, .ref tv, .int 0])), (tq, .inl (cy 0, 401, .inl (fun _ => 0))), (tp, .inl (cy 0, 401, .inl (fun _ => 0))), (tv, .inl (cy 0, 401, .inl (fun _ => 0)))]) _ _ hP hD hS hA [8] [0, 1, 2, 3, 4, 5, 6, 7, 9, 10, 11, 12, 13] rfl rfl (by decide) (by decide) (tl_rVN (As := []) (rest := []) ⟨hx, hb, hml, hown, hta⟩ hK hN hPc hDc (ci := 7) rfl 0 rfl lk_X11_190 (c_X7_wipe l D cy s.heap.size dr t0 t1 t2 t3 t4 t5 t6 ) rfl rfl ⟨Nat.le_of_ble_eq_true rfl, Nat.le_of_ble_eq_true rfl⟩ rfl hl.1 rfl (Nat.le_of_ble_eq_true rfl) dX11_text_23 ⟨Nat.le_of_ble_eq_true rfl, Nat.le_of_ble_eq_true rfl⟩) (fun u_7 H locs hw_5 hP hD hS => ?_)
  have hP : va_P D vwCl [(x, .inr (11, [.ref b, .ref im, .ref la, .ref cu, .ref wa, .ref pa, .ref dr, .ref su, .ref mk, .ref vi, .ref re, .ref rd, .ref so, .ref fw, .ref wo, .ref gi])), (b, .inr (0, [.int 0, .ref to, .ref ro, .ref sl, .ref li, .ref ca, .ref ho, .ref ta, .int 0])), (la, .inr (8, [.ref lk, .int 0])), (lk, .inl (cy 5, 6, .inr (.inr (.inr (.inr (fun _ => none)))))), (cu, .inr (8, [.ref ck, .int 0])), (ck, .inl (cy 5, 8, .inr (.inr (.inr (.inr (fun _ => none)))))), (wa, .inr (8, [.ref wk, .int 0])), (wk, .inl (cy 5, 8, .inr (.inr (.inr (.inr (fun _ => none)))))), (pa, .inr (2, [.ref tk, .ref te, .int 0, .int 0, .int 0, .int 0])), (tk, .inr (9, [.ref tq, .ref tp, .ref tv, .int 0])), (tq, .inl (cy 0, 401, .inl (fun _ => 0))), (tp, .inl (cy 0, 401, .inl (fun _ => 0))), (tv, .inl (cy 0, 401, .inl (fun _ => 0)))] H := hP
  have hD : va_D A [(x, .inr (11, [.ref b, .ref im, .ref la, .ref cu, .ref wa, .ref pa, .ref dr, .ref su, .ref mk, .ref vi, .ref re, .ref rd, .ref so, .ref fw, .ref wo, .ref gi])), (b, .inr (0, [.int 0, .ref to, .ref ro, .ref sl, .ref li, .ref ca, .ref ho, .ref ta, .int 0])), (la, .inr (8, [.ref lk, .int 0])), (lk, .inl (cy 5, 6, .inr (.inr (.inr (.inr (fun _ => none)))))), (cu, .inr (8, [.ref ck, .int 0])), (ck, .inl (cy 5, 8, .inr (.inr (.inr (.inr (fun _ => none)))))), (wa, .inr (8, [.ref wk, .int 0])), (wk, .inl (cy 5, 8, .inr (.inr (.inr (.inr (fun _ => none)))))), (pa, .inr (2, [.ref tk, .ref te, .int 0, .int 0, .int 0, .int 0])), (tk, .inr (9, [.ref tq, .ref tp, .ref tv, .int 0])), (tq, .inl (cy 0, 401, .inl (fun _ => 0))), (tp, .inl (cy 0, 401, .inl (fun _ => 0))), (tv, .inl (cy 0, 401, .inl (fun _ => 0)))] := hD
  refine W.widen (k := 0) (n := 0) (Nat.le_refl _) (Nat.le_refl _) ?_
  refine lv_aload_n hx hb dX11_text_26 rfl (lv_at hl 1 rfl) ?_
  refine va_get (D := D) (ci := 11) (v := .ref pa) (C := RX11) (T := TX11) (N := 16) hx hb hta inlX11 hown hK hP 0 rfl rfl 5 (by decide) (hta _ wk_26) (fun _ h9 => h9) rfl dX11_text_27 ?_
  refine lv_aload_n hx hb dX11_text_30 rfl (lv_at hl 1 rfl) ?_
  refine va_get (D := D) (ci := 11) (v := .ref b) (C := RX11) (T := TX11) (N := 16) hx hb hta inlX11 hown hK hP 0 rfl rfl 0 (by decide) (hta _ wk_15) (fun _ h9 => h9) rfl dX11_text_31 ?_
  refine lv_iload_n hx hb dX11_text_34 rfl (lv_at hl 2 rfl) ?_
  refine lv_aload_n hx hb dX11_text_35 rfl (lv_at hl 1 rfl) ?_
  refine va_get (D := D) (ci := 11) (v := .ref dr) (C := RX11) (T := TX11) (N := 16) hx hb hta inlX11 hown hK hP 0 rfl rfl 6 (by decide) (hta _ wk_30) (fun _ h9 => h9) rfl dX11_text_36 ?_
  have hPc := hP.sub (ws' := [(pa, .inr (2, [.ref tk, .ref te, .int 0, .int 0, .int 0, .int 0])), (tk, .inr (9, [.ref tq, .ref tp, .ref tv, .int 0])), (tq, .inl (cy 0, 401, .inl (fun _ => 0))), (tp, .inl (cy 0, 401, .inl (fun _ => 0))), (tv, .inl (cy 0, 401, .inl (fun _ => 0))), (b, .inr (0, [.int 0, .ref to, .ref ro, .ref sl, .ref li, .ref ca, .ref ho, .ref ta, .int 0]))]) [8, 9, 10, 11, 12, 1] rfl
  have hDc := hD.sub (ws' := [(pa, .inr (2, [.ref tk, .ref te, .int 0, .int 0, .int 0, .int 0])), (tk, .inr (9, [.ref tq, .ref tp, .ref tv, .int 0])), (tq, .inl (cy 0, 401, .inl (fun _ => 0))), (tp, .inl (cy 0, 401, .inl (fun _ => 0))), (tv, .inl (cy 0, 401, .inl (fun _ => 0))), (b, .inr (0, [.int 0, .ref to, .ref ro, .ref sl, .ref li, .ref ca, .ref ho, .ref ta, .int 0]))]) [8, 9, 10, 11, 12, 1] (by decide) rfl
  refine tl_ci (wr := [(x, .inr (11, [.ref b, .ref im, .ref la, .ref cu, .ref wa, .ref pa, .ref dr, .ref su, .ref mk, .ref vi, .ref re, .ref rd, .ref so, .ref fw, .ref wo, .ref gi])), (la, .inr (8, [.ref lk, .int 0])), (lk, .inl (cy 5, 6, .inr (.inr (.inr (.inr (fun _ => none)))))), (cu, .inr (8, [.ref ck, .int 0])), (ck, .inl (cy 5, 8, .inr (.inr (.inr (.inr (fun _ => none)))))), (wa, .inr (8, [.ref wk, .int 0])), (wk, .inl (cy 5, 8, .inr (.inr (.inr (.inr (fun _ => none))))))]) _ _ hP hD hS hA [8, 9, 10, 11, 12, 1] [0, 2, 3, 4, 5, 6, 7] rfl rfl (by decide) (by decide) (tl_rVN (As := [.ref b, .int 1, .ref dr]) (rest := []) ⟨hx, hb, hml, hown, hta⟩ hK hN hPc hDc (ci := 2) rfl 0 rfl lk_X11_193 (c_X2_parse l D cy H.size pa b 1 dr tk te tq tp tv to ro sl li ca ho ta ) rfl rfl ⟨Nat.le_of_ble_eq_true rfl, Nat.le_of_ble_eq_true rfl⟩ rfl hl.1 rfl (Nat.le_of_ble_eq_true rfl) dX11_text_39 ⟨Nat.le_of_ble_eq_true rfl, Nat.le_of_ble_eq_true rfl⟩) (fun r_9 u_10 H locs hw_8 hP hD hS => ?_)
  have hP : va_P D vwCl [(x, .inr (11, [.ref b, .ref im, .ref la, .ref cu, .ref wa, .ref pa, .ref dr, .ref su, .ref mk, .ref vi, .ref re, .ref rd, .ref so, .ref fw, .ref wo, .ref gi])), (la, .inr (8, [.ref lk, .int 0])), (lk, .inl (cy 5, 6, .inr (.inr (.inr (.inr (fun _ => none)))))), (cu, .inr (8, [.ref ck, .int 0])), (ck, .inl (cy 5, 8, .inr (.inr (.inr (.inr (fun _ => none)))))), (wa, .inr (8, [.ref wk, .int 0])), (wk, .inl (cy 5, 8, .inr (.inr (.inr (.inr (fun _ => none)))))), (b, .inr (0, [.int 0, .ref to, .ref ro, .ref sl, .ref li, .ref ca, .ref ho, .ref ta, .int 0]))] H := hP
  have hD : va_D A [(x, .inr (11, [.ref b, .ref im, .ref la, .ref cu, .ref wa, .ref pa, .ref dr, .ref su, .ref mk, .ref vi, .ref re, .ref rd, .ref so, .ref fw, .ref wo, .ref gi])), (la, .inr (8, [.ref lk, .int 0])), (lk, .inl (cy 5, 6, .inr (.inr (.inr (.inr (fun _ => none)))))), (cu, .inr (8, [.ref ck, .int 0])), (ck, .inl (cy 5, 8, .inr (.inr (.inr (.inr (fun _ => none)))))), (wa, .inr (8, [.ref wk, .int 0])), (wk, .inl (cy 5, 8, .inr (.inr (.inr (.inr (fun _ => none)))))), (b, .inr (0, [.int 0, .ref to, .ref ro, .ref sl, .ref li, .ref ca, .ref ho, .ref ta, .int 0]))] := hD
  refine W.widen (k := 0) (n := 0) (Nat.le_refl _) (Nat.le_refl _) ?_
  subst hw_8
  refine lv_istore_n (lv' := [(3, .int 1), (2, .ref cu), (0, .ref x), (1, .int 1)]) hx hb dX11_text_42 rfl hl (by decide) rfl (fun ls hl => ?_)
  refine lv_aload_n hx hb dX11_text_43 rfl (lv_at hl 2 rfl) ?_
  refine va_get (D := D) (ci := 11) (v := .ref b) (C := RX11) (T := TX11) (N := 16) hx hb hta inlX11 hown hK hP 0 rfl rfl 0 (by decide) (hta _ wk_15) (fun _ h9 => h9) rfl dX11_text_44 ?_
  refine lv_iconst (v := 0) hx hb dX11_text_47 (by decide) ?_
  refine va_putN (D := D) (ci := 0) (v := .int 0) (ty := tyX0 8) (C := RX0) (T := TX0) (N := 9) hx hb hta inlX0 tyX0 tyX0_ok nmX0 hown hK hP hD hS 7 rfl rfl 8 (by decide) (va_Nw.use rfl (hN.1 26 _ nk_26)) (fun _ h9 => h9) rfl (tyX0_ok 8 (by decide)) rfl rfl (Nat.le_of_ble_eq_true rfl) dX11_text_48 (fun H locs hP hD hS => ?_)
  have hP : va_P D vwCl [(x, .inr (11, [.ref b, .ref im, .ref la, .ref cu, .ref wa, .ref pa, .ref dr, .ref su, .ref mk, .ref vi, .ref re, .ref rd, .ref so, .ref fw, .ref wo, .ref gi])), (la, .inr (8, [.ref lk, .int 0])), (lk, .inl (cy 5, 6, .inr (.inr (.inr (.inr (fun _ => none)))))), (cu, .inr (8, [.ref ck, .int 0])), (ck, .inl (cy 5, 8, .inr (.inr (.inr (.inr (fun _ => none)))))), (wa, .inr (8, [.ref wk, .int 0])), (wk, .inl (cy 5, 8, .inr (.inr (.inr (.inr (fun _ => none)))))), (b, .inr (0, [.int 0, .ref to, .ref ro, .ref sl, .ref li, .ref ca, .ref ho, .ref ta, .int 0]))] H := hP
  have hD : va_D A [(x, .inr (11, [.ref b, .ref im, .ref la, .ref cu, .ref wa, .ref pa, .ref dr, .ref su, .ref mk, .ref vi, .ref re, .ref rd, .ref so, .ref fw, .ref wo, .ref gi])), (la, .inr (8, [.ref lk, .int 0])), (lk, .inl (cy 5, 6, .inr (.inr (.inr (.inr (fun _ => none)))))), (cu, .inr (8, [.ref ck, .int 0])), (ck, .inl (cy 5, 8, .inr (.inr (.inr (.inr (fun _ => none)))))), (wa, .inr (8, [.ref wk, .int 0])), (wk, .inl (cy 5, 8, .inr (.inr (.inr (.inr (fun _ => none)))))), (b, .inr (0, [.int 0, .ref to, .ref ro, .ref sl, .ref li, .ref ca, .ref ho, .ref ta, .int 0]))] := hD
  refine lv_iload_n hx hb dX11_text_51 rfl (lv_at hl 0 rfl) ?_
  refine lv_if_eq (tgt := 60) hx hb dX11_text_52 (by decide) (fun c => absurd c (by decide)) (fun _ => ?_)
  refine lv_bipush (v := (-2)) hx hb dX11_text_55 (by decide) ?_
  refine lv_iload_n hx hb dX11_text_57 rfl (lv_at hl 0 rfl) ?_
  refine lv_isub hx hb dX11_text_58 ?_
  refine lv_topi (fun z_11 ez_11 => ?_)
  obtain rfl : z_11 = ((-3) : Int32) := ez_11.trans (by decide)
  have hP9 := hP.sub (ws' := []) [] rfl
  have hD9 := hD.sub (ws' := []) [] (by decide) rfl
  exact W.iret (v := (-3)) hx hb hr (fun t ht hW => ⟨⟨_, (), rfl, (Or.inl ⟨by decide, rfl⟩), by rw [ht]; exact hP9, hD9⟩, hS.F ht⟩) hS.2.2 dX11_text_59
set_option maxHeartbeats 4000000 in
set_option maxRecDepth 100000 in
theorem c_X11_text_2 (l : Launch) (D : va_G) (cy : Nat → ClassId) (sz : Nat) (x : Nat) (b : Nat) (im : Nat) (la : Nat) (cu : Nat) (wa : Nat) (pa : Nat) (dr : Nat) (su : Nat) (mk : Nat) (vi : Nat) (re : Nat) (rd : Nat) (so : Nat) (fw : Nat) (wo : Nat) (gi : Nat) (to : Nat) (ro : Nat) (sl : Nat) (li : Nat) (ca : Nat) (ho : Nat) (ta : Nat) (lk : Nat) (ck : Nat) (wk : Nat) (t0 : Nat) (t1 : Nat) (t2 : Nat) (t3 : Nat) (t4 : Nat) (t5 : Nat) (t6 : Nat) (tk : Nat) (te : Nat) (tq : Nat) (tp : Nat) (tv : Nat)  : Met l yX11_text (tl_w yX11_text cX11_text 5 (some .int)) ({ frames := 6, cells := 0, slots := 0, locals := 200 }) (va_Pc [.ref x, .int 2] (tl_P D cy [(x, .inr (11, [.ref b, .ref im, .ref la, .ref cu, .ref wa, .ref pa, .ref dr, .ref su, .ref mk, .ref vi, .ref re, .ref rd, .ref so, .ref fw, .ref wo, .ref gi])), (b, .inr (0, [.int 0, .ref to, .ref ro, .ref sl, .ref li, .ref ca, .ref ho, .ref ta, .int 0])), (la, .inr (8, [.ref lk, .int 0])), (lk, .inl (cy 5, 6, .inr (.inr (.inr (.inr (fun _ => none)))))), (cu, .inr (8, [.ref ck, .int 0])), (ck, .inl (cy 5, 8, .inr (.inr (.inr (.inr (fun _ => none)))))), (wa, .inr (8, [.ref wk, .int 0])), (wk, .inl (cy 5, 8, .inr (.inr (.inr (.inr (fun _ => none)))))), (dr, .inr (7, [.int 0, .ref t0, .ref t1, .ref t2, .ref t3, .ref t4, .ref t5, .ref t6, .int 0])), (pa, .inr (2, [.ref tk, .ref te, .int 0, .int 0, .int 0, .int 0])), (tk, .inr (9, [.ref tq, .ref tp, .ref tv, .int 0])), (tq, .inl (cy 0, 401, .inl (fun _ => 0))), (tp, .inl (cy 0, 401, .inl (fun _ => 0))), (tv, .inl (cy 0, 401, .inl (fun _ => 0)))] sz)) (va_Qi (fun (r : Int32) (u : Unit) => tl_E r (0 ≤ (2 : Int32).toInt ∧ (2 : Int32).toInt ≤ 2) (-3) (-1)) (tl_B D (va_A [(x, .inr (11, [.ref b, .ref im, .ref la, .ref cu, .ref wa, .ref pa, .ref dr, .ref su, .ref mk, .ref vi, .ref re, .ref rd, .ref so, .ref fw, .ref wo, .ref gi])), (b, .inr (0, [.int 0, .ref to, .ref ro, .ref sl, .ref li, .ref ca, .ref ho, .ref ta, .int 0])), (la, .inr (8, [.ref lk, .int 0])), (lk, .inl (cy 5, 6, .inr (.inr (.inr (.inr (fun _ => none)))))), (cu, .inr (8, [.ref ck, .int 0])), (ck, .inl (cy 5, 8, .inr (.inr (.inr (.inr (fun _ => none)))))), (wa, .inr (8, [.ref wk, .int 0])), (wk, .inl (cy 5, 8, .inr (.inr (.inr (.inr (fun _ => none)))))), (dr, .inr (7, [.int 0, .ref t0, .ref t1, .ref t2, .ref t3, .ref t4, .ref t5, .ref t6, .int 0])), (pa, .inr (2, [.ref tk, .ref te, .int 0, .int 0, .int 0, .int 0])), (tk, .inr (9, [.ref tq, .ref tp, .ref tv, .int 0])), (tq, .inl (cy 0, 401, .inl (fun _ => 0))), (tp, .inl (cy 0, 401, .inl (fun _ => 0))), (tv, .inl (cy 0, 401, .inl (fun _ => 0)))] sz) (fun u : Unit => [])) (va_A [(x, .inr (11, [.ref b, .ref im, .ref la, .ref cu, .ref wa, .ref pa, .ref dr, .ref su, .ref mk, .ref vi, .ref re, .ref rd, .ref so, .ref fw, .ref wo, .ref gi])), (b, .inr (0, [.int 0, .ref to, .ref ro, .ref sl, .ref li, .ref ca, .ref ho, .ref ta, .int 0])), (la, .inr (8, [.ref lk, .int 0])), (lk, .inl (cy 5, 6, .inr (.inr (.inr (.inr (fun _ => none)))))), (cu, .inr (8, [.ref ck, .int 0])), (ck, .inl (cy 5, 8, .inr (.inr (.inr (.inr (fun _ => none)))))), (wa, .inr (8, [.ref wk, .int 0])), (wk, .inl (cy 5, 8, .inr (.inr (.inr (.inr (fun _ => none)))))), (dr, .inr (7, [.int 0, .ref t0, .ref t1, .ref t2, .ref t3, .ref t4, .ref t5, .ref t6, .int 0])), (pa, .inr (2, [.ref tk, .ref te, .int 0, .int 0, .int 0, .int 0])), (tk, .inr (9, [.ref tq, .ref tp, .ref tv, .int 0])), (tq, .inl (cy 0, 401, .inl (fun _ => 0))), (tp, .inl (cy 0, 401, .inl (fun _ => 0))), (tv, .inl (cy 0, 401, .inl (fun _ => 0)))] sz)) 0 0 (va_A [(x, .inr (11, [.ref b, .ref im, .ref la, .ref cu, .ref wa, .ref pa, .ref dr, .ref su, .ref mk, .ref vi, .ref re, .ref rd, .ref so, .ref fw, .ref wo, .ref gi])), (b, .inr (0, [.int 0, .ref to, .ref ro, .ref sl, .ref li, .ref ca, .ref ho, .ref ta, .int 0])), (la, .inr (8, [.ref lk, .int 0])), (lk, .inl (cy 5, 6, .inr (.inr (.inr (.inr (fun _ => none)))))), (cu, .inr (8, [.ref ck, .int 0])), (ck, .inl (cy 5, 8, .inr (.inr (.inr (.inr (fun _ => none)))))), (wa, .inr (8, [.ref wk, .int 0])), (wk, .inl (cy 5, 8, .inr (.inr (.inr (.inr (fun _ => none)))))), (dr, .inr (7, [.int 0, .ref t0, .ref t1, .ref t2, .ref t3, .ref t4, .ref t5, .ref t6, .int 0])), (pa, .inr (2, [.ref tk, .ref te, .int 0, .int 0, .int 0, .int 0])), (tk, .inr (9, [.ref tq, .ref tp, .ref tv, .int 0])), (tq, .inl (cy 0, 401, .inl (fun _ => 0))), (tp, .inl (cy 0, 401, .inl (fun _ => 0))), (tv, .inl (cy 0, 401, .inl (fun _ => 0)))] sz) := by
  refine Met.ofW (cc := cX11_text) (maxL := 5) (ret := (some .int)) (by decide) rfl ?_
  intro p e s m args below meth c s₁ B hml hv
  obtain ⟨rfl, hsz, hP, hK, hD0, hN⟩ := hv
  have hx := B.exec
  have hb := B.bytes
  have hr := B.returns
  have hta := tl_hta (atoms_spec (ws := tl_w yX11_text cX11_text 5 (some .int)) B.pre)
  have hown : s.vm.findClass RX11 = some m.cls := findClass_of_methodNamed B.named
  have hlocks := B.notSynchronized
  subst hsz
  have hD := hD0.self (sz := s.heap.size)
  generalize hAe : va_A [(x, .inr (11, [.ref b, .ref im, .ref la, .ref cu, .ref wa, .ref pa, .ref dr, .ref su, .ref mk, .ref vi, .ref re, .ref rd, .ref so, .ref fw, .ref wo, .ref gi])), (b, .inr (0, [.int 0, .ref to, .ref ro, .ref sl, .ref li, .ref ca, .ref ho, .ref ta, .int 0])), (la, .inr (8, [.ref lk, .int 0])), (lk, .inl (cy 5, 6, .inr (.inr (.inr (.inr (fun _ => none)))))), (cu, .inr (8, [.ref ck, .int 0])), (ck, .inl (cy 5, 8, .inr (.inr (.inr (.inr (fun _ => none)))))), (wa, .inr (8, [.ref wk, .int 0])), (wk, .inl (cy 5, 8, .inr (.inr (.inr (.inr (fun _ => none)))))), (dr, .inr (7, [.int 0, .ref t0, .ref t1, .ref t2, .ref t3, .ref t4, .ref t5, .ref t6, .int 0])), (pa, .inr (2, [.ref tk, .ref te, .int 0, .int 0, .int 0, .int 0])), (tk, .inr (9, [.ref tq, .ref tp, .ref tv, .int 0])), (tq, .inl (cy 0, 401, .inl (fun _ => 0))), (tp, .inl (cy 0, 401, .inl (fun _ => 0))), (tv, .inl (cy 0, 401, .inl (fun _ => 0)))] s.heap.size = A at hD ⊢
  have hA : ∀ q : Nat, s.heap.size ≤ q → A q := fun q h => by rw [← hAe]; exact Or.inr h
  have hS : va_S A s.heap s.heap [] := va_S.rf
  have hP : va_P D vwCl [(x, .inr (11, [.ref b, .ref im, .ref la, .ref cu, .ref wa, .ref pa, .ref dr, .ref su, .ref mk, .ref vi, .ref re, .ref rd, .ref so, .ref fw, .ref wo, .ref gi])), (b, .inr (0, [.int 0, .ref to, .ref ro, .ref sl, .ref li, .ref ca, .ref ho, .ref ta, .int 0])), (la, .inr (8, [.ref lk, .int 0])), (lk, .inl (cy 5, 6, .inr (.inr (.inr (.inr (fun _ => none)))))), (cu, .inr (8, [.ref ck, .int 0])), (ck, .inl (cy 5, 8, .inr (.inr (.inr (.inr (fun _ => none)))))), (wa, .inr (8, [.ref wk, .int 0])), (wk, .inl (cy 5, 8, .inr (.inr (.inr (.inr (fun _ => none)))))), (dr, .inr (7, [.int 0, .ref t0, .ref t1, .ref t2, .ref t3, .ref t4, .ref t5, .ref t6, .int 0])), (pa, .inr (2, [.ref tk, .ref te, .int 0, .int 0, .int 0, .int 0])), (tk, .inr (9, [.ref tq, .ref tp, .ref tv, .int 0])), (tq, .inl (cy 0, 401, .inl (fun _ => 0))), (tp, .inl (cy 0, 401, .inl (fun _ => 0))), (tv, .inl (cy 0, 401, .inl (fun _ => 0)))] s.heap := hP
  have hl := lv_entry ([.ref x, .int 2]) (n := 5) (Nat.le_of_ble_eq_true rfl)
  rw [lg_entry_eq]
  generalize (lg_sl ([.ref x, .int 2]) ++ List.replicate (5 - (lg_sl ([.ref x, .int 2])).length) Slot.unset).toArray = ls at hl ⊢
  have hl : lv_has ls 5 [(0, .ref x), (1, .int 2)] := hl
  refine lv_aload_n hx hb dX11_text_0 rfl (lv_at hl 0 rfl) ?_
  refine lv_iload_n hx hb dX11_text_1 rfl (lv_at hl 1 rfl) ?_
  have hPc := hP.sub (ws' := [(x, .inr (11, [.ref b, .ref im, .ref la, .ref cu, .ref wa, .ref pa, .ref dr, .ref su, .ref mk, .ref vi, .ref re, .ref rd, .ref so, .ref fw, .ref wo, .ref gi]))]) [0] rfl
  have hDc := hD.sub (ws' := [(x, .inr (11, [.ref b, .ref im, .ref la, .ref cu, .ref wa, .ref pa, .ref dr, .ref su, .ref mk, .ref vi, .ref re, .ref rd, .ref so, .ref fw, .ref wo, .ref gi]))]) [0] (by decide) rfl
  refine tl_sq (tl_rV (As := [.int 2]) (rest := []) ⟨hx, hb, hml, hown, hta⟩ hK hN hPc hDc (ci := 11) rfl 0 rfl lk_X11_182 (c_X11_shelfOf_2 l D cy s.heap.size x b im la cu wa pa dr su mk vi re rd so fw wo gi ) rfl rfl ⟨Nat.le_of_ble_eq_true rfl, Nat.le_of_ble_eq_true rfl⟩ rfl hl.1 rfl (Nat.le_of_ble_eq_true rfl) dX11_text_2 ⟨Nat.le_of_ble_eq_true rfl, Nat.le_of_ble_eq_true rfl⟩) (fun r_2 hw_1 => ?_)
  subst hw_1
  refine W.eq (g2 := F0 m 5 ls [.ref wa]) rfl ?_
  refine lv_astore_n (lv' := [(2, .ref wa), (0, .ref x), (1, .int 2)]) hx hb dX11_text_5 rfl hl (by decide) rfl (fun ls hl => ?_)
  refine lv_aload_n hx hb dX11_text_6 rfl (lv_at hl 0 rfl) ?_
  refine lv_ifnull hx hb dX11_text_7 ?_
  refine lv_aload_n hx hb dX11_text_10 rfl (lv_at hl 0 rfl) ?_
  have hPc := hP.sub (ws' := [(wa, .inr (8, [.ref wk, .int 0])), (wk, .inl (cy 5, 8, .inr (.inr (.inr (.inr (fun _ => none))))))]) [6, 7] rfl
  have hDc := hD.sub (ws' := [(wa, .inr (8, [.ref wk, .int 0])), (wk, .inl (cy 5, 8, .inr (.inr (.inr (.inr (fun _ => none))))))]) [6, 7] (by decide) rfl
  refine tl_si (tl_rVN (As := []) (rest := []) ⟨hx, hb, hml, hown, hta⟩ hK hN hPc hDc (ci := 8) rfl 0 rfl lk_X11_186 (c_X8_isFull_8 l D cy s.heap.size wa wk ) rfl rfl ⟨Nat.le_of_ble_eq_true rfl, Nat.le_of_ble_eq_true rfl⟩ rfl hl.1 rfl (Nat.le_of_ble_eq_true rfl) dX11_text_11 ⟨Nat.le_of_ble_eq_true rfl, Nat.le_of_ble_eq_true rfl⟩) (fun r_4 hw_3 => ?_)
  subst hw_3
  refine lv_if_eq (tgt := 19) hx hb dX11_text_14 (by decide) (fun _ => ?_) (fun c => absurd c (by decide))
  refine lv_aload_n hx hb dX11_text_19 rfl (lv_at hl 1 rfl) ?_
  refine va_get (D := D) (ci := 11) (v := .ref dr) (C := RX11) (T := TX11) (N := 16) hx hb hta inlX11 hown hK hP 0 rfl rfl 6 (by decide) (hta _ wk_30) (fun _ h9 => h9) rfl dX11_text_20 ?_
  have hPc := hP.sub (ws' := [(dr, .inr (7, [.int 0, .ref t0, .ref t1, .ref t2, .ref t3, .ref t4, .ref t5, .ref t6, .int 0]))]) [8] rfl
  have hDc := hD.sub (ws' := [(dr, .inr (7, [.int 0, .ref t0, .ref t1, .ref t2, .ref t3, .ref t4, .ref t5, .ref t6, .int 0]))]) [8] (by decide) rfl
  refine tl_cv (wr := [(x, .inr (11, [.ref b, .ref im, .ref la, .ref cu, .ref wa, .ref pa, .ref dr, .ref su, .ref mk, .ref vi, .ref re, .ref rd, .ref so, .ref fw, .ref wo, .ref gi])), (b, .inr (0, [.int 0, .ref to, .ref ro, .ref sl, .ref li, .ref ca, .ref ho, .ref ta, .int 0])), (la, .inr (8, [.ref lk, .int 0])), (lk, .inl (cy 5, 6, .inr (.inr (.inr (.inr (fun _ => none)))))), (cu, .inr (8, [.ref ck, .int 0])), (ck, .inl (cy 5, 8, .inr (.inr (.inr (.inr (fun _ => none)))))), (wa, .inr (8, [.ref wk, .int 0])), (wk, .inl (cy 5, 8, .inr (.inr (.inr (.inr (fun _ => none)))))), (pa, .inr (2, [.ref tk, .ref te, .int 0, .int 0, .int 0, .int 0])), (tk, .inr (9, [.ref tq, .ref tp, .ref tv, .int 0])), (tq, .inl (cy 0, 401, .inl (fun _ => 0))), (tp, .inl (cy 0, 401, .inl (fun _ => 0))), (tv, .inl (cy 0, 401, .inl (fun _ => 0)))]) _ _ hP hD hS hA [8] [0, 1, 2, 3, 4, 5, 6, 7, 9, 10, 11, 12, 13] rfl rfl (by decide) (by decide) (tl_rVN (As := []) (rest := []) ⟨hx, hb, hml, hown, hta⟩ hK hN hPc hDc (ci := 7) rfl 0 rfl lk_X11_190 (c_X7_wipe l D cy s.heap.size dr t0 t1 t2 t3 t4 t5 t6 ) rfl rfl ⟨Nat.le_of_ble_eq_true rfl, Nat.le_of_ble_eq_true rfl⟩ rfl hl.1 rfl (Nat.le_of_ble_eq_true rfl) dX11_text_23 ⟨Nat.le_of_ble_eq_true rfl, Nat.le_of_ble_eq_true rfl⟩) (fun u_7 H locs hw_5 hP hD hS => ?_)
  have hP : va_P D vwCl [(x, .inr (11, [.ref b, .ref im, .ref la, .ref cu, .ref wa, .ref pa, .ref dr, .ref su, .ref mk, .ref vi, .ref re, .ref rd, .ref so, .ref fw, .ref wo, .ref gi])), (b, .inr (0, [.int 0, .ref to, .ref ro, .ref sl, .ref li, .ref ca, .ref ho, .ref ta, .int 0])), (la, .inr (8, [.ref lk, .int 0])), (lk, .inl (cy 5, 6, .inr (.inr (.inr (.inr (fun _ => none)))))), (cu, .inr (8, [.ref ck, .int 0])), (ck, .inl (cy 5, 8, .inr (.inr (.inr (.inr (fun _ => none)))))), (wa, .inr (8, [.ref wk, .int 0])), (wk, .inl (cy 5, 8, .inr (.inr (.inr (.inr (fun _ => none)))))), (pa, .inr (2, [.ref tk, .ref te, .int 0, .int 0, .int 0, .int 0])), (tk, .inr (9, [.ref tq, .ref tp, .ref tv, .int 0])), (tq, .inl (cy 0, 401, .inl (fun _ => 0))), (tp, .inl (cy 0, 401, .inl (fun _ => 0))), (tv, .inl (cy 0, 401, .inl (fun _ => 0)))] H := hP
  have hD : va_D A [(x, .inr (11, [.ref b, .ref im, .ref la, .ref cu, .ref wa, .ref pa, .ref dr, .ref su, .ref mk, .ref vi, .ref re, .ref rd, .ref so, .ref fw, .ref wo, .ref gi])), (b, .inr (0, [.int 0, .ref to, .ref ro, .ref sl, .ref li, .ref ca, .ref ho, .ref ta, .int 0])), (la, .inr (8, [.ref lk, .int 0])), (lk, .inl (cy 5, 6, .inr (.inr (.inr (.inr (fun _ => none)))))), (cu, .inr (8, [.ref ck, .int 0])), (ck, .inl (cy 5, 8, .inr (.inr (.inr (.inr (fun _ => none)))))), (wa, .inr (8, [.ref wk, .int 0])), (wk, .inl (cy 5, 8, .inr (.inr (.inr (.inr (fun _ => none)))))), (pa, .inr (2, [.ref tk, .ref te, .int 0, .int 0, .int 0, .int 0])), (tk, .inr (9, [.ref tq, .ref tp, .ref tv, .int 0])), (tq, .inl (cy 0, 401, .inl (fun _ => 0))), (tp, .inl (cy 0, 401, .inl (fun _ => 0))), (tv, .inl (cy 0, 401, .inl (fun _ => 0)))] := hD
  refine W.widen (k := 0) (n := 0) (Nat.le_refl _) (Nat.le_refl _) ?_
  refine lv_aload_n hx hb dX11_text_26 rfl (lv_at hl 1 rfl) ?_
  refine va_get (D := D) (ci := 11) (v := .ref pa) (C := RX11) (T := TX11) (N := 16) hx hb hta inlX11 hown hK hP 0 rfl rfl 5 (by decide) (hta _ wk_26) (fun _ h9 => h9) rfl dX11_text_27 ?_
  refine lv_aload_n hx hb dX11_text_30 rfl (lv_at hl 1 rfl) ?_
  refine va_get (D := D) (ci := 11) (v := .ref b) (C := RX11) (T := TX11) (N := 16) hx hb hta inlX11 hown hK hP 0 rfl rfl 0 (by decide) (hta _ wk_15) (fun _ h9 => h9) rfl dX11_text_31 ?_
  refine lv_iload_n hx hb dX11_text_34 rfl (lv_at hl 2 rfl) ?_
  refine lv_aload_n hx hb dX11_text_35 rfl (lv_at hl 1 rfl) ?_
  refine va_get (D := D) (ci := 11) (v := .ref dr) (C := RX11) (T := TX11) (N := 16) hx hb hta inlX11 hown hK hP 0 rfl rfl 6 (by decide) (hta _ wk_30) (fun _ h9 => h9) rfl dX11_text_36 ?_
  have hPc := hP.sub (ws' := [(pa, .inr (2, [.ref tk, .ref te, .int 0, .int 0, .int 0, .int 0])), (tk, .inr (9, [.ref tq, .ref tp, .ref tv, .int 0])), (tq, .inl (cy 0, 401, .inl (fun _ => 0))), (tp, .inl (cy 0, 401, .inl (fun _ => 0))), (tv, .inl (cy 0, 401, .inl (fun _ => 0))), (b, .inr (0, [.int 0, .ref to, .ref ro, .ref sl, .ref li, .ref ca, .ref ho, .ref ta, .int 0]))]) [8, 9, 10, 11, 12, 1] rfl
  have hDc := hD.sub (ws' := [(pa, .inr (2, [.ref tk, .ref te, .int 0, .int 0, .int 0, .int 0])), (tk, .inr (9, [.ref tq, .ref tp, .ref tv, .int 0])), (tq, .inl (cy 0, 401, .inl (fun _ => 0))), (tp, .inl (cy 0, 401, .inl (fun _ => 0))), (tv, .inl (cy 0, 401, .inl (fun _ => 0))), (b, .inr (0, [.int 0, .ref to, .ref ro, .ref sl, .ref li, .ref ca, .ref ho, .ref ta, .int 0]))]) [8, 9, 10, 11, 12, 1] (by decide) rfl
  refine tl_ci (wr := [(x, .inr (11, [.ref b, .ref im, .ref la, .ref cu, .ref wa, .ref pa, .ref dr, .ref su, .ref mk, .ref vi, .ref re, .ref rd, .ref so, .ref fw, .ref wo, .ref gi])), (la, .inr (8, [.ref lk, .int 0])), (lk, .inl (cy 5, 6, .inr (.inr (.inr (.inr (fun _ => none)))))), (cu, .inr (8, [.ref ck, .int 0])), (ck, .inl (cy 5, 8, .inr (.inr (.inr (.inr (fun _ => none)))))), (wa, .inr (8, [.ref wk, .int 0])), (wk, .inl (cy 5, 8, .inr (.inr (.inr (.inr (fun _ => none))))))]) _ _ hP hD hS hA [8, 9, 10, 11, 12, 1] [0, 2, 3, 4, 5, 6, 7] rfl rfl (by decide) (by decide) (tl_rVN (As := [.ref b, .int 2, .ref dr]) (rest := []) ⟨hx, hb, hml, hown, hta⟩ hK hN hPc hDc (ci := 2) rfl 0 rfl lk_X11_193 (c_X2_parse l D cy H.size pa b 2 dr tk te tq tp tv to ro sl li ca ho ta ) rfl rfl ⟨Nat.le_of_ble_eq_true rfl, Nat.le_of_ble_eq_true rfl⟩ rfl hl.1 rfl (Nat.le_of_ble_eq_true rfl) dX11_text_39 ⟨Nat.le_of_ble_eq_true rfl, Nat.le_of_ble_eq_true rfl⟩) (fun r_9 u_10 H locs hw_8 hP hD hS => ?_)
  have hP : va_P D vwCl [(x, .inr (11, [.ref b, .ref im, .ref la, .ref cu, .ref wa, .ref pa, .ref dr, .ref su, .ref mk, .ref vi, .ref re, .ref rd, .ref so, .ref fw, .ref wo, .ref gi])), (la, .inr (8, [.ref lk, .int 0])), (lk, .inl (cy 5, 6, .inr (.inr (.inr (.inr (fun _ => none)))))), (cu, .inr (8, [.ref ck, .int 0])), (ck, .inl (cy 5, 8, .inr (.inr (.inr (.inr (fun _ => none)))))), (wa, .inr (8, [.ref wk, .int 0])), (wk, .inl (cy 5, 8, .inr (.inr (.inr (.inr (fun _ => none)))))), (b, .inr (0, [.int 0, .ref to, .ref ro, .ref sl, .ref li, .ref ca, .ref ho, .ref ta, .int 0]))] H := hP
  have hD : va_D A [(x, .inr (11, [.ref b, .ref im, .ref la, .ref cu, .ref wa, .ref pa, .ref dr, .ref su, .ref mk, .ref vi, .ref re, .ref rd, .ref so, .ref fw, .ref wo, .ref gi])), (la, .inr (8, [.ref lk, .int 0])), (lk, .inl (cy 5, 6, .inr (.inr (.inr (.inr (fun _ => none)))))), (cu, .inr (8, [.ref ck, .int 0])), (ck, .inl (cy 5, 8, .inr (.inr (.inr (.inr (fun _ => none)))))), (wa, .inr (8, [.ref wk, .int 0])), (wk, .inl (cy 5, 8, .inr (.inr (.inr (.inr (fun _ => none)))))), (b, .inr (0, [.int 0, .ref to, .ref ro, .ref sl, .ref li, .ref ca, .ref ho, .ref ta, .int 0]))] := hD
  refine W.widen (k := 0) (n := 0) (Nat.le_refl _) (Nat.le_refl _) ?_
  subst hw_8
  refine lv_istore_n (lv' := [(3, .int 1), (2, .ref wa), (0, .ref x), (1, .int 2)]) hx hb dX11_text_42 rfl hl (by decide) rfl (fun ls hl => ?_)
  refine lv_aload_n hx hb dX11_text_43 rfl (lv_at hl 2 rfl) ?_
  refine va_get (D := D) (ci := 11) (v := .ref b) (C := RX11) (T := TX11) (N := 16) hx hb hta inlX11 hown hK hP 0 rfl rfl 0 (by decide) (hta _ wk_15) (fun _ h9 => h9) rfl dX11_text_44 ?_
  refine lv_iconst (v := 0) hx hb dX11_text_47 (by decide) ?_
  refine va_putN (D := D) (ci := 0) (v := .int 0) (ty := tyX0 8) (C := RX0) (T := TX0) (N := 9) hx hb hta inlX0 tyX0 tyX0_ok nmX0 hown hK hP hD hS 7 rfl rfl 8 (by decide) (va_Nw.use rfl (hN.1 26 _ nk_26)) (fun _ h9 => h9) rfl (tyX0_ok 8 (by decide)) rfl rfl (Nat.le_of_ble_eq_true rfl) dX11_text_48 (fun H locs hP hD hS => ?_)
  have hP : va_P D vwCl [(x, .inr (11, [.ref b, .ref im, .ref la, .ref cu, .ref wa, .ref pa, .ref dr, .ref su, .ref mk, .ref vi, .ref re, .ref rd, .ref so, .ref fw, .ref wo, .ref gi])), (la, .inr (8, [.ref lk, .int 0])), (lk, .inl (cy 5, 6, .inr (.inr (.inr (.inr (fun _ => none)))))), (cu, .inr (8, [.ref ck, .int 0])), (ck, .inl (cy 5, 8, .inr (.inr (.inr (.inr (fun _ => none)))))), (wa, .inr (8, [.ref wk, .int 0])), (wk, .inl (cy 5, 8, .inr (.inr (.inr (.inr (fun _ => none)))))), (b, .inr (0, [.int 0, .ref to, .ref ro, .ref sl, .ref li, .ref ca, .ref ho, .ref ta, .int 0]))] H := hP
  have hD : va_D A [(x, .inr (11, [.ref b, .ref im, .ref la, .ref cu, .ref wa, .ref pa, .ref dr, .ref su, .ref mk, .ref vi, .ref re, .ref rd, .ref so, .ref fw, .ref wo, .ref gi])), (la, .inr (8, [.ref lk, .int 0])), (lk, .inl (cy 5, 6, .inr (.inr (.inr (.inr (fun _ => none)))))), (cu, .inr (8, [.ref ck, .int 0])), (ck, .inl (cy 5, 8, .inr (.inr (.inr (.inr (fun _ => none)))))), (wa, .inr (8, [.ref wk, .int 0])), (wk, .inl (cy 5, 8, .inr (.inr (.inr (.inr (fun _ => none)))))), (b, .inr (0, [.int 0, .ref to, .ref ro, .ref sl, .ref li, .ref ca, .ref ho, .ref ta, .int 0]))] := hD
  refine lv_iload_n hx hb dX11_text_51 rfl (lv_at hl 0 rfl) ?_
  refine lv_if_eq (tgt := 60) hx hb dX11_text_52 (by decide) (fun c => absurd c (by decide)) (fun _ => ?_)
  refine lv_bipush (v := (-2)) hx hb dX11_text_55 (by decide) ?_
  refine lv_iload_n hx hb dX11_text_57 rfl (lv_at hl 0 rfl) ?_
  refine lv_isub hx hb dX11_text_58 ?_
  refine lv_topi (fun z_11 ez_11 => ?_)
  obtain rfl : z_11 = ((-3) : Int32) := ez_11.trans (by decide)
  have hP9 := hP.sub (ws' := []) [] rfl
  have hD9 := hD.sub (ws' := []) [] (by decide) rfl
  exact W.iret (v := (-3)) hx hb hr (fun t ht hW => ⟨⟨_, (), rfl, (Or.inl ⟨by decide, rfl⟩), by rw [ht]; exact hP9, hD9⟩, hS.F ht⟩) hS.2.2 dX11_text_59
set_option maxHeartbeats 4000000 in
set_option maxRecDepth 100000 in
theorem c_X11_text_n (l : Launch) (D : va_G) (cy : Nat → ClassId) (sz : Nat) (x : Nat) (p0 : Int32) (b : Nat) (im : Nat) (la : Nat) (cu : Nat) (wa : Nat) (pa : Nat) (dr : Nat) (su : Nat) (mk : Nat) (vi : Nat) (re : Nat) (rd : Nat) (so : Nat) (fw : Nat) (wo : Nat) (gi : Nat) (to : Nat) (ro : Nat) (sl : Nat) (li : Nat) (ca : Nat) (ho : Nat) (ta : Nat) (lk : Nat) (ck : Nat) (wk : Nat) (t0 : Nat) (t1 : Nat) (t2 : Nat) (t3 : Nat) (t4 : Nat) (t5 : Nat) (t6 : Nat) (tk : Nat) (te : Nat) (tq : Nat) (tp : Nat) (tv : Nat) (hne : p0.toInt < 0 ∨ 2 < p0.toInt) : Met l yX11_text (tl_w yX11_text cX11_text 5 (some .int)) ({ frames := 6, cells := 0, slots := 0, locals := 200 }) (va_Pc [.ref x, .int p0] (tl_P D cy [(x, .inr (11, [.ref b, .ref im, .ref la, .ref cu, .ref wa, .ref pa, .ref dr, .ref su, .ref mk, .ref vi, .ref re, .ref rd, .ref so, .ref fw, .ref wo, .ref gi])), (b, .inr (0, [.int 0, .ref to, .ref ro, .ref sl, .ref li, .ref ca, .ref ho, .ref ta, .int 0])), (la, .inr (8, [.ref lk, .int 0])), (lk, .inl (cy 5, 6, .inr (.inr (.inr (.inr (fun _ => none)))))), (cu, .inr (8, [.ref ck, .int 0])), (ck, .inl (cy 5, 8, .inr (.inr (.inr (.inr (fun _ => none)))))), (wa, .inr (8, [.ref wk, .int 0])), (wk, .inl (cy 5, 8, .inr (.inr (.inr (.inr (fun _ => none)))))), (dr, .inr (7, [.int 0, .ref t0, .ref t1, .ref t2, .ref t3, .ref t4, .ref t5, .ref t6, .int 0])), (pa, .inr (2, [.ref tk, .ref te, .int 0, .int 0, .int 0, .int 0])), (tk, .inr (9, [.ref tq, .ref tp, .ref tv, .int 0])), (tq, .inl (cy 0, 401, .inl (fun _ => 0))), (tp, .inl (cy 0, 401, .inl (fun _ => 0))), (tv, .inl (cy 0, 401, .inl (fun _ => 0)))] sz)) (va_Qi (fun (r : Int32) (u : Unit) => tl_E r (0 ≤ p0.toInt ∧ p0.toInt ≤ 2) (-3) (-1)) (tl_B D (va_A [(x, .inr (11, [.ref b, .ref im, .ref la, .ref cu, .ref wa, .ref pa, .ref dr, .ref su, .ref mk, .ref vi, .ref re, .ref rd, .ref so, .ref fw, .ref wo, .ref gi])), (b, .inr (0, [.int 0, .ref to, .ref ro, .ref sl, .ref li, .ref ca, .ref ho, .ref ta, .int 0])), (la, .inr (8, [.ref lk, .int 0])), (lk, .inl (cy 5, 6, .inr (.inr (.inr (.inr (fun _ => none)))))), (cu, .inr (8, [.ref ck, .int 0])), (ck, .inl (cy 5, 8, .inr (.inr (.inr (.inr (fun _ => none)))))), (wa, .inr (8, [.ref wk, .int 0])), (wk, .inl (cy 5, 8, .inr (.inr (.inr (.inr (fun _ => none)))))), (dr, .inr (7, [.int 0, .ref t0, .ref t1, .ref t2, .ref t3, .ref t4, .ref t5, .ref t6, .int 0])), (pa, .inr (2, [.ref tk, .ref te, .int 0, .int 0, .int 0, .int 0])), (tk, .inr (9, [.ref tq, .ref tp, .ref tv, .int 0])), (tq, .inl (cy 0, 401, .inl (fun _ => 0))), (tp, .inl (cy 0, 401, .inl (fun _ => 0))), (tv, .inl (cy 0, 401, .inl (fun _ => 0)))] sz) (fun u : Unit => [])) (va_A [(x, .inr (11, [.ref b, .ref im, .ref la, .ref cu, .ref wa, .ref pa, .ref dr, .ref su, .ref mk, .ref vi, .ref re, .ref rd, .ref so, .ref fw, .ref wo, .ref gi])), (b, .inr (0, [.int 0, .ref to, .ref ro, .ref sl, .ref li, .ref ca, .ref ho, .ref ta, .int 0])), (la, .inr (8, [.ref lk, .int 0])), (lk, .inl (cy 5, 6, .inr (.inr (.inr (.inr (fun _ => none)))))), (cu, .inr (8, [.ref ck, .int 0])), (ck, .inl (cy 5, 8, .inr (.inr (.inr (.inr (fun _ => none)))))), (wa, .inr (8, [.ref wk, .int 0])), (wk, .inl (cy 5, 8, .inr (.inr (.inr (.inr (fun _ => none)))))), (dr, .inr (7, [.int 0, .ref t0, .ref t1, .ref t2, .ref t3, .ref t4, .ref t5, .ref t6, .int 0])), (pa, .inr (2, [.ref tk, .ref te, .int 0, .int 0, .int 0, .int 0])), (tk, .inr (9, [.ref tq, .ref tp, .ref tv, .int 0])), (tq, .inl (cy 0, 401, .inl (fun _ => 0))), (tp, .inl (cy 0, 401, .inl (fun _ => 0))), (tv, .inl (cy 0, 401, .inl (fun _ => 0)))] sz)) 0 0 (va_A [(x, .inr (11, [.ref b, .ref im, .ref la, .ref cu, .ref wa, .ref pa, .ref dr, .ref su, .ref mk, .ref vi, .ref re, .ref rd, .ref so, .ref fw, .ref wo, .ref gi])), (b, .inr (0, [.int 0, .ref to, .ref ro, .ref sl, .ref li, .ref ca, .ref ho, .ref ta, .int 0])), (la, .inr (8, [.ref lk, .int 0])), (lk, .inl (cy 5, 6, .inr (.inr (.inr (.inr (fun _ => none)))))), (cu, .inr (8, [.ref ck, .int 0])), (ck, .inl (cy 5, 8, .inr (.inr (.inr (.inr (fun _ => none)))))), (wa, .inr (8, [.ref wk, .int 0])), (wk, .inl (cy 5, 8, .inr (.inr (.inr (.inr (fun _ => none)))))), (dr, .inr (7, [.int 0, .ref t0, .ref t1, .ref t2, .ref t3, .ref t4, .ref t5, .ref t6, .int 0])), (pa, .inr (2, [.ref tk, .ref te, .int 0, .int 0, .int 0, .int 0])), (tk, .inr (9, [.ref tq, .ref tp, .ref tv, .int 0])), (tq, .inl (cy 0, 401, .inl (fun _ => 0))), (tp, .inl (cy 0, 401, .inl (fun _ => 0))), (tv, .inl (cy 0, 401, .inl (fun _ => 0)))] sz) := by
  refine Met.ofW (cc := cX11_text) (maxL := 5) (ret := (some .int)) (by decide) rfl ?_
  intro p e s m args below meth c s₁ B hml hv
  obtain ⟨rfl, hsz, hP, hK, hD0, hN⟩ := hv
  have hx := B.exec
  have hb := B.bytes
  have hr := B.returns
  have hta := tl_hta (atoms_spec (ws := tl_w yX11_text cX11_text 5 (some .int)) B.pre)
  have hown : s.vm.findClass RX11 = some m.cls := findClass_of_methodNamed B.named
  have hlocks := B.notSynchronized
  subst hsz
  have hD := hD0.self (sz := s.heap.size)
  generalize hAe : va_A [(x, .inr (11, [.ref b, .ref im, .ref la, .ref cu, .ref wa, .ref pa, .ref dr, .ref su, .ref mk, .ref vi, .ref re, .ref rd, .ref so, .ref fw, .ref wo, .ref gi])), (b, .inr (0, [.int 0, .ref to, .ref ro, .ref sl, .ref li, .ref ca, .ref ho, .ref ta, .int 0])), (la, .inr (8, [.ref lk, .int 0])), (lk, .inl (cy 5, 6, .inr (.inr (.inr (.inr (fun _ => none)))))), (cu, .inr (8, [.ref ck, .int 0])), (ck, .inl (cy 5, 8, .inr (.inr (.inr (.inr (fun _ => none)))))), (wa, .inr (8, [.ref wk, .int 0])), (wk, .inl (cy 5, 8, .inr (.inr (.inr (.inr (fun _ => none)))))), (dr, .inr (7, [.int 0, .ref t0, .ref t1, .ref t2, .ref t3, .ref t4, .ref t5, .ref t6, .int 0])), (pa, .inr (2, [.ref tk, .ref te, .int 0, .int 0, .int 0, .int 0])), (tk, .inr (9, [.ref tq, .ref tp, .ref tv, .int 0])), (tq, .inl (cy 0, 401, .inl (fun _ => 0))), (tp, .inl (cy 0, 401, .inl (fun _ => 0))), (tv, .inl (cy 0, 401, .inl (fun _ => 0)))] s.heap.size = A at hD ⊢
  have hA : ∀ q : Nat, s.heap.size ≤ q → A q := fun q h => by rw [← hAe]; exact Or.inr h
  have hS : va_S A s.heap s.heap [] := va_S.rf
  have hP : va_P D vwCl [(x, .inr (11, [.ref b, .ref im, .ref la, .ref cu, .ref wa, .ref pa, .ref dr, .ref su, .ref mk, .ref vi, .ref re, .ref rd, .ref so, .ref fw, .ref wo, .ref gi])), (b, .inr (0, [.int 0, .ref to, .ref ro, .ref sl, .ref li, .ref ca, .ref ho, .ref ta, .int 0])), (la, .inr (8, [.ref lk, .int 0])), (lk, .inl (cy 5, 6, .inr (.inr (.inr (.inr (fun _ => none)))))), (cu, .inr (8, [.ref ck, .int 0])), (ck, .inl (cy 5, 8, .inr (.inr (.inr (.inr (fun _ => none)))))), (wa, .inr (8, [.ref wk, .int 0])), (wk, .inl (cy 5, 8, .inr (.inr (.inr (.inr (fun _ => none)))))), (dr, .inr (7, [.int 0, .ref t0, .ref t1, .ref t2, .ref t3, .ref t4, .ref t5, .ref t6, .int 0])), (pa, .inr (2, [.ref tk, .ref te, .int 0, .int 0, .int 0, .int 0])), (tk, .inr (9, [.ref tq, .ref tp, .ref tv, .int 0])), (tq, .inl (cy 0, 401, .inl (fun _ => 0))), (tp, .inl (cy 0, 401, .inl (fun _ => 0))), (tv, .inl (cy 0, 401, .inl (fun _ => 0)))] s.heap := hP
  have hl := lv_entry ([.ref x, .int p0]) (n := 5) (Nat.le_of_ble_eq_true rfl)
  rw [lg_entry_eq]
  generalize (lg_sl ([.ref x, .int p0]) ++ List.replicate (5 - (lg_sl ([.ref x, .int p0])).length) Slot.unset).toArray = ls at hl ⊢
  have hl : lv_has ls 5 [(0, .ref x), (1, .int p0)] := hl
  refine lv_aload_n hx hb dX11_text_0 rfl (lv_at hl 0 rfl) ?_
  refine lv_iload_n hx hb dX11_text_1 rfl (lv_at hl 1 rfl) ?_
  have hPc := hP.sub (ws' := [(x, .inr (11, [.ref b, .ref im, .ref la, .ref cu, .ref wa, .ref pa, .ref dr, .ref su, .ref mk, .ref vi, .ref re, .ref rd, .ref so, .ref fw, .ref wo, .ref gi]))]) [0] rfl
  have hDc := hD.sub (ws' := [(x, .inr (11, [.ref b, .ref im, .ref la, .ref cu, .ref wa, .ref pa, .ref dr, .ref su, .ref mk, .ref vi, .ref re, .ref rd, .ref so, .ref fw, .ref wo, .ref gi]))]) [0] (by decide) rfl
  refine tl_sq (tl_rV (As := [.int p0]) (rest := []) ⟨hx, hb, hml, hown, hta⟩ hK hN hPc hDc (ci := 11) rfl 0 rfl lk_X11_182 (c_X11_shelfOf_n l D cy s.heap.size x p0 b im la cu wa pa dr su mk vi re rd so fw wo gi (by first | decide | omega | assumption)) rfl rfl ⟨Nat.le_of_ble_eq_true rfl, Nat.le_of_ble_eq_true rfl⟩ rfl hl.1 rfl (Nat.le_of_ble_eq_true rfl) dX11_text_2 ⟨Nat.le_of_ble_eq_true rfl, Nat.le_of_ble_eq_true rfl⟩) (fun r_2 hw_1 => ?_)
  subst hw_1
  refine W.eq (g2 := F0 m 5 ls [.null]) rfl ?_
  refine lv_astore_nN (lv' := [(2, .null), (0, .ref x), (1, .int p0)]) hx hb dX11_text_5 rfl hl (by decide) rfl (fun ls hl => ?_)
  refine lv_aload_nN hx hb dX11_text_6 rfl (lv_at hl 0 rfl) ?_
  refine lv_ifnullN (tgt := 17) hx hb dX11_text_7 (by decide) ?_
  refine lv_iconst (v := (-1)) hx hb dX11_text_17 (by decide) ?_
  have hP9 := hP.sub (ws' := []) [] rfl
  have hD9 := hD.sub (ws' := []) [] (by decide) rfl
  have hS : va_S A s.heap s.heap [] := hS
  exact W.iret (v := (-1)) hx hb hr (fun t ht hW => ⟨⟨_, (), rfl, (Or.inr ⟨by omega, rfl⟩), by rw [ht]; exact hP9, hD9⟩, hS.F ht⟩) hS.2.2 dX11_text_18
theorem c_X11_text (l : Launch) (D : va_G) (cy : Nat → ClassId) (sz : Nat) (x : Nat) (p0 : Int32) (b : Nat) (im : Nat) (la : Nat) (cu : Nat) (wa : Nat) (pa : Nat) (dr : Nat) (su : Nat) (mk : Nat) (vi : Nat) (re : Nat) (rd : Nat) (so : Nat) (fw : Nat) (wo : Nat) (gi : Nat) (to : Nat) (ro : Nat) (sl : Nat) (li : Nat) (ca : Nat) (ho : Nat) (ta : Nat) (lk : Nat) (ck : Nat) (wk : Nat) (t0 : Nat) (t1 : Nat) (t2 : Nat) (t3 : Nat) (t4 : Nat) (t5 : Nat) (t6 : Nat) (tk : Nat) (te : Nat) (tq : Nat) (tp : Nat) (tv : Nat) : Met l yX11_text (tl_w yX11_text cX11_text 5 (some .int)) ({ frames := 6, cells := 0, slots := 0, locals := 200 }) (va_Pc [.ref x, .int p0] (tl_P D cy [(x, .inr (11, [.ref b, .ref im, .ref la, .ref cu, .ref wa, .ref pa, .ref dr, .ref su, .ref mk, .ref vi, .ref re, .ref rd, .ref so, .ref fw, .ref wo, .ref gi])), (b, .inr (0, [.int 0, .ref to, .ref ro, .ref sl, .ref li, .ref ca, .ref ho, .ref ta, .int 0])), (la, .inr (8, [.ref lk, .int 0])), (lk, .inl (cy 5, 6, .inr (.inr (.inr (.inr (fun _ => none)))))), (cu, .inr (8, [.ref ck, .int 0])), (ck, .inl (cy 5, 8, .inr (.inr (.inr (.inr (fun _ => none)))))), (wa, .inr (8, [.ref wk, .int 0])), (wk, .inl (cy 5, 8, .inr (.inr (.inr (.inr (fun _ => none)))))), (dr, .inr (7, [.int 0, .ref t0, .ref t1, .ref t2, .ref t3, .ref t4, .ref t5, .ref t6, .int 0])), (pa, .inr (2, [.ref tk, .ref te, .int 0, .int 0, .int 0, .int 0])), (tk, .inr (9, [.ref tq, .ref tp, .ref tv, .int 0])), (tq, .inl (cy 0, 401, .inl (fun _ => 0))), (tp, .inl (cy 0, 401, .inl (fun _ => 0))), (tv, .inl (cy 0, 401, .inl (fun _ => 0)))] sz)) (va_Qi (fun (r : Int32) (u : Unit) => tl_E r (0 ≤ p0.toInt ∧ p0.toInt ≤ 2) (-3) (-1)) (tl_B D (va_A [(x, .inr (11, [.ref b, .ref im, .ref la, .ref cu, .ref wa, .ref pa, .ref dr, .ref su, .ref mk, .ref vi, .ref re, .ref rd, .ref so, .ref fw, .ref wo, .ref gi])), (b, .inr (0, [.int 0, .ref to, .ref ro, .ref sl, .ref li, .ref ca, .ref ho, .ref ta, .int 0])), (la, .inr (8, [.ref lk, .int 0])), (lk, .inl (cy 5, 6, .inr (.inr (.inr (.inr (fun _ => none)))))), (cu, .inr (8, [.ref ck, .int 0])), (ck, .inl (cy 5, 8, .inr (.inr (.inr (.inr (fun _ => none)))))), (wa, .inr (8, [.ref wk, .int 0])), (wk, .inl (cy 5, 8, .inr (.inr (.inr (.inr (fun _ => none)))))), (dr, .inr (7, [.int 0, .ref t0, .ref t1, .ref t2, .ref t3, .ref t4, .ref t5, .ref t6, .int 0])), (pa, .inr (2, [.ref tk, .ref te, .int 0, .int 0, .int 0, .int 0])), (tk, .inr (9, [.ref tq, .ref tp, .ref tv, .int 0])), (tq, .inl (cy 0, 401, .inl (fun _ => 0))), (tp, .inl (cy 0, 401, .inl (fun _ => 0))), (tv, .inl (cy 0, 401, .inl (fun _ => 0)))] sz) (fun u : Unit => [])) (va_A [(x, .inr (11, [.ref b, .ref im, .ref la, .ref cu, .ref wa, .ref pa, .ref dr, .ref su, .ref mk, .ref vi, .ref re, .ref rd, .ref so, .ref fw, .ref wo, .ref gi])), (b, .inr (0, [.int 0, .ref to, .ref ro, .ref sl, .ref li, .ref ca, .ref ho, .ref ta, .int 0])), (la, .inr (8, [.ref lk, .int 0])), (lk, .inl (cy 5, 6, .inr (.inr (.inr (.inr (fun _ => none)))))), (cu, .inr (8, [.ref ck, .int 0])), (ck, .inl (cy 5, 8, .inr (.inr (.inr (.inr (fun _ => none)))))), (wa, .inr (8, [.ref wk, .int 0])), (wk, .inl (cy 5, 8, .inr (.inr (.inr (.inr (fun _ => none)))))), (dr, .inr (7, [.int 0, .ref t0, .ref t1, .ref t2, .ref t3, .ref t4, .ref t5, .ref t6, .int 0])), (pa, .inr (2, [.ref tk, .ref te, .int 0, .int 0, .int 0, .int 0])), (tk, .inr (9, [.ref tq, .ref tp, .ref tv, .int 0])), (tq, .inl (cy 0, 401, .inl (fun _ => 0))), (tp, .inl (cy 0, 401, .inl (fun _ => 0))), (tv, .inl (cy 0, 401, .inl (fun _ => 0)))] sz)) 0 0 (va_A [(x, .inr (11, [.ref b, .ref im, .ref la, .ref cu, .ref wa, .ref pa, .ref dr, .ref su, .ref mk, .ref vi, .ref re, .ref rd, .ref so, .ref fw, .ref wo, .ref gi])), (b, .inr (0, [.int 0, .ref to, .ref ro, .ref sl, .ref li, .ref ca, .ref ho, .ref ta, .int 0])), (la, .inr (8, [.ref lk, .int 0])), (lk, .inl (cy 5, 6, .inr (.inr (.inr (.inr (fun _ => none)))))), (cu, .inr (8, [.ref ck, .int 0])), (ck, .inl (cy 5, 8, .inr (.inr (.inr (.inr (fun _ => none)))))), (wa, .inr (8, [.ref wk, .int 0])), (wk, .inl (cy 5, 8, .inr (.inr (.inr (.inr (fun _ => none)))))), (dr, .inr (7, [.int 0, .ref t0, .ref t1, .ref t2, .ref t3, .ref t4, .ref t5, .ref t6, .int 0])), (pa, .inr (2, [.ref tk, .ref te, .int 0, .int 0, .int 0, .int 0])), (tk, .inr (9, [.ref tq, .ref tp, .ref tv, .int 0])), (tq, .inl (cy 0, 401, .inl (fun _ => 0))), (tp, .inl (cy 0, 401, .inl (fun _ => 0))), (tv, .inl (cy 0, 401, .inl (fun _ => 0)))] sz) := by
  by_cases h0 : p0.toInt = 0
  · obtain rfl : p0 = 0 := Int32.toInt_inj.mp h0
    exact c_X11_text_0 l D cy sz x b im la cu wa pa dr su mk vi re rd so fw wo gi to ro sl li ca ho ta lk ck wk t0 t1 t2 t3 t4 t5 t6 tk te tq tp tv
  by_cases h1 : p0.toInt = 1
  · obtain rfl : p0 = 1 := Int32.toInt_inj.mp h1
    exact c_X11_text_1 l D cy sz x b im la cu wa pa dr su mk vi re rd so fw wo gi to ro sl li ca ho ta lk ck wk t0 t1 t2 t3 t4 t5 t6 tk te tq tp tv
  by_cases h2 : p0.toInt = 2
  · obtain rfl : p0 = 2 := Int32.toInt_inj.mp h2
    exact c_X11_text_2 l D cy sz x b im la cu wa pa dr su mk vi re rd so fw wo gi to ro sl li ca ho ta lk ck wk t0 t1 t2 t3 t4 t5 t6 tk te tq tp tv
  exact c_X11_text_n l D cy sz x p0 b im la cu wa pa dr su mk vi re rd so fw wo gi to ro sl li ca ho ta lk ck wk t0 t1 t2 t3 t4 t5 t6 tk te tq tp tv (by omega)

set_option maxHeartbeats 4000000 in
set_option maxRecDepth 100000 in
theorem c_X0_append_0 (l : Launch) (D : va_G) (cy : Nat → ClassId) (sz : Nat) (b : Nat) (p0 : Int32) (to : Nat) (ro : Nat) (sl : Nat) (li : Nat) (ca : Nat) (ho : Nat) (ta : Nat) (f : Nat → Int32)  : Met l yX0_append (tl_w yX0_append cX0_append 3 none) ({ frames := 0, cells := 0, slots := 0, locals := 0 }) (va_Pc [.ref b, .int p0] (tl_P D cy [(b, .inr (0, [.int 0, .ref to, .ref ro, .ref sl, .ref li, .ref ca, .ref ho, .ref ta, .int 0])), (ta, .inl (cy 0, 400, .inl f))] sz)) (va_Qv (fun (u : Nat → Int32) => True) (tl_B D (va_A [(b, .inr (0, [.int 0, .ref to, .ref ro, .ref sl, .ref li, .ref ca, .ref ho, .ref ta, .int 0])), (ta, .inl (cy 0, 400, .inl f))] sz) (fun u : Nat → Int32 => [(b, .inr (0, [.int 0, .ref to, .ref ro, .ref sl, .ref li, .ref ca, .ref ho, .ref ta, .int 4])), (ta, .inl (cy 0, 400, .inl u))])) (va_A [(b, .inr (0, [.int 0, .ref to, .ref ro, .ref sl, .ref li, .ref ca, .ref ho, .ref ta, .int 0])), (ta, .inl (cy 0, 400, .inl f))] sz)) 0 0 (va_A [(b, .inr (0, [.int 0, .ref to, .ref ro, .ref sl, .ref li, .ref ca, .ref ho, .ref ta, .int 0])), (ta, .inl (cy 0, 400, .inl f))] sz) := by
  refine Met.ofW (cc := cX0_append) (maxL := 3) (ret := none) (by decide) rfl ?_
  intro p e s m args below meth c s₁ B hml hv
  obtain ⟨rfl, hsz, hP, hK, hD0, hN⟩ := hv
  have hx := B.exec
  have hb := B.bytes
  have hr := B.returns
  have hta := tl_hta (atoms_spec (ws := tl_w yX0_append cX0_append 3 none) B.pre)
  have hown : s.vm.findClass RX0 = some m.cls := findClass_of_methodNamed B.named
  have hlocks := B.notSynchronized
  subst hsz
  have hD := hD0.self (sz := s.heap.size)
  generalize hAe : va_A [(b, .inr (0, [.int 0, .ref to, .ref ro, .ref sl, .ref li, .ref ca, .ref ho, .ref ta, .int 0])), (ta, .inl (cy 0, 400, .inl f))] s.heap.size = A at hD ⊢
  have hA : ∀ q : Nat, s.heap.size ≤ q → A q := fun q h => by rw [← hAe]; exact Or.inr h
  have hS : va_S A s.heap s.heap [] := va_S.rf
  have hP : va_P D vwCl [(b, .inr (0, [.int 0, .ref to, .ref ro, .ref sl, .ref li, .ref ca, .ref ho, .ref ta, .int 0])), (ta, .inl (cy 0, 400, .inl f))] s.heap := hP
  have hl := lv_entry ([.ref b, .int p0]) (n := 3) (Nat.le_of_ble_eq_true rfl)
  rw [lg_entry_eq]
  generalize (lg_sl ([.ref b, .int p0]) ++ List.replicate (3 - (lg_sl ([.ref b, .int p0])).length) Slot.unset).toArray = ls at hl ⊢
  have hl : lv_has ls 3 [(0, .ref b), (1, .int p0)] := hl
  refine lv_bipush (v := 24) hx hb dX0_append_0 (by decide) ?_
  refine lv_istore_n (lv' := [(2, .int 24), (0, .ref b), (1, .int p0)]) hx hb dX0_append_2 rfl hl (by decide) rfl (fun ls hl => ?_)
  refine lv_iload_n hx hb dX0_append_3 rfl (lv_at hl 0 rfl) ?_
  refine lv_if_lt (tgt := 49) hx hb dX0_append_4 (by decide) (fun c => absurd c (by decide)) (fun _ => ?_)
  refine lv_aload_n hx hb dX0_append_7 rfl (lv_at hl 1 rfl) ?_
  refine va_get (D := D) (ci := 0) (v := .int 0) (C := RX0) (T := TX0) (N := 9) hx hb hta inlX0 hown hK hP 0 rfl rfl 8 (by decide) (hta _ wk_342) (fun _ h9 => h9) rfl dX0_append_8 ?_
  refine lv_sipush (v := 400) hx hb dX0_append_11 (by decide) ?_
  refine lv_icmp_ge (tgt := 49) hx hb dX0_append_14 (by decide) (fun c => absurd c (by decide)) (fun _ => ?_)
  refine lv_aload_n hx hb dX0_append_17 rfl (lv_at hl 1 rfl) ?_
  refine va_get (D := D) (ci := 0) (v := .ref ta) (C := RX0) (T := TX0) (N := 9) hx hb hta inlX0 hown hK hP 0 rfl rfl 7 (by decide) (hta _ wk_69) (fun _ h9 => h9) rfl dX0_append_18 ?_
  refine lv_aload_n hx hb dX0_append_21 rfl (lv_at hl 1 rfl) ?_
  refine va_get (D := D) (ci := 0) (v := .int 0) (C := RX0) (T := TX0) (N := 9) hx hb hta inlX0 hown hK hP 0 rfl rfl 8 (by decide) (hta _ wk_342) (fun _ h9 => h9) rfl dX0_append_22 ?_
  refine lv_iload_n hx hb dX0_append_25 rfl (lv_at hl 2 rfl) ?_
  refine lv_iload_n hx hb dX0_append_26 rfl (lv_at hl 0 rfl) ?_
  refine lv_ishr hx hb dX0_append_27 ?_
  refine lv_topi (fun z_1 ez_1 => ?_)
  refine lv_sipush (v := 255) hx hb dX0_append_28 (by decide) ?_
  refine lv_iand hx hb dX0_append_31 ?_
  refine lv_topi (fun z_2 ez_2 => ?_)
  refine va_iast (D := D) hx hb hK hP hD hS 1 0 rfl rfl (tl_in (by decide) (by decide)) dX0_append_32 (fun H locs hP hD hS => ?_)
  have hP : va_P D vwCl [(b, .inr (0, [.int 0, .ref to, .ref ro, .ref sl, .ref li, .ref ca, .ref ho, .ref ta, .int 0])), (ta, .inl (cy 0, 400, .inl (upd f (0 : Int32).toNatClampNeg z_2)))] H := hP
  have hD : va_D A [(b, .inr (0, [.int 0, .ref to, .ref ro, .ref sl, .ref li, .ref ca, .ref ho, .ref ta, .int 0])), (ta, .inl (cy 0, 400, .inl (upd f (0 : Int32).toNatClampNeg z_2)))] := hD
  generalize (upd f (0 : Int32).toNatClampNeg z_2) = f_3 at hP hD
  refine lv_aload_n hx hb dX0_append_33 rfl (lv_at hl 1 rfl) ?_
  refine lv_dup hx hb dX0_append_34 rfl ?_
  refine va_get (D := D) (ci := 0) (v := .int 0) (C := RX0) (T := TX0) (N := 9) hx hb hta inlX0 hown hK hP 0 rfl rfl 8 (by decide) (hta _ wk_342) (fun _ h9 => h9) rfl dX0_append_35 ?_
  refine lv_iconst (v := 1) hx hb dX0_append_38 (by decide) ?_
  refine lv_iadd hx hb dX0_append_39 ?_
  refine lv_topi (fun z_4 ez_4 => ?_)
  obtain rfl : z_4 = (1 : Int32) := ez_4.trans (by decide)
  refine va_put (D := D) (ci := 0) (v := .int 1) (ty := tyX0 8) (C := RX0) (T := TX0) (N := 9) hx hb hta inlX0 tyX0 tyX0_ok nmX0 hown hK hP hD hS 0 rfl rfl 8 (by decide) (hta _ wk_342) (fun _ h9 => h9) rfl (tyX0_ok 8 (by decide)) rfl rfl (Nat.le_of_ble_eq_true rfl) dX0_append_40 (fun H locs hP hD hS => ?_)
  have hP : va_P D vwCl [(b, .inr (0, [.int 0, .ref to, .ref ro, .ref sl, .ref li, .ref ca, .ref ho, .ref ta, .int 1])), (ta, .inl (cy 0, 400, .inl f_3))] H := hP
  have hD : va_D A [(b, .inr (0, [.int 0, .ref to, .ref ro, .ref sl, .ref li, .ref ca, .ref ho, .ref ta, .int 1])), (ta, .inl (cy 0, 400, .inl f_3))] := hD
  refine lv_iinc (v := 16) (lv' := [(2, .int 16), (0, .ref b), (1, .int p0)]) hx hb dX0_append_43 hl (k := 0) rfl (by decide) (by decide) rfl (fun ls hl => ?_)
  refine lv_goto (tgt := 3) hx hb dX0_append_46 (by decide) ?_
  refine lv_iload_n hx hb dX0_append_3 rfl (lv_at hl 0 rfl) ?_
  refine lv_if_lt (tgt := 49) hx hb dX0_append_4 (by decide) (fun c => absurd c (by decide)) (fun _ => ?_)
  refine lv_aload_n hx hb dX0_append_7 rfl (lv_at hl 1 rfl) ?_
  refine va_get (D := D) (ci := 0) (v := .int 1) (C := RX0) (T := TX0) (N := 9) hx hb hta inlX0 hown hK hP 0 rfl rfl 8 (by decide) (hta _ wk_342) (fun _ h9 => h9) rfl dX0_append_8 ?_
  refine lv_sipush (v := 400) hx hb dX0_append_11 (by decide) ?_
  refine lv_icmp_ge (tgt := 49) hx hb dX0_append_14 (by decide) (fun c => absurd c (by decide)) (fun _ => ?_)
  refine lv_aload_n hx hb dX0_append_17 rfl (lv_at hl 1 rfl) ?_
  refine va_get (D := D) (ci := 0) (v := .ref ta) (C := RX0) (T := TX0) (N := 9) hx hb hta inlX0 hown hK hP 0 rfl rfl 7 (by decide) (hta _ wk_69) (fun _ h9 => h9) rfl dX0_append_18 ?_
  refine lv_aload_n hx hb dX0_append_21 rfl (lv_at hl 1 rfl) ?_
  refine va_get (D := D) (ci := 0) (v := .int 1) (C := RX0) (T := TX0) (N := 9) hx hb hta inlX0 hown hK hP 0 rfl rfl 8 (by decide) (hta _ wk_342) (fun _ h9 => h9) rfl dX0_append_22 ?_
  refine lv_iload_n hx hb dX0_append_25 rfl (lv_at hl 2 rfl) ?_
  refine lv_iload_n hx hb dX0_append_26 rfl (lv_at hl 0 rfl) ?_
  refine lv_ishr hx hb dX0_append_27 ?_
  refine lv_topi (fun z_5 ez_5 => ?_)
  refine lv_sipush (v := 255) hx hb dX0_append_28 (by decide) ?_
  refine lv_iand hx hb dX0_append_31 ?_
  refine lv_topi (fun z_6 ez_6 => ?_)
  refine va_iast (D := D) hx hb hK hP hD hS 1 0 rfl rfl (tl_in (by decide) (by decide)) dX0_append_32 (fun H locs hP hD hS => ?_)
  have hP : va_P D vwCl [(b, .inr (0, [.int 0, .ref to, .ref ro, .ref sl, .ref li, .ref ca, .ref ho, .ref ta, .int 1])), (ta, .inl (cy 0, 400, .inl (upd f_3 (1 : Int32).toNatClampNeg z_6)))] H := hP
  have hD : va_D A [(b, .inr (0, [.int 0, .ref to, .ref ro, .ref sl, .ref li, .ref ca, .ref ho, .ref ta, .int 1])), (ta, .inl (cy 0, 400, .inl (upd f_3 (1 : Int32).toNatClampNeg z_6)))] := hD
  generalize (upd f_3 (1 : Int32).toNatClampNeg z_6) = f_7 at hP hD
  refine lv_aload_n hx hb dX0_append_33 rfl (lv_at hl 1 rfl) ?_
  refine lv_dup hx hb dX0_append_34 rfl ?_
  refine va_get (D := D) (ci := 0) (v := .int 1) (C := RX0) (T := TX0) (N := 9) hx hb hta inlX0 hown hK hP 0 rfl rfl 8 (by decide) (hta _ wk_342) (fun _ h9 => h9) rfl dX0_append_35 ?_
  refine lv_iconst (v := 1) hx hb dX0_append_38 (by decide) ?_
  refine lv_iadd hx hb dX0_append_39 ?_
  refine lv_topi (fun z_8 ez_8 => ?_)
  obtain rfl : z_8 = (2 : Int32) := ez_8.trans (by decide)
  refine va_put (D := D) (ci := 0) (v := .int 2) (ty := tyX0 8) (C := RX0) (T := TX0) (N := 9) hx hb hta inlX0 tyX0 tyX0_ok nmX0 hown hK hP hD hS 0 rfl rfl 8 (by decide) (hta _ wk_342) (fun _ h9 => h9) rfl (tyX0_ok 8 (by decide)) rfl rfl (Nat.le_of_ble_eq_true rfl) dX0_append_40 (fun H locs hP hD hS => ?_)
  have hP : va_P D vwCl [(b, .inr (0, [.int 0, .ref to, .ref ro, .ref sl, .ref li, .ref ca, .ref ho, .ref ta, .int 2])), (ta, .inl (cy 0, 400, .inl f_7))] H := hP
  have hD : va_D A [(b, .inr (0, [.int 0, .ref to, .ref ro, .ref sl, .ref li, .ref ca, .ref ho, .ref ta, .int 2])), (ta, .inl (cy 0, 400, .inl f_7))] := hD
  refine lv_iinc (v := 8) (lv' := [(2, .int 8), (0, .ref b), (1, .int p0)]) hx hb dX0_append_43 hl (k := 0) rfl (by decide) (by decide) rfl (fun ls hl => ?_)
  refine lv_goto (tgt := 3) hx hb dX0_append_46 (by decide) ?_
  refine lv_iload_n hx hb dX0_append_3 rfl (lv_at hl 0 rfl) ?_
  refine lv_if_lt (tgt := 49) hx hb dX0_append_4 (by decide) (fun c => absurd c (by decide)) (fun _ => ?_)
  refine lv_aload_n hx hb dX0_append_7 rfl (lv_at hl 1 rfl) ?_
  refine va_get (D := D) (ci := 0) (v := .int 2) (C := RX0) (T := TX0) (N := 9) hx hb hta inlX0 hown hK hP 0 rfl rfl 8 (by decide) (hta _ wk_342) (fun _ h9 => h9) rfl dX0_append_8 ?_
  refine lv_sipush (v := 400) hx hb dX0_append_11 (by decide) ?_
  refine lv_icmp_ge (tgt := 49) hx hb dX0_append_14 (by decide) (fun c => absurd c (by decide)) (fun _ => ?_)
  refine lv_aload_n hx hb dX0_append_17 rfl (lv_at hl 1 rfl) ?_
  refine va_get (D := D) (ci := 0) (v := .ref ta) (C := RX0) (T := TX0) (N := 9) hx hb hta inlX0 hown hK hP 0 rfl rfl 7 (by decide) (hta _ wk_69) (fun _ h9 => h9) rfl dX0_append_18 ?_
  refine lv_aload_n hx hb dX0_append_21 rfl (lv_at hl 1 rfl) ?_
  refine va_get (D := D) (ci := 0) (v := .int 2) (C := RX0) (T := TX0) (N := 9) hx hb hta inlX0 hown hK hP 0 rfl rfl 8 (by decide) (hta _ wk_342) (fun _ h9 => h9) rfl dX0_append_22 ?_
  refine lv_iload_n hx hb dX0_append_25 rfl (lv_at hl 2 rfl) ?_
  refine lv_iload_n hx hb dX0_append_26 rfl (lv_at hl 0 rfl) ?_
  refine lv_ishr hx hb dX0_append_27 ?_
  refine lv_topi (fun z_9 ez_9 => ?_)
  refine lv_sipush (v := 255) hx hb dX0_append_28 (by decide) ?_
  refine lv_iand hx hb dX0_append_31 ?_
  refine lv_topi (fun z_10 ez_10 => ?_)
  refine va_iast (D := D) hx hb hK hP hD hS 1 0 rfl rfl (tl_in (by decide) (by decide)) dX0_append_32 (fun H locs hP hD hS => ?_)
  have hP : va_P D vwCl [(b, .inr (0, [.int 0, .ref to, .ref ro, .ref sl, .ref li, .ref ca, .ref ho, .ref ta, .int 2])), (ta, .inl (cy 0, 400, .inl (upd f_7 (2 : Int32).toNatClampNeg z_10)))] H := hP
  have hD : va_D A [(b, .inr (0, [.int 0, .ref to, .ref ro, .ref sl, .ref li, .ref ca, .ref ho, .ref ta, .int 2])), (ta, .inl (cy 0, 400, .inl (upd f_7 (2 : Int32).toNatClampNeg z_10)))] := hD
  generalize (upd f_7 (2 : Int32).toNatClampNeg z_10) = f_11 at hP hD
  refine lv_aload_n hx hb dX0_append_33 rfl (lv_at hl 1 rfl) ?_
  refine lv_dup hx hb dX0_append_34 rfl ?_
  refine va_get (D := D) (ci := 0) (v := .int 2) (C := RX0) (T := TX0) (N := 9) hx hb hta inlX0 hown hK hP 0 rfl rfl 8 (by decide) (hta _ wk_342) (fun _ h9 => h9) rfl dX0_append_35 ?_
  refine lv_iconst (v := 1) hx hb dX0_append_38 (by decide) ?_
  refine lv_iadd hx hb dX0_append_39 ?_
  refine lv_topi (fun z_12 ez_12 => ?_)
  obtain rfl : z_12 = (3 : Int32) := ez_12.trans (by decide)
  refine va_put (D := D) (ci := 0) (v := .int 3) (ty := tyX0 8) (C := RX0) (T := TX0) (N := 9) hx hb hta inlX0 tyX0 tyX0_ok nmX0 hown hK hP hD hS 0 rfl rfl 8 (by decide) (hta _ wk_342) (fun _ h9 => h9) rfl (tyX0_ok 8 (by decide)) rfl rfl (Nat.le_of_ble_eq_true rfl) dX0_append_40 (fun H locs hP hD hS => ?_)
  have hP : va_P D vwCl [(b, .inr (0, [.int 0, .ref to, .ref ro, .ref sl, .ref li, .ref ca, .ref ho, .ref ta, .int 3])), (ta, .inl (cy 0, 400, .inl f_11))] H := hP
  have hD : va_D A [(b, .inr (0, [.int 0, .ref to, .ref ro, .ref sl, .ref li, .ref ca, .ref ho, .ref ta, .int 3])), (ta, .inl (cy 0, 400, .inl f_11))] := hD
  refine lv_iinc (v := 0) (lv' := [(2, .int 0), (0, .ref b), (1, .int p0)]) hx hb dX0_append_43 hl (k := 0) rfl (by decide) (by decide) rfl (fun ls hl => ?_)
  refine lv_goto (tgt := 3) hx hb dX0_append_46 (by decide) ?_
  refine lv_iload_n hx hb dX0_append_3 rfl (lv_at hl 0 rfl) ?_
  refine lv_if_lt (tgt := 49) hx hb dX0_append_4 (by decide) (fun c => absurd c (by decide)) (fun _ => ?_)
  refine lv_aload_n hx hb dX0_append_7 rfl (lv_at hl 1 rfl) ?_
  refine va_get (D := D) (ci := 0) (v := .int 3) (C := RX0) (T := TX0) (N := 9) hx hb hta inlX0 hown hK hP 0 rfl rfl 8 (by decide) (hta _ wk_342) (fun _ h9 => h9) rfl dX0_append_8 ?_
  refine lv_sipush (v := 400) hx hb dX0_append_11 (by decide) ?_
  refine lv_icmp_ge (tgt := 49) hx hb dX0_append_14 (by decide) (fun c => absurd c (by decide)) (fun _ => ?_)
  refine lv_aload_n hx hb dX0_append_17 rfl (lv_at hl 1 rfl) ?_
  refine va_get (D := D) (ci := 0) (v := .ref ta) (C := RX0) (T := TX0) (N := 9) hx hb hta inlX0 hown hK hP 0 rfl rfl 7 (by decide) (hta _ wk_69) (fun _ h9 => h9) rfl dX0_append_18 ?_
  refine lv_aload_n hx hb dX0_append_21 rfl (lv_at hl 1 rfl) ?_
  refine va_get (D := D) (ci := 0) (v := .int 3) (C := RX0) (T := TX0) (N := 9) hx hb hta inlX0 hown hK hP 0 rfl rfl 8 (by decide) (hta _ wk_342) (fun _ h9 => h9) rfl dX0_append_22 ?_
  refine lv_iload_n hx hb dX0_append_25 rfl (lv_at hl 2 rfl) ?_
  refine lv_iload_n hx hb dX0_append_26 rfl (lv_at hl 0 rfl) ?_
  refine lv_ishr hx hb dX0_append_27 ?_
  refine lv_topi (fun z_13 ez_13 => ?_)
  refine lv_sipush (v := 255) hx hb dX0_append_28 (by decide) ?_
  refine lv_iand hx hb dX0_append_31 ?_
  refine lv_topi (fun z_14 ez_14 => ?_)
  refine va_iast (D := D) hx hb hK hP hD hS 1 0 rfl rfl (tl_in (by decide) (by decide)) dX0_append_32 (fun H locs hP hD hS => ?_)
  have hP : va_P D vwCl [(b, .inr (0, [.int 0, .ref to, .ref ro, .ref sl, .ref li, .ref ca, .ref ho, .ref ta, .int 3])), (ta, .inl (cy 0, 400, .inl (upd f_11 (3 : Int32).toNatClampNeg z_14)))] H := hP
  have hD : va_D A [(b, .inr (0, [.int 0, .ref to, .ref ro, .ref sl, .ref li, .ref ca, .ref ho, .ref ta, .int 3])), (ta, .inl (cy 0, 400, .inl (upd f_11 (3 : Int32).toNatClampNeg z_14)))] := hD
  generalize (upd f_11 (3 : Int32).toNatClampNeg z_14) = f_15 at hP hD
  refine lv_aload_n hx hb dX0_append_33 rfl (lv_at hl 1 rfl) ?_
  refine lv_dup hx hb dX0_append_34 rfl ?_
  refine va_get (D := D) (ci := 0) (v := .int 3) (C := RX0) (T := TX0) (N := 9) hx hb hta inlX0 hown hK hP 0 rfl rfl 8 (by decide) (hta _ wk_342) (fun _ h9 => h9) rfl dX0_append_35 ?_
  refine lv_iconst (v := 1) hx hb dX0_append_38 (by decide) ?_
  refine lv_iadd hx hb dX0_append_39 ?_
  refine lv_topi (fun z_16 ez_16 => ?_)
  obtain rfl : z_16 = (4 : Int32) := ez_16.trans (by decide)
  refine va_put (D := D) (ci := 0) (v := .int 4) (ty := tyX0 8) (C := RX0) (T := TX0) (N := 9) hx hb hta inlX0 tyX0 tyX0_ok nmX0 hown hK hP hD hS 0 rfl rfl 8 (by decide) (hta _ wk_342) (fun _ h9 => h9) rfl (tyX0_ok 8 (by decide)) rfl rfl (Nat.le_of_ble_eq_true rfl) dX0_append_40 (fun H locs hP hD hS => ?_)
  have hP : va_P D vwCl [(b, .inr (0, [.int 0, .ref to, .ref ro, .ref sl, .ref li, .ref ca, .ref ho, .ref ta, .int 4])), (ta, .inl (cy 0, 400, .inl f_15))] H := hP
  have hD : va_D A [(b, .inr (0, [.int 0, .ref to, .ref ro, .ref sl, .ref li, .ref ca, .ref ho, .ref ta, .int 4])), (ta, .inl (cy 0, 400, .inl f_15))] := hD
  refine lv_iinc (v := (-8)) (lv' := [(2, .int (-8)), (0, .ref b), (1, .int p0)]) hx hb dX0_append_43 hl (k := 0) rfl (by decide) (by decide) rfl (fun ls hl => ?_)
  refine lv_goto (tgt := 3) hx hb dX0_append_46 (by decide) ?_
  refine lv_iload_n hx hb dX0_append_3 rfl (lv_at hl 0 rfl) ?_
  refine lv_if_lt (tgt := 49) hx hb dX0_append_4 (by decide) (fun _ => ?_) (fun c => absurd c (by decide))
  have hP9 := hP.sub (ws' := [(b, .inr (0, [.int 0, .ref to, .ref ro, .ref sl, .ref li, .ref ca, .ref ho, .ref ta, .int 4])), (ta, .inl (cy 0, 400, .inl f_15))]) [0, 1] rfl
  have hD9 := hD.sub (ws' := [(b, .inr (0, [.int 0, .ref to, .ref ro, .ref sl, .ref li, .ref ca, .ref ho, .ref ta, .int 4])), (ta, .inl (cy 0, 400, .inl f_15))]) [0, 1] (by decide) rfl
  exact W.vret hx hb hr (fun t ht hW => ⟨⟨f_15, rfl, trivial, by rw [ht]; exact hP9, hD9⟩, hS.F ht⟩) hS.2.2 dX0_append_49
set_option maxHeartbeats 4000000 in
set_option maxRecDepth 100000 in
theorem c_X0_append_4 (l : Launch) (D : va_G) (cy : Nat → ClassId) (sz : Nat) (b : Nat) (p0 : Int32) (to : Nat) (ro : Nat) (sl : Nat) (li : Nat) (ca : Nat) (ho : Nat) (ta : Nat) (f : Nat → Int32)  : Met l yX0_append (tl_w yX0_append cX0_append 3 none) ({ frames := 0, cells := 0, slots := 0, locals := 0 }) (va_Pc [.ref b, .int p0] (tl_P D cy [(b, .inr (0, [.int 0, .ref to, .ref ro, .ref sl, .ref li, .ref ca, .ref ho, .ref ta, .int 4])), (ta, .inl (cy 0, 400, .inl f))] sz)) (va_Qv (fun (u : Nat → Int32) => True) (tl_B D (va_A [(b, .inr (0, [.int 0, .ref to, .ref ro, .ref sl, .ref li, .ref ca, .ref ho, .ref ta, .int 4])), (ta, .inl (cy 0, 400, .inl f))] sz) (fun u : Nat → Int32 => [(b, .inr (0, [.int 0, .ref to, .ref ro, .ref sl, .ref li, .ref ca, .ref ho, .ref ta, .int 8])), (ta, .inl (cy 0, 400, .inl u))])) (va_A [(b, .inr (0, [.int 0, .ref to, .ref ro, .ref sl, .ref li, .ref ca, .ref ho, .ref ta, .int 4])), (ta, .inl (cy 0, 400, .inl f))] sz)) 0 0 (va_A [(b, .inr (0, [.int 0, .ref to, .ref ro, .ref sl, .ref li, .ref ca, .ref ho, .ref ta, .int 4])), (ta, .inl (cy 0, 400, .inl f))] sz) := by
  refine Met.ofW (cc := cX0_append) (maxL := 3) (ret := none) (by decide) rfl ?_
  intro p e s m args below meth c s₁ B hml hv
  obtain ⟨rfl, hsz, hP, hK, hD0, hN⟩ := hv
  have hx := B.exec
  have hb := B.bytes
  have hr := B.returns
  have hta := tl_hta (atoms_spec (ws := tl_w yX0_append cX0_append 3 none) B.pre)
  have hown : s.vm.findClass RX0 = some m.cls := findClass_of_methodNamed B.named
  have hlocks := B.notSynchronized
  subst hsz
  have hD := hD0.self (sz := s.heap.size)
  generalize hAe : va_A [(b, .inr (0, [.int 0, .ref to, .ref ro, .ref sl, .ref li, .ref ca, .ref ho, .ref ta, .int 4])), (ta, .inl (cy 0, 400, .inl f))] s.heap.size = A at hD ⊢
  have hA : ∀ q : Nat, s.heap.size ≤ q → A q := fun q h => by rw [← hAe]; exact Or.inr h
  have hS : va_S A s.heap s.heap [] := va_S.rf
  have hP : va_P D vwCl [(b, .inr (0, [.int 0, .ref to, .ref ro, .ref sl, .ref li, .ref ca, .ref ho, .ref ta, .int 4])), (ta, .inl (cy 0, 400, .inl f))] s.heap := hP
  have hl := lv_entry ([.ref b, .int p0]) (n := 3) (Nat.le_of_ble_eq_true rfl)
  rw [lg_entry_eq]
  generalize (lg_sl ([.ref b, .int p0]) ++ List.replicate (3 - (lg_sl ([.ref b, .int p0])).length) Slot.unset).toArray = ls at hl ⊢
  have hl : lv_has ls 3 [(0, .ref b), (1, .int p0)] := hl
  refine lv_bipush (v := 24) hx hb dX0_append_0 (by decide) ?_
  refine lv_istore_n (lv' := [(2, .int 24), (0, .ref b), (1, .int p0)]) hx hb dX0_append_2 rfl hl (by decide) rfl (fun ls hl => ?_)
  refine lv_iload_n hx hb dX0_append_3 rfl (lv_at hl 0 rfl) ?_
  refine lv_if_lt (tgt := 49) hx hb dX0_append_4 (by decide) (fun c => absurd c (by decide)) (fun _ => ?_)
  refine lv_aload_n hx hb dX0_append_7 rfl (lv_at hl 1 rfl) ?_
  refine va_get (D := D) (ci := 0) (v := .int 4) (C := RX0) (T := TX0) (N := 9) hx hb hta inlX0 hown hK hP 0 rfl rfl 8 (by decide) (hta _ wk_342) (fun _ h9 => h9) rfl dX0_append_8 ?_
  refine lv_sipush (v := 400) hx hb dX0_append_11 (by decide) ?_
  refine lv_icmp_ge (tgt := 49) hx hb dX0_append_14 (by decide) (fun c => absurd c (by decide)) (fun _ => ?_)
  refine lv_aload_n hx hb dX0_append_17 rfl (lv_at hl 1 rfl) ?_
  refine va_get (D := D) (ci := 0) (v := .ref ta) (C := RX0) (T := TX0) (N := 9) hx hb hta inlX0 hown hK hP 0 rfl rfl 7 (by decide) (hta _ wk_69) (fun _ h9 => h9) rfl dX0_append_18 ?_
  refine lv_aload_n hx hb dX0_append_21 rfl (lv_at hl 1 rfl) ?_
  refine va_get (D := D) (ci := 0) (v := .int 4) (C := RX0) (T := TX0) (N := 9) hx hb hta inlX0 hown hK hP 0 rfl rfl 8 (by decide) (hta _ wk_342) (fun _ h9 => h9) rfl dX0_append_22 ?_
  refine lv_iload_n hx hb dX0_append_25 rfl (lv_at hl 2 rfl) ?_
  refine lv_iload_n hx hb dX0_append_26 rfl (lv_at hl 0 rfl) ?_
  refine lv_ishr hx hb dX0_append_27 ?_
  refine lv_topi (fun z_1 ez_1 => ?_)
  refine lv_sipush (v := 255) hx hb dX0_append_28 (by decide) ?_
  refine lv_iand hx hb dX0_append_31 ?_
  refine lv_topi (fun z_2 ez_2 => ?_)
  refine va_iast (D := D) hx hb hK hP hD hS 1 0 rfl rfl (tl_in (by decide) (by decide)) dX0_append_32 (fun H locs hP hD hS => ?_)
  have hP : va_P D vwCl [(b, .inr (0, [.int 0, .ref to, .ref ro, .ref sl, .ref li, .ref ca, .ref ho, .ref ta, .int 4])), (ta, .inl (cy 0, 400, .inl (upd f (4 : Int32).toNatClampNeg z_2)))] H := hP
  have hD : va_D A [(b, .inr (0, [.int 0, .ref to, .ref ro, .ref sl, .ref li, .ref ca, .ref ho, .ref ta, .int 4])), (ta, .inl (cy 0, 400, .inl (upd f (4 : Int32).toNatClampNeg z_2)))] := hD
  generalize (upd f (4 : Int32).toNatClampNeg z_2) = f_3 at hP hD
  refine lv_aload_n hx hb dX0_append_33 rfl (lv_at hl 1 rfl) ?_
  refine lv_dup hx hb dX0_append_34 rfl ?_
  refine va_get (D := D) (ci := 0) (v := .int 4) (C := RX0) (T := TX0) (N := 9) hx hb hta inlX0 hown hK hP 0 rfl rfl 8 (by decide) (hta _ wk_342) (fun _ h9 => h9) rfl dX0_append_35 ?_
  refine lv_iconst (v := 1) hx hb dX0_append_38 (by decide) ?_
  refine lv_iadd hx hb dX0_append_39 ?_
  refine lv_topi (fun z_4 ez_4 => ?_)
  obtain rfl : z_4 = (5 : Int32) := ez_4.trans (by decide)
  refine va_put (D := D) (ci := 0) (v := .int 5) (ty := tyX0 8) (C := RX0) (T := TX0) (N := 9) hx hb hta inlX0 tyX0 tyX0_ok nmX0 hown hK hP hD hS 0 rfl rfl 8 (by decide) (hta _ wk_342) (fun _ h9 => h9) rfl (tyX0_ok 8 (by decide)) rfl rfl (Nat.le_of_ble_eq_true rfl) dX0_append_40 (fun H locs hP hD hS => ?_)
  have hP : va_P D vwCl [(b, .inr (0, [.int 0, .ref to, .ref ro, .ref sl, .ref li, .ref ca, .ref ho, .ref ta, .int 5])), (ta, .inl (cy 0, 400, .inl f_3))] H := hP
  have hD : va_D A [(b, .inr (0, [.int 0, .ref to, .ref ro, .ref sl, .ref li, .ref ca, .ref ho, .ref ta, .int 5])), (ta, .inl (cy 0, 400, .inl f_3))] := hD
  refine lv_iinc (v := 16) (lv' := [(2, .int 16), (0, .ref b), (1, .int p0)]) hx hb dX0_append_43 hl (k := 0) rfl (by decide) (by decide) rfl (fun ls hl => ?_)
  refine lv_goto (tgt := 3) hx hb dX0_append_46 (by decide) ?_
  refine lv_iload_n hx hb dX0_append_3 rfl (lv_at hl 0 rfl) ?_
  refine lv_if_lt (tgt := 49) hx hb dX0_append_4 (by decide) (fun c => absurd c (by decide)) (fun _ => ?_)
  refine lv_aload_n hx hb dX0_append_7 rfl (lv_at hl 1 rfl) ?_
  refine va_get (D := D) (ci := 0) (v := .int 5) (C := RX0) (T := TX0) (N := 9) hx hb hta inlX0 hown hK hP 0 rfl rfl 8 (by decide) (hta _ wk_342) (fun _ h9 => h9) rfl dX0_append_8 ?_
  refine lv_sipush (v := 400) hx hb dX0_append_11 (by decide) ?_
  refine lv_icmp_ge (tgt := 49) hx hb dX0_append_14 (by decide) (fun c => absurd c (by decide)) (fun _ => ?_)
  refine lv_aload_n hx hb dX0_append_17 rfl (lv_at hl 1 rfl) ?_
  refine va_get (D := D) (ci := 0) (v := .ref ta) (C := RX0) (T := TX0) (N := 9) hx hb hta inlX0 hown hK hP 0 rfl rfl 7 (by decide) (hta _ wk_69) (fun _ h9 => h9) rfl dX0_append_18 ?_
  refine lv_aload_n hx hb dX0_append_21 rfl (lv_at hl 1 rfl) ?_
  refine va_get (D := D) (ci := 0) (v := .int 5) (C := RX0) (T := TX0) (N := 9) hx hb hta inlX0 hown hK hP 0 rfl rfl 8 (by decide) (hta _ wk_342) (fun _ h9 => h9) rfl dX0_append_22 ?_
  refine lv_iload_n hx hb dX0_append_25 rfl (lv_at hl 2 rfl) ?_
  refine lv_iload_n hx hb dX0_append_26 rfl (lv_at hl 0 rfl) ?_
  refine lv_ishr hx hb dX0_append_27 ?_
  refine lv_topi (fun z_5 ez_5 => ?_)
  refine lv_sipush (v := 255) hx hb dX0_append_28 (by decide) ?_
  refine lv_iand hx hb dX0_append_31 ?_
  refine lv_topi (fun z_6 ez_6 => ?_)
  refine va_iast (D := D) hx hb hK hP hD hS 1 0 rfl rfl (tl_in (by decide) (by decide)) dX0_append_32 (fun H locs hP hD hS => ?_)
  have hP : va_P D vwCl [(b, .inr (0, [.int 0, .ref to, .ref ro, .ref sl, .ref li, .ref ca, .ref ho, .ref ta, .int 5])), (ta, .inl (cy 0, 400, .inl (upd f_3 (5 : Int32).toNatClampNeg z_6)))] H := hP
  have hD : va_D A [(b, .inr (0, [.int 0, .ref to, .ref ro, .ref sl, .ref li, .ref ca, .ref ho, .ref ta, .int 5])), (ta, .inl (cy 0, 400, .inl (upd f_3 (5 : Int32).toNatClampNeg z_6)))] := hD
  generalize (upd f_3 (5 : Int32).toNatClampNeg z_6) = f_7 at hP hD
  refine lv_aload_n hx hb dX0_append_33 rfl (lv_at hl 1 rfl) ?_
  refine lv_dup hx hb dX0_append_34 rfl ?_
  refine va_get (D := D) (ci := 0) (v := .int 5) (C := RX0) (T := TX0) (N := 9) hx hb hta inlX0 hown hK hP 0 rfl rfl 8 (by decide) (hta _ wk_342) (fun _ h9 => h9) rfl dX0_append_35 ?_
  refine lv_iconst (v := 1) hx hb dX0_append_38 (by decide) ?_
  refine lv_iadd hx hb dX0_append_39 ?_
  refine lv_topi (fun z_8 ez_8 => ?_)
  obtain rfl : z_8 = (6 : Int32) := ez_8.trans (by decide)
  refine va_put (D := D) (ci := 0) (v := .int 6) (ty := tyX0 8) (C := RX0) (T := TX0) (N := 9) hx hb hta inlX0 tyX0 tyX0_ok nmX0 hown hK hP hD hS 0 rfl rfl 8 (by decide) (hta _ wk_342) (fun _ h9 => h9) rfl (tyX0_ok 8 (by decide)) rfl rfl (Nat.le_of_ble_eq_true rfl) dX0_append_40 (fun H locs hP hD hS => ?_)
  have hP : va_P D vwCl [(b, .inr (0, [.int 0, .ref to, .ref ro, .ref sl, .ref li, .ref ca, .ref ho, .ref ta, .int 6])), (ta, .inl (cy 0, 400, .inl f_7))] H := hP
  have hD : va_D A [(b, .inr (0, [.int 0, .ref to, .ref ro, .ref sl, .ref li, .ref ca, .ref ho, .ref ta, .int 6])), (ta, .inl (cy 0, 400, .inl f_7))] := hD
  refine lv_iinc (v := 8) (lv' := [(2, .int 8), (0, .ref b), (1, .int p0)]) hx hb dX0_append_43 hl (k := 0) rfl (by decide) (by decide) rfl (fun ls hl => ?_)
  refine lv_goto (tgt := 3) hx hb dX0_append_46 (by decide) ?_
  refine lv_iload_n hx hb dX0_append_3 rfl (lv_at hl 0 rfl) ?_
  refine lv_if_lt (tgt := 49) hx hb dX0_append_4 (by decide) (fun c => absurd c (by decide)) (fun _ => ?_)
  refine lv_aload_n hx hb dX0_append_7 rfl (lv_at hl 1 rfl) ?_
  refine va_get (D := D) (ci := 0) (v := .int 6) (C := RX0) (T := TX0) (N := 9) hx hb hta inlX0 hown hK hP 0 rfl rfl 8 (by decide) (hta _ wk_342) (fun _ h9 => h9) rfl dX0_append_8 ?_
  refine lv_sipush (v := 400) hx hb dX0_append_11 (by decide) ?_
  refine lv_icmp_ge (tgt := 49) hx hb dX0_append_14 (by decide) (fun c => absurd c (by decide)) (fun _ => ?_)
  refine lv_aload_n hx hb dX0_append_17 rfl (lv_at hl 1 rfl) ?_
  refine va_get (D := D) (ci := 0) (v := .ref ta) (C := RX0) (T := TX0) (N := 9) hx hb hta inlX0 hown hK hP 0 rfl rfl 7 (by decide) (hta _ wk_69) (fun _ h9 => h9) rfl dX0_append_18 ?_
  refine lv_aload_n hx hb dX0_append_21 rfl (lv_at hl 1 rfl) ?_
  refine va_get (D := D) (ci := 0) (v := .int 6) (C := RX0) (T := TX0) (N := 9) hx hb hta inlX0 hown hK hP 0 rfl rfl 8 (by decide) (hta _ wk_342) (fun _ h9 => h9) rfl dX0_append_22 ?_
  refine lv_iload_n hx hb dX0_append_25 rfl (lv_at hl 2 rfl) ?_
  refine lv_iload_n hx hb dX0_append_26 rfl (lv_at hl 0 rfl) ?_
  refine lv_ishr hx hb dX0_append_27 ?_
  refine lv_topi (fun z_9 ez_9 => ?_)
  refine lv_sipush (v := 255) hx hb dX0_append_28 (by decide) ?_
  refine lv_iand hx hb dX0_append_31 ?_
  refine lv_topi (fun z_10 ez_10 => ?_)
  refine va_iast (D := D) hx hb hK hP hD hS 1 0 rfl rfl (tl_in (by decide) (by decide)) dX0_append_32 (fun H locs hP hD hS => ?_)
  have hP : va_P D vwCl [(b, .inr (0, [.int 0, .ref to, .ref ro, .ref sl, .ref li, .ref ca, .ref ho, .ref ta, .int 6])), (ta, .inl (cy 0, 400, .inl (upd f_7 (6 : Int32).toNatClampNeg z_10)))] H := hP
  have hD : va_D A [(b, .inr (0, [.int 0, .ref to, .ref ro, .ref sl, .ref li, .ref ca, .ref ho, .ref ta, .int 6])), (ta, .inl (cy 0, 400, .inl (upd f_7 (6 : Int32).toNatClampNeg z_10)))] := hD
  generalize (upd f_7 (6 : Int32).toNatClampNeg z_10) = f_11 at hP hD
  refine lv_aload_n hx hb dX0_append_33 rfl (lv_at hl 1 rfl) ?_
  refine lv_dup hx hb dX0_append_34 rfl ?_
  refine va_get (D := D) (ci := 0) (v := .int 6) (C := RX0) (T := TX0) (N := 9) hx hb hta inlX0 hown hK hP 0 rfl rfl 8 (by decide) (hta _ wk_342) (fun _ h9 => h9) rfl dX0_append_35 ?_
  refine lv_iconst (v := 1) hx hb dX0_append_38 (by decide) ?_
  refine lv_iadd hx hb dX0_append_39 ?_
  refine lv_topi (fun z_12 ez_12 => ?_)
  obtain rfl : z_12 = (7 : Int32) := ez_12.trans (by decide)
  refine va_put (D := D) (ci := 0) (v := .int 7) (ty := tyX0 8) (C := RX0) (T := TX0) (N := 9) hx hb hta inlX0 tyX0 tyX0_ok nmX0 hown hK hP hD hS 0 rfl rfl 8 (by decide) (hta _ wk_342) (fun _ h9 => h9) rfl (tyX0_ok 8 (by decide)) rfl rfl (Nat.le_of_ble_eq_true rfl) dX0_append_40 (fun H locs hP hD hS => ?_)
  have hP : va_P D vwCl [(b, .inr (0, [.int 0, .ref to, .ref ro, .ref sl, .ref li, .ref ca, .ref ho, .ref ta, .int 7])), (ta, .inl (cy 0, 400, .inl f_11))] H := hP
  have hD : va_D A [(b, .inr (0, [.int 0, .ref to, .ref ro, .ref sl, .ref li, .ref ca, .ref ho, .ref ta, .int 7])), (ta, .inl (cy 0, 400, .inl f_11))] := hD
  refine lv_iinc (v := 0) (lv' := [(2, .int 0), (0, .ref b), (1, .int p0)]) hx hb dX0_append_43 hl (k := 0) rfl (by decide) (by decide) rfl (fun ls hl => ?_)
  refine lv_goto (tgt := 3) hx hb dX0_append_46 (by decide) ?_
  refine lv_iload_n hx hb dX0_append_3 rfl (lv_at hl 0 rfl) ?_
  refine lv_if_lt (tgt := 49) hx hb dX0_append_4 (by decide) (fun c => absurd c (by decide)) (fun _ => ?_)
  refine lv_aload_n hx hb dX0_append_7 rfl (lv_at hl 1 rfl) ?_
  refine va_get (D := D) (ci := 0) (v := .int 7) (C := RX0) (T := TX0) (N := 9) hx hb hta inlX0 hown hK hP 0 rfl rfl 8 (by decide) (hta _ wk_342) (fun _ h9 => h9) rfl dX0_append_8 ?_
  refine lv_sipush (v := 400) hx hb dX0_append_11 (by decide) ?_
  refine lv_icmp_ge (tgt := 49) hx hb dX0_append_14 (by decide) (fun c => absurd c (by decide)) (fun _ => ?_)
  refine lv_aload_n hx hb dX0_append_17 rfl (lv_at hl 1 rfl) ?_
  refine va_get (D := D) (ci := 0) (v := .ref ta) (C := RX0) (T := TX0) (N := 9) hx hb hta inlX0 hown hK hP 0 rfl rfl 7 (by decide) (hta _ wk_69) (fun _ h9 => h9) rfl dX0_append_18 ?_
  refine lv_aload_n hx hb dX0_append_21 rfl (lv_at hl 1 rfl) ?_
  refine va_get (D := D) (ci := 0) (v := .int 7) (C := RX0) (T := TX0) (N := 9) hx hb hta inlX0 hown hK hP 0 rfl rfl 8 (by decide) (hta _ wk_342) (fun _ h9 => h9) rfl dX0_append_22 ?_
  refine lv_iload_n hx hb dX0_append_25 rfl (lv_at hl 2 rfl) ?_
  refine lv_iload_n hx hb dX0_append_26 rfl (lv_at hl 0 rfl) ?_
  refine lv_ishr hx hb dX0_append_27 ?_
  refine lv_topi (fun z_13 ez_13 => ?_)
  refine lv_sipush (v := 255) hx hb dX0_append_28 (by decide) ?_
  refine lv_iand hx hb dX0_append_31 ?_
  refine lv_topi (fun z_14 ez_14 => ?_)
  refine va_iast (D := D) hx hb hK hP hD hS 1 0 rfl rfl (tl_in (by decide) (by decide)) dX0_append_32 (fun H locs hP hD hS => ?_)
  have hP : va_P D vwCl [(b, .inr (0, [.int 0, .ref to, .ref ro, .ref sl, .ref li, .ref ca, .ref ho, .ref ta, .int 7])), (ta, .inl (cy 0, 400, .inl (upd f_11 (7 : Int32).toNatClampNeg z_14)))] H := hP
  have hD : va_D A [(b, .inr (0, [.int 0, .ref to, .ref ro, .ref sl, .ref li, .ref ca, .ref ho, .ref ta, .int 7])), (ta, .inl (cy 0, 400, .inl (upd f_11 (7 : Int32).toNatClampNeg z_14)))] := hD
  generalize (upd f_11 (7 : Int32).toNatClampNeg z_14) = f_15 at hP hD
  refine lv_aload_n hx hb dX0_append_33 rfl (lv_at hl 1 rfl) ?_
  refine lv_dup hx hb dX0_append_34 rfl ?_
  refine va_get (D := D) (ci := 0) (v := .int 7) (C := RX0) (T := TX0) (N := 9) hx hb hta inlX0 hown hK hP 0 rfl rfl 8 (by decide) (hta _ wk_342) (fun _ h9 => h9) rfl dX0_append_35 ?_
  refine lv_iconst (v := 1) hx hb dX0_append_38 (by decide) ?_
  refine lv_iadd hx hb dX0_append_39 ?_
  refine lv_topi (fun z_16 ez_16 => ?_)
  obtain rfl : z_16 = (8 : Int32) := ez_16.trans (by decide)
  refine va_put (D := D) (ci := 0) (v := .int 8) (ty := tyX0 8) (C := RX0) (T := TX0) (N := 9) hx hb hta inlX0 tyX0 tyX0_ok nmX0 hown hK hP hD hS 0 rfl rfl 8 (by decide) (hta _ wk_342) (fun _ h9 => h9) rfl (tyX0_ok 8 (by decide)) rfl rfl (Nat.le_of_ble_eq_true rfl) dX0_append_40 (fun H locs hP hD hS => ?_)
  have hP : va_P D vwCl [(b, .inr (0, [.int 0, .ref to, .ref ro, .ref sl, .ref li, .ref ca, .ref ho, .ref ta, .int 8])), (ta, .inl (cy 0, 400, .inl f_15))] H := hP
  have hD : va_D A [(b, .inr (0, [.int 0, .ref to, .ref ro, .ref sl, .ref li, .ref ca, .ref ho, .ref ta, .int 8])), (ta, .inl (cy 0, 400, .inl f_15))] := hD
  refine lv_iinc (v := (-8)) (lv' := [(2, .int (-8)), (0, .ref b), (1, .int p0)]) hx hb dX0_append_43 hl (k := 0) rfl (by decide) (by decide) rfl (fun ls hl => ?_)
  refine lv_goto (tgt := 3) hx hb dX0_append_46 (by decide) ?_
  refine lv_iload_n hx hb dX0_append_3 rfl (lv_at hl 0 rfl) ?_
  refine lv_if_lt (tgt := 49) hx hb dX0_append_4 (by decide) (fun _ => ?_) (fun c => absurd c (by decide))
  have hP9 := hP.sub (ws' := [(b, .inr (0, [.int 0, .ref to, .ref ro, .ref sl, .ref li, .ref ca, .ref ho, .ref ta, .int 8])), (ta, .inl (cy 0, 400, .inl f_15))]) [0, 1] rfl
  have hD9 := hD.sub (ws' := [(b, .inr (0, [.int 0, .ref to, .ref ro, .ref sl, .ref li, .ref ca, .ref ho, .ref ta, .int 8])), (ta, .inl (cy 0, 400, .inl f_15))]) [0, 1] (by decide) rfl
  exact W.vret hx hb hr (fun t ht hW => ⟨⟨f_15, rfl, trivial, by rw [ht]; exact hP9, hD9⟩, hS.F ht⟩) hS.2.2 dX0_append_49
set_option maxHeartbeats 4000000 in
set_option maxRecDepth 100000 in
theorem c_X0_append_8 (l : Launch) (D : va_G) (cy : Nat → ClassId) (sz : Nat) (b : Nat) (p0 : Int32) (to : Nat) (ro : Nat) (sl : Nat) (li : Nat) (ca : Nat) (ho : Nat) (ta : Nat) (f : Nat → Int32)  : Met l yX0_append (tl_w yX0_append cX0_append 3 none) ({ frames := 0, cells := 0, slots := 0, locals := 0 }) (va_Pc [.ref b, .int p0] (tl_P D cy [(b, .inr (0, [.int 0, .ref to, .ref ro, .ref sl, .ref li, .ref ca, .ref ho, .ref ta, .int 8])), (ta, .inl (cy 0, 400, .inl f))] sz)) (va_Qv (fun (u : Nat → Int32) => True) (tl_B D (va_A [(b, .inr (0, [.int 0, .ref to, .ref ro, .ref sl, .ref li, .ref ca, .ref ho, .ref ta, .int 8])), (ta, .inl (cy 0, 400, .inl f))] sz) (fun u : Nat → Int32 => [(b, .inr (0, [.int 0, .ref to, .ref ro, .ref sl, .ref li, .ref ca, .ref ho, .ref ta, .int 12])), (ta, .inl (cy 0, 400, .inl u))])) (va_A [(b, .inr (0, [.int 0, .ref to, .ref ro, .ref sl, .ref li, .ref ca, .ref ho, .ref ta, .int 8])), (ta, .inl (cy 0, 400, .inl f))] sz)) 0 0 (va_A [(b, .inr (0, [.int 0, .ref to, .ref ro, .ref sl, .ref li, .ref ca, .ref ho, .ref ta, .int 8])), (ta, .inl (cy 0, 400, .inl f))] sz) := by
  refine Met.ofW (cc := cX0_append) (maxL := 3) (ret := none) (by decide) rfl ?_
  intro p e s m args below meth c s₁ B hml hv
  obtain ⟨rfl, hsz, hP, hK, hD0, hN⟩ := hv
  have hx := B.exec
  have hb := B.bytes
  have hr := B.returns
  have hta := tl_hta (atoms_spec (ws := tl_w yX0_append cX0_append 3 none) B.pre)
  have hown : s.vm.findClass RX0 = some m.cls := findClass_of_methodNamed B.named
  have hlocks := B.notSynchronized
  subst hsz
  have hD := hD0.self (sz := s.heap.size)
  generalize hAe : va_A [(b, .inr (0, [.int 0, .ref to, .ref ro, .ref sl, .ref li, .ref ca, .ref ho, .ref ta, .int 8])), (ta, .inl (cy 0, 400, .inl f))] s.heap.size = A at hD ⊢
  have hA : ∀ q : Nat, s.heap.size ≤ q → A q := fun q h => by rw [← hAe]; exact Or.inr h
  have hS : va_S A s.heap s.heap [] := va_S.rf
  have hP : va_P D vwCl [(b, .inr (0, [.int 0, .ref to, .ref ro, .ref sl, .ref li, .ref ca, .ref ho, .ref ta, .int 8])), (ta, .inl (cy 0, 400, .inl f))] s.heap := hP
  have hl := lv_entry ([.ref b, .int p0]) (n := 3) (Nat.le_of_ble_eq_true rfl)
  rw [lg_entry_eq]
  generalize (lg_sl ([.ref b, .int p0]) ++ List.replicate (3 - (lg_sl ([.ref b, .int p0])).length) Slot.unset).toArray = ls at hl ⊢
  have hl : lv_has ls 3 [(0, .ref b), (1, .int p0)] := hl
  refine lv_bipush (v := 24) hx hb dX0_append_0 (by decide) ?_
  refine lv_istore_n (lv' := [(2, .int 24), (0, .ref b), (1, .int p0)]) hx hb dX0_append_2 rfl hl (by decide) rfl (fun ls hl => ?_)
  refine lv_iload_n hx hb dX0_append_3 rfl (lv_at hl 0 rfl) ?_
  refine lv_if_lt (tgt := 49) hx hb dX0_append_4 (by decide) (fun c => absurd c (by decide)) (fun _ => ?_)
  refine lv_aload_n hx hb dX0_append_7 rfl (lv_at hl 1 rfl) ?_
  refine va_get (D := D) (ci := 0) (v := .int 8) (C := RX0) (T := TX0) (N := 9) hx hb hta inlX0 hown hK hP 0 rfl rfl 8 (by decide) (hta _ wk_342) (fun _ h9 => h9) rfl dX0_append_8 ?_
  refine lv_sipush (v := 400) hx hb dX0_append_11 (by decide) ?_
  refine lv_icmp_ge (tgt := 49) hx hb dX0_append_14 (by decide) (fun c => absurd c (by decide)) (fun _ => ?_)
  refine lv_aload_n hx hb dX0_append_17 rfl (lv_at hl 1 rfl) ?_
  refine va_get (D := D) (ci := 0) (v := .ref ta) (C := RX0) (T := TX0) (N := 9) hx hb hta inlX0 hown hK hP 0 rfl rfl 7 (by decide) (hta _ wk_69) (fun _ h9 => h9) rfl dX0_append_18 ?_
  refine lv_aload_n hx hb dX0_append_21 rfl (lv_at hl 1 rfl) ?_
  refine va_get (D := D) (ci := 0) (v := .int 8) (C := RX0) (T := TX0) (N := 9) hx hb hta inlX0 hown hK hP 0 rfl rfl 8 (by decide) (hta _ wk_342) (fun _ h9 => h9) rfl dX0_append_22 ?_
  refine lv_iload_n hx hb dX0_append_25 rfl (lv_at hl 2 rfl) ?_
  refine lv_iload_n hx hb dX0_append_26 rfl (lv_at hl 0 rfl) ?_
  refine lv_ishr hx hb dX0_append_27 ?_
  refine lv_topi (fun z_1 ez_1 => ?_)
  refine lv_sipush (v := 255) hx hb dX0_append_28 (by decide) ?_
  refine lv_iand hx hb dX0_append_31 ?_
  refine lv_topi (fun z_2 ez_2 => ?_)
  refine va_iast (D := D) hx hb hK hP hD hS 1 0 rfl rfl (tl_in (by decide) (by decide)) dX0_append_32 (fun H locs hP hD hS => ?_)
  have hP : va_P D vwCl [(b, .inr (0, [.int 0, .ref to, .ref ro, .ref sl, .ref li, .ref ca, .ref ho, .ref ta, .int 8])), (ta, .inl (cy 0, 400, .inl (upd f (8 : Int32).toNatClampNeg z_2)))] H := hP
  have hD : va_D A [(b, .inr (0, [.int 0, .ref to, .ref ro, .ref sl, .ref li, .ref ca, .ref ho, .ref ta, .int 8])), (ta, .inl (cy 0, 400, .inl (upd f (8 : Int32).toNatClampNeg z_2)))] := hD
  generalize (upd f (8 : Int32).toNatClampNeg z_2) = f_3 at hP hD
  refine lv_aload_n hx hb dX0_append_33 rfl (lv_at hl 1 rfl) ?_
  refine lv_dup hx hb dX0_append_34 rfl ?_
  refine va_get (D := D) (ci := 0) (v := .int 8) (C := RX0) (T := TX0) (N := 9) hx hb hta inlX0 hown hK hP 0 rfl rfl 8 (by decide) (hta _ wk_342) (fun _ h9 => h9) rfl dX0_append_35 ?_
  refine lv_iconst (v := 1) hx hb dX0_append_38 (by decide) ?_
  refine lv_iadd hx hb dX0_append_39 ?_
  refine lv_topi (fun z_4 ez_4 => ?_)
  obtain rfl : z_4 = (9 : Int32) := ez_4.trans (by decide)
  refine va_put (D := D) (ci := 0) (v := .int 9) (ty := tyX0 8) (C := RX0) (T := TX0) (N := 9) hx hb hta inlX0 tyX0 tyX0_ok nmX0 hown hK hP hD hS 0 rfl rfl 8 (by decide) (hta _ wk_342) (fun _ h9 => h9) rfl (tyX0_ok 8 (by decide)) rfl rfl (Nat.le_of_ble_eq_true rfl) dX0_append_40 (fun H locs hP hD hS => ?_)
  have hP : va_P D vwCl [(b, .inr (0, [.int 0, .ref to, .ref ro, .ref sl, .ref li, .ref ca, .ref ho, .ref ta, .int 9])), (ta, .inl (cy 0, 400, .inl f_3))] H := hP
  have hD : va_D A [(b, .inr (0, [.int 0, .ref to, .ref ro, .ref sl, .ref li, .ref ca, .ref ho, .ref ta, .int 9])), (ta, .inl (cy 0, 400, .inl f_3))] := hD
  refine lv_iinc (v := 16) (lv' := [(2, .int 16), (0, .ref b), (1, .int p0)]) hx hb dX0_append_43 hl (k := 0) rfl (by decide) (by decide) rfl (fun ls hl => ?_)
  refine lv_goto (tgt := 3) hx hb dX0_append_46 (by decide) ?_
  refine lv_iload_n hx hb dX0_append_3 rfl (lv_at hl 0 rfl) ?_
  refine lv_if_lt (tgt := 49) hx hb dX0_append_4 (by decide) (fun c => absurd c (by decide)) (fun _ => ?_)
  refine lv_aload_n hx hb dX0_append_7 rfl (lv_at hl 1 rfl) ?_
  refine va_get (D := D) (ci := 0) (v := .int 9) (C := RX0) (T := TX0) (N := 9) hx hb hta inlX0 hown hK hP 0 rfl rfl 8 (by decide) (hta _ wk_342) (fun _ h9 => h9) rfl dX0_append_8 ?_
  refine lv_sipush (v := 400) hx hb dX0_append_11 (by decide) ?_
  refine lv_icmp_ge (tgt := 49) hx hb dX0_append_14 (by decide) (fun c => absurd c (by decide)) (fun _ => ?_)
  refine lv_aload_n hx hb dX0_append_17 rfl (lv_at hl 1 rfl) ?_
  refine va_get (D := D) (ci := 0) (v := .ref ta) (C := RX0) (T := TX0) (N := 9) hx hb hta inlX0 hown hK hP 0 rfl rfl 7 (by decide) (hta _ wk_69) (fun _ h9 => h9) rfl dX0_append_18 ?_
  refine lv_aload_n hx hb dX0_append_21 rfl (lv_at hl 1 rfl) ?_
  refine va_get (D := D) (ci := 0) (v := .int 9) (C := RX0) (T := TX0) (N := 9) hx hb hta inlX0 hown hK hP 0 rfl rfl 8 (by decide) (hta _ wk_342) (fun _ h9 => h9) rfl dX0_append_22 ?_
  refine lv_iload_n hx hb dX0_append_25 rfl (lv_at hl 2 rfl) ?_
  refine lv_iload_n hx hb dX0_append_26 rfl (lv_at hl 0 rfl) ?_
  refine lv_ishr hx hb dX0_append_27 ?_
  refine lv_topi (fun z_5 ez_5 => ?_)
  refine lv_sipush (v := 255) hx hb dX0_append_28 (by decide) ?_
  refine lv_iand hx hb dX0_append_31 ?_
  refine lv_topi (fun z_6 ez_6 => ?_)
  refine va_iast (D := D) hx hb hK hP hD hS 1 0 rfl rfl (tl_in (by decide) (by decide)) dX0_append_32 (fun H locs hP hD hS => ?_)
  have hP : va_P D vwCl [(b, .inr (0, [.int 0, .ref to, .ref ro, .ref sl, .ref li, .ref ca, .ref ho, .ref ta, .int 9])), (ta, .inl (cy 0, 400, .inl (upd f_3 (9 : Int32).toNatClampNeg z_6)))] H := hP
  have hD : va_D A [(b, .inr (0, [.int 0, .ref to, .ref ro, .ref sl, .ref li, .ref ca, .ref ho, .ref ta, .int 9])), (ta, .inl (cy 0, 400, .inl (upd f_3 (9 : Int32).toNatClampNeg z_6)))] := hD
  generalize (upd f_3 (9 : Int32).toNatClampNeg z_6) = f_7 at hP hD
  refine lv_aload_n hx hb dX0_append_33 rfl (lv_at hl 1 rfl) ?_
  refine lv_dup hx hb dX0_append_34 rfl ?_
  refine va_get (D := D) (ci := 0) (v := .int 9) (C := RX0) (T := TX0) (N := 9) hx hb hta inlX0 hown hK hP 0 rfl rfl 8 (by decide) (hta _ wk_342) (fun _ h9 => h9) rfl dX0_append_35 ?_
  refine lv_iconst (v := 1) hx hb dX0_append_38 (by decide) ?_
  refine lv_iadd hx hb dX0_append_39 ?_
  refine lv_topi (fun z_8 ez_8 => ?_)
  obtain rfl : z_8 = (10 : Int32) := ez_8.trans (by decide)
  refine va_put (D := D) (ci := 0) (v := .int 10) (ty := tyX0 8) (C := RX0) (T := TX0) (N := 9) hx hb hta inlX0 tyX0 tyX0_ok nmX0 hown hK hP hD hS 0 rfl rfl 8 (by decide) (hta _ wk_342) (fun _ h9 => h9) rfl (tyX0_ok 8 (by decide)) rfl rfl (Nat.le_of_ble_eq_true rfl) dX0_append_40 (fun H locs hP hD hS => ?_)
  have hP : va_P D vwCl [(b, .inr (0, [.int 0, .ref to, .ref ro, .ref sl, .ref li, .ref ca, .ref ho, .ref ta, .int 10])), (ta, .inl (cy 0, 400, .inl f_7))] H := hP
  have hD : va_D A [(b, .inr (0, [.int 0, .ref to, .ref ro, .ref sl, .ref li, .ref ca, .ref ho, .ref ta, .int 10])), (ta, .inl (cy 0, 400, .inl f_7))] := hD
  refine lv_iinc (v := 8) (lv' := [(2, .int 8), (0, .ref b), (1, .int p0)]) hx hb dX0_append_43 hl (k := 0) rfl (by decide) (by decide) rfl (fun ls hl => ?_)
  refine lv_goto (tgt := 3) hx hb dX0_append_46 (by decide) ?_
  refine lv_iload_n hx hb dX0_append_3 rfl (lv_at hl 0 rfl) ?_
  refine lv_if_lt (tgt := 49) hx hb dX0_append_4 (by decide) (fun c => absurd c (by decide)) (fun _ => ?_)
  refine lv_aload_n hx hb dX0_append_7 rfl (lv_at hl 1 rfl) ?_
  refine va_get (D := D) (ci := 0) (v := .int 10) (C := RX0) (T := TX0) (N := 9) hx hb hta inlX0 hown hK hP 0 rfl rfl 8 (by decide) (hta _ wk_342) (fun _ h9 => h9) rfl dX0_append_8 ?_
  refine lv_sipush (v := 400) hx hb dX0_append_11 (by decide) ?_
  refine lv_icmp_ge (tgt := 49) hx hb dX0_append_14 (by decide) (fun c => absurd c (by decide)) (fun _ => ?_)
  refine lv_aload_n hx hb dX0_append_17 rfl (lv_at hl 1 rfl) ?_
  refine va_get (D := D) (ci := 0) (v := .ref ta) (C := RX0) (T := TX0) (N := 9) hx hb hta inlX0 hown hK hP 0 rfl rfl 7 (by decide) (hta _ wk_69) (fun _ h9 => h9) rfl dX0_append_18 ?_
  refine lv_aload_n hx hb dX0_append_21 rfl (lv_at hl 1 rfl) ?_
  refine va_get (D := D) (ci := 0) (v := .int 10) (C := RX0) (T := TX0) (N := 9) hx hb hta inlX0 hown hK hP 0 rfl rfl 8 (by decide) (hta _ wk_342) (fun _ h9 => h9) rfl dX0_append_22 ?_
  refine lv_iload_n hx hb dX0_append_25 rfl (lv_at hl 2 rfl) ?_
  refine lv_iload_n hx hb dX0_append_26 rfl (lv_at hl 0 rfl) ?_
  refine lv_ishr hx hb dX0_append_27 ?_
  refine lv_topi (fun z_9 ez_9 => ?_)
  refine lv_sipush (v := 255) hx hb dX0_append_28 (by decide) ?_
  refine lv_iand hx hb dX0_append_31 ?_
  refine lv_topi (fun z_10 ez_10 => ?_)
  refine va_iast (D := D) hx hb hK hP hD hS 1 0 rfl rfl (tl_in (by decide) (by decide)) dX0_append_32 (fun H locs hP hD hS => ?_)
  have hP : va_P D vwCl [(b, .inr (0, [.int 0, .ref to, .ref ro, .ref sl, .ref li, .ref ca, .ref ho, .ref ta, .int 10])), (ta, .inl (cy 0, 400, .inl (upd f_7 (10 : Int32).toNatClampNeg z_10)))] H := hP
  have hD : va_D A [(b, .inr (0, [.int 0, .ref to, .ref ro, .ref sl, .ref li, .ref ca, .ref ho, .ref ta, .int 10])), (ta, .inl (cy 0, 400, .inl (upd f_7 (10 : Int32).toNatClampNeg z_10)))] := hD
  generalize (upd f_7 (10 : Int32).toNatClampNeg z_10) = f_11 at hP hD
  refine lv_aload_n hx hb dX0_append_33 rfl (lv_at hl 1 rfl) ?_
  refine lv_dup hx hb dX0_append_34 rfl ?_
  refine va_get (D := D) (ci := 0) (v := .int 10) (C := RX0) (T := TX0) (N := 9) hx hb hta inlX0 hown hK hP 0 rfl rfl 8 (by decide) (hta _ wk_342) (fun _ h9 => h9) rfl dX0_append_35 ?_
  refine lv_iconst (v := 1) hx hb dX0_append_38 (by decide) ?_
  refine lv_iadd hx hb dX0_append_39 ?_
  refine lv_topi (fun z_12 ez_12 => ?_)
  obtain rfl : z_12 = (11 : Int32) := ez_12.trans (by decide)
  refine va_put (D := D) (ci := 0) (v := .int 11) (ty := tyX0 8) (C := RX0) (T := TX0) (N := 9) hx hb hta inlX0 tyX0 tyX0_ok nmX0 hown hK hP hD hS 0 rfl rfl 8 (by decide) (hta _ wk_342) (fun _ h9 => h9) rfl (tyX0_ok 8 (by decide)) rfl rfl (Nat.le_of_ble_eq_true rfl) dX0_append_40 (fun H locs hP hD hS => ?_)
  have hP : va_P D vwCl [(b, .inr (0, [.int 0, .ref to, .ref ro, .ref sl, .ref li, .ref ca, .ref ho, .ref ta, .int 11])), (ta, .inl (cy 0, 400, .inl f_11))] H := hP
  have hD : va_D A [(b, .inr (0, [.int 0, .ref to, .ref ro, .ref sl, .ref li, .ref ca, .ref ho, .ref ta, .int 11])), (ta, .inl (cy 0, 400, .inl f_11))] := hD
  refine lv_iinc (v := 0) (lv' := [(2, .int 0), (0, .ref b), (1, .int p0)]) hx hb dX0_append_43 hl (k := 0) rfl (by decide) (by decide) rfl (fun ls hl => ?_)
  refine lv_goto (tgt := 3) hx hb dX0_append_46 (by decide) ?_
  refine lv_iload_n hx hb dX0_append_3 rfl (lv_at hl 0 rfl) ?_
  refine lv_if_lt (tgt := 49) hx hb dX0_append_4 (by decide) (fun c => absurd c (by decide)) (fun _ => ?_)
  refine lv_aload_n hx hb dX0_append_7 rfl (lv_at hl 1 rfl) ?_
  refine va_get (D := D) (ci := 0) (v := .int 11) (C := RX0) (T := TX0) (N := 9) hx hb hta inlX0 hown hK hP 0 rfl rfl 8 (by decide) (hta _ wk_342) (fun _ h9 => h9) rfl dX0_append_8 ?_
  refine lv_sipush (v := 400) hx hb dX0_append_11 (by decide) ?_
  refine lv_icmp_ge (tgt := 49) hx hb dX0_append_14 (by decide) (fun c => absurd c (by decide)) (fun _ => ?_)
  refine lv_aload_n hx hb dX0_append_17 rfl (lv_at hl 1 rfl) ?_
  refine va_get (D := D) (ci := 0) (v := .ref ta) (C := RX0) (T := TX0) (N := 9) hx hb hta inlX0 hown hK hP 0 rfl rfl 7 (by decide) (hta _ wk_69) (fun _ h9 => h9) rfl dX0_append_18 ?_
  refine lv_aload_n hx hb dX0_append_21 rfl (lv_at hl 1 rfl) ?_
  refine va_get (D := D) (ci := 0) (v := .int 11) (C := RX0) (T := TX0) (N := 9) hx hb hta inlX0 hown hK hP 0 rfl rfl 8 (by decide) (hta _ wk_342) (fun _ h9 => h9) rfl dX0_append_22 ?_
  refine lv_iload_n hx hb dX0_append_25 rfl (lv_at hl 2 rfl) ?_
  refine lv_iload_n hx hb dX0_append_26 rfl (lv_at hl 0 rfl) ?_
  refine lv_ishr hx hb dX0_append_27 ?_
  refine lv_topi (fun z_13 ez_13 => ?_)
  refine lv_sipush (v := 255) hx hb dX0_append_28 (by decide) ?_
  refine lv_iand hx hb dX0_append_31 ?_
  refine lv_topi (fun z_14 ez_14 => ?_)
  refine va_iast (D := D) hx hb hK hP hD hS 1 0 rfl rfl (tl_in (by decide) (by decide)) dX0_append_32 (fun H locs hP hD hS => ?_)
  have hP : va_P D vwCl [(b, .inr (0, [.int 0, .ref to, .ref ro, .ref sl, .ref li, .ref ca, .ref ho, .ref ta, .int 11])), (ta, .inl (cy 0, 400, .inl (upd f_11 (11 : Int32).toNatClampNeg z_14)))] H := hP
  have hD : va_D A [(b, .inr (0, [.int 0, .ref to, .ref ro, .ref sl, .ref li, .ref ca, .ref ho, .ref ta, .int 11])), (ta, .inl (cy 0, 400, .inl (upd f_11 (11 : Int32).toNatClampNeg z_14)))] := hD
  generalize (upd f_11 (11 : Int32).toNatClampNeg z_14) = f_15 at hP hD
  refine lv_aload_n hx hb dX0_append_33 rfl (lv_at hl 1 rfl) ?_
  refine lv_dup hx hb dX0_append_34 rfl ?_
  refine va_get (D := D) (ci := 0) (v := .int 11) (C := RX0) (T := TX0) (N := 9) hx hb hta inlX0 hown hK hP 0 rfl rfl 8 (by decide) (hta _ wk_342) (fun _ h9 => h9) rfl dX0_append_35 ?_
  refine lv_iconst (v := 1) hx hb dX0_append_38 (by decide) ?_
  refine lv_iadd hx hb dX0_append_39 ?_
  refine lv_topi (fun z_16 ez_16 => ?_)
  obtain rfl : z_16 = (12 : Int32) := ez_16.trans (by decide)
  refine va_put (D := D) (ci := 0) (v := .int 12) (ty := tyX0 8) (C := RX0) (T := TX0) (N := 9) hx hb hta inlX0 tyX0 tyX0_ok nmX0 hown hK hP hD hS 0 rfl rfl 8 (by decide) (hta _ wk_342) (fun _ h9 => h9) rfl (tyX0_ok 8 (by decide)) rfl rfl (Nat.le_of_ble_eq_true rfl) dX0_append_40 (fun H locs hP hD hS => ?_)
  have hP : va_P D vwCl [(b, .inr (0, [.int 0, .ref to, .ref ro, .ref sl, .ref li, .ref ca, .ref ho, .ref ta, .int 12])), (ta, .inl (cy 0, 400, .inl f_15))] H := hP
  have hD : va_D A [(b, .inr (0, [.int 0, .ref to, .ref ro, .ref sl, .ref li, .ref ca, .ref ho, .ref ta, .int 12])), (ta, .inl (cy 0, 400, .inl f_15))] := hD
  refine lv_iinc (v := (-8)) (lv' := [(2, .int (-8)), (0, .ref b), (1, .int p0)]) hx hb dX0_append_43 hl (k := 0) rfl (by decide) (by decide) rfl (fun ls hl => ?_)
  refine lv_goto (tgt := 3) hx hb dX0_append_46 (by decide) ?_
  refine lv_iload_n hx hb dX0_append_3 rfl (lv_at hl 0 rfl) ?_
  refine lv_if_lt (tgt := 49) hx hb dX0_append_4 (by decide) (fun _ => ?_) (fun c => absurd c (by decide))
  have hP9 := hP.sub (ws' := [(b, .inr (0, [.int 0, .ref to, .ref ro, .ref sl, .ref li, .ref ca, .ref ho, .ref ta, .int 12])), (ta, .inl (cy 0, 400, .inl f_15))]) [0, 1] rfl
  have hD9 := hD.sub (ws' := [(b, .inr (0, [.int 0, .ref to, .ref ro, .ref sl, .ref li, .ref ca, .ref ho, .ref ta, .int 12])), (ta, .inl (cy 0, 400, .inl f_15))]) [0, 1] (by decide) rfl
  exact W.vret hx hb hr (fun t ht hW => ⟨⟨f_15, rfl, trivial, by rw [ht]; exact hP9, hD9⟩, hS.F ht⟩) hS.2.2 dX0_append_49
set_option maxHeartbeats 4000000 in
set_option maxRecDepth 100000 in
theorem c_X0_append_12 (l : Launch) (D : va_G) (cy : Nat → ClassId) (sz : Nat) (b : Nat) (p0 : Int32) (to : Nat) (ro : Nat) (sl : Nat) (li : Nat) (ca : Nat) (ho : Nat) (ta : Nat) (f : Nat → Int32)  : Met l yX0_append (tl_w yX0_append cX0_append 3 none) ({ frames := 0, cells := 0, slots := 0, locals := 0 }) (va_Pc [.ref b, .int p0] (tl_P D cy [(b, .inr (0, [.int 0, .ref to, .ref ro, .ref sl, .ref li, .ref ca, .ref ho, .ref ta, .int 12])), (ta, .inl (cy 0, 400, .inl f))] sz)) (va_Qv (fun (u : Nat → Int32) => True) (tl_B D (va_A [(b, .inr (0, [.int 0, .ref to, .ref ro, .ref sl, .ref li, .ref ca, .ref ho, .ref ta, .int 12])), (ta, .inl (cy 0, 400, .inl f))] sz) (fun u : Nat → Int32 => [(b, .inr (0, [.int 0, .ref to, .ref ro, .ref sl, .ref li, .ref ca, .ref ho, .ref ta, .int 16])), (ta, .inl (cy 0, 400, .inl u))])) (va_A [(b, .inr (0, [.int 0, .ref to, .ref ro, .ref sl, .ref li, .ref ca, .ref ho, .ref ta, .int 12])), (ta, .inl (cy 0, 400, .inl f))] sz)) 0 0 (va_A [(b, .inr (0, [.int 0, .ref to, .ref ro, .ref sl, .ref li, .ref ca, .ref ho, .ref ta, .int 12])), (ta, .inl (cy 0, 400, .inl f))] sz) := by
  refine Met.ofW (cc := cX0_append) (maxL := 3) (ret := none) (by decide) rfl ?_
  intro p e s m args below meth c s₁ B hml hv
  obtain ⟨rfl, hsz, hP, hK, hD0, hN⟩ := hv
  have hx := B.exec
  have hb := B.bytes
  have hr := B.returns
  have hta := tl_hta (atoms_spec (ws := tl_w yX0_append cX0_append 3 none) B.pre)
  have hown : s.vm.findClass RX0 = some m.cls := findClass_of_methodNamed B.named
  have hlocks := B.notSynchronized
  subst hsz
  have hD := hD0.self (sz := s.heap.size)
  generalize hAe : va_A [(b, .inr (0, [.int 0, .ref to, .ref ro, .ref sl, .ref li, .ref ca, .ref ho, .ref ta, .int 12])), (ta, .inl (cy 0, 400, .inl f))] s.heap.size = A at hD ⊢
  have hA : ∀ q : Nat, s.heap.size ≤ q → A q := fun q h => by rw [← hAe]; exact Or.inr h
  have hS : va_S A s.heap s.heap [] := va_S.rf
  have hP : va_P D vwCl [(b, .inr (0, [.int 0, .ref to, .ref ro, .ref sl, .ref li, .ref ca, .ref ho, .ref ta, .int 12])), (ta, .inl (cy 0, 400, .inl f))] s.heap := hP
  have hl := lv_entry ([.ref b, .int p0]) (n := 3) (Nat.le_of_ble_eq_true rfl)
  rw [lg_entry_eq]
  generalize (lg_sl ([.ref b, .int p0]) ++ List.replicate (3 - (lg_sl ([.ref b, .int p0])).length) Slot.unset).toArray = ls at hl ⊢
  have hl : lv_has ls 3 [(0, .ref b), (1, .int p0)] := hl
  refine lv_bipush (v := 24) hx hb dX0_append_0 (by decide) ?_
  refine lv_istore_n (lv' := [(2, .int 24), (0, .ref b), (1, .int p0)]) hx hb dX0_append_2 rfl hl (by decide) rfl (fun ls hl => ?_)
  refine lv_iload_n hx hb dX0_append_3 rfl (lv_at hl 0 rfl) ?_
  refine lv_if_lt (tgt := 49) hx hb dX0_append_4 (by decide) (fun c => absurd c (by decide)) (fun _ => ?_)
  refine lv_aload_n hx hb dX0_append_7 rfl (lv_at hl 1 rfl) ?_
  refine va_get (D := D) (ci := 0) (v := .int 12) (C := RX0) (T := TX0) (N := 9) hx hb hta inlX0 hown hK hP 0 rfl rfl 8 (by decide) (hta _ wk_342) (fun _ h9 => h9) rfl dX0_append_8 ?_
  refine lv_sipush (v := 400) hx hb dX0_append_11 (by decide) ?_
  refine lv_icmp_ge (tgt := 49) hx hb dX0_append_14 (by decide) (fun c => absurd c (by decide)) (fun _ => ?_)
  refine lv_aload_n hx hb dX0_append_17 rfl (lv_at hl 1 rfl) ?_
  refine va_get (D := D) (ci := 0) (v := .ref ta) (C := RX0) (T := TX0) (N := 9) hx hb hta inlX0 hown hK hP 0 rfl rfl 7 (by decide) (hta _ wk_69) (fun _ h9 => h9) rfl dX0_append_18 ?_
  refine lv_aload_n hx hb dX0_append_21 rfl (lv_at hl 1 rfl) ?_
  refine va_get (D := D) (ci := 0) (v := .int 12) (C := RX0) (T := TX0) (N := 9) hx hb hta inlX0 hown hK hP 0 rfl rfl 8 (by decide) (hta _ wk_342) (fun _ h9 => h9) rfl dX0_append_22 ?_
  refine lv_iload_n hx hb dX0_append_25 rfl (lv_at hl 2 rfl) ?_
  refine lv_iload_n hx hb dX0_append_26 rfl (lv_at hl 0 rfl) ?_
  refine lv_ishr hx hb dX0_append_27 ?_
  refine lv_topi (fun z_1 ez_1 => ?_)
  refine lv_sipush (v := 255) hx hb dX0_append_28 (by decide) ?_
  refine lv_iand hx hb dX0_append_31 ?_
  refine lv_topi (fun z_2 ez_2 => ?_)
  refine va_iast (D := D) hx hb hK hP hD hS 1 0 rfl rfl (tl_in (by decide) (by decide)) dX0_append_32 (fun H locs hP hD hS => ?_)
  have hP : va_P D vwCl [(b, .inr (0, [.int 0, .ref to, .ref ro, .ref sl, .ref li, .ref ca, .ref ho, .ref ta, .int 12])), (ta, .inl (cy 0, 400, .inl (upd f (12 : Int32).toNatClampNeg z_2)))] H := hP
  have hD : va_D A [(b, .inr (0, [.int 0, .ref to, .ref ro, .ref sl, .ref li, .ref ca, .ref ho, .ref ta, .int 12])), (ta, .inl (cy 0, 400, .inl (upd f (12 : Int32).toNatClampNeg z_2)))] := hD
  generalize (upd f (12 : Int32).toNatClampNeg z_2) = f_3 at hP hD
  refine lv_aload_n hx hb dX0_append_33 rfl (lv_at hl 1 rfl) ?_
  refine lv_dup hx hb dX0_append_34 rfl ?_
  refine va_get (D := D) (ci := 0) (v := .int 12) (C := RX0) (T := TX0) (N := 9) hx hb hta inlX0 hown hK hP 0 rfl rfl 8 (by decide) (hta _ wk_342) (fun _ h9 => h9) rfl dX0_append_35 ?_
  refine lv_iconst (v := 1) hx hb dX0_append_38 (by decide) ?_
  refine lv_iadd hx hb dX0_append_39 ?_
  refine lv_topi (fun z_4 ez_4 => ?_)
  obtain rfl : z_4 = (13 : Int32) := ez_4.trans (by decide)
  refine va_put (D := D) (ci := 0) (v := .int 13) (ty := tyX0 8) (C := RX0) (T := TX0) (N := 9) hx hb hta inlX0 tyX0 tyX0_ok nmX0 hown hK hP hD hS 0 rfl rfl 8 (by decide) (hta _ wk_342) (fun _ h9 => h9) rfl (tyX0_ok 8 (by decide)) rfl rfl (Nat.le_of_ble_eq_true rfl) dX0_append_40 (fun H locs hP hD hS => ?_)
  have hP : va_P D vwCl [(b, .inr (0, [.int 0, .ref to, .ref ro, .ref sl, .ref li, .ref ca, .ref ho, .ref ta, .int 13])), (ta, .inl (cy 0, 400, .inl f_3))] H := hP
  have hD : va_D A [(b, .inr (0, [.int 0, .ref to, .ref ro, .ref sl, .ref li, .ref ca, .ref ho, .ref ta, .int 13])), (ta, .inl (cy 0, 400, .inl f_3))] := hD
  refine lv_iinc (v := 16) (lv' := [(2, .int 16), (0, .ref b), (1, .int p0)]) hx hb dX0_append_43 hl (k := 0) rfl (by decide) (by decide) rfl (fun ls hl => ?_)
  refine lv_goto (tgt := 3) hx hb dX0_append_46 (by decide) ?_
  refine lv_iload_n hx hb dX0_append_3 rfl (lv_at hl 0 rfl) ?_
  refine lv_if_lt (tgt := 49) hx hb dX0_append_4 (by decide) (fun c => absurd c (by decide)) (fun _ => ?_)
  refine lv_aload_n hx hb dX0_append_7 rfl (lv_at hl 1 rfl) ?_
  refine va_get (D := D) (ci := 0) (v := .int 13) (C := RX0) (T := TX0) (N := 9) hx hb hta inlX0 hown hK hP 0 rfl rfl 8 (by decide) (hta _ wk_342) (fun _ h9 => h9) rfl dX0_append_8 ?_
  refine lv_sipush (v := 400) hx hb dX0_append_11 (by decide) ?_
  refine lv_icmp_ge (tgt := 49) hx hb dX0_append_14 (by decide) (fun c => absurd c (by decide)) (fun _ => ?_)
  refine lv_aload_n hx hb dX0_append_17 rfl (lv_at hl 1 rfl) ?_
  refine va_get (D := D) (ci := 0) (v := .ref ta) (C := RX0) (T := TX0) (N := 9) hx hb hta inlX0 hown hK hP 0 rfl rfl 7 (by decide) (hta _ wk_69) (fun _ h9 => h9) rfl dX0_append_18 ?_
  refine lv_aload_n hx hb dX0_append_21 rfl (lv_at hl 1 rfl) ?_
  refine va_get (D := D) (ci := 0) (v := .int 13) (C := RX0) (T := TX0) (N := 9) hx hb hta inlX0 hown hK hP 0 rfl rfl 8 (by decide) (hta _ wk_342) (fun _ h9 => h9) rfl dX0_append_22 ?_
  refine lv_iload_n hx hb dX0_append_25 rfl (lv_at hl 2 rfl) ?_
  refine lv_iload_n hx hb dX0_append_26 rfl (lv_at hl 0 rfl) ?_
  refine lv_ishr hx hb dX0_append_27 ?_
  refine lv_topi (fun z_5 ez_5 => ?_)
  refine lv_sipush (v := 255) hx hb dX0_append_28 (by decide) ?_
  refine lv_iand hx hb dX0_append_31 ?_
  refine lv_topi (fun z_6 ez_6 => ?_)
  refine va_iast (D := D) hx hb hK hP hD hS 1 0 rfl rfl (tl_in (by decide) (by decide)) dX0_append_32 (fun H locs hP hD hS => ?_)
  have hP : va_P D vwCl [(b, .inr (0, [.int 0, .ref to, .ref ro, .ref sl, .ref li, .ref ca, .ref ho, .ref ta, .int 13])), (ta, .inl (cy 0, 400, .inl (upd f_3 (13 : Int32).toNatClampNeg z_6)))] H := hP
  have hD : va_D A [(b, .inr (0, [.int 0, .ref to, .ref ro, .ref sl, .ref li, .ref ca, .ref ho, .ref ta, .int 13])), (ta, .inl (cy 0, 400, .inl (upd f_3 (13 : Int32).toNatClampNeg z_6)))] := hD
  generalize (upd f_3 (13 : Int32).toNatClampNeg z_6) = f_7 at hP hD
  refine lv_aload_n hx hb dX0_append_33 rfl (lv_at hl 1 rfl) ?_
  refine lv_dup hx hb dX0_append_34 rfl ?_
  refine va_get (D := D) (ci := 0) (v := .int 13) (C := RX0) (T := TX0) (N := 9) hx hb hta inlX0 hown hK hP 0 rfl rfl 8 (by decide) (hta _ wk_342) (fun _ h9 => h9) rfl dX0_append_35 ?_
  refine lv_iconst (v := 1) hx hb dX0_append_38 (by decide) ?_
  refine lv_iadd hx hb dX0_append_39 ?_
  refine lv_topi (fun z_8 ez_8 => ?_)
  obtain rfl : z_8 = (14 : Int32) := ez_8.trans (by decide)
  refine va_put (D := D) (ci := 0) (v := .int 14) (ty := tyX0 8) (C := RX0) (T := TX0) (N := 9) hx hb hta inlX0 tyX0 tyX0_ok nmX0 hown hK hP hD hS 0 rfl rfl 8 (by decide) (hta _ wk_342) (fun _ h9 => h9) rfl (tyX0_ok 8 (by decide)) rfl rfl (Nat.le_of_ble_eq_true rfl) dX0_append_40 (fun H locs hP hD hS => ?_)
  have hP : va_P D vwCl [(b, .inr (0, [.int 0, .ref to, .ref ro, .ref sl, .ref li, .ref ca, .ref ho, .ref ta, .int 14])), (ta, .inl (cy 0, 400, .inl f_7))] H := hP
  have hD : va_D A [(b, .inr (0, [.int 0, .ref to, .ref ro, .ref sl, .ref li, .ref ca, .ref ho, .ref ta, .int 14])), (ta, .inl (cy 0, 400, .inl f_7))] := hD
  refine lv_iinc (v := 8) (lv' := [(2, .int 8), (0, .ref b), (1, .int p0)]) hx hb dX0_append_43 hl (k := 0) rfl (by decide) (by decide) rfl (fun ls hl => ?_)
  refine lv_goto (tgt := 3) hx hb dX0_append_46 (by decide) ?_
  refine lv_iload_n hx hb dX0_append_3 rfl (lv_at hl 0 rfl) ?_
  refine lv_if_lt (tgt := 49) hx hb dX0_append_4 (by decide) (fun c => absurd c (by decide)) (fun _ => ?_)
  refine lv_aload_n hx hb dX0_append_7 rfl (lv_at hl 1 rfl) ?_
  refine va_get (D := D) (ci := 0) (v := .int 14) (C := RX0) (T := TX0) (N := 9) hx hb hta inlX0 hown hK hP 0 rfl rfl 8 (by decide) (hta _ wk_342) (fun _ h9 => h9) rfl dX0_append_8 ?_
  refine lv_sipush (v := 400) hx hb dX0_append_11 (by decide) ?_
  refine lv_icmp_ge (tgt := 49) hx hb dX0_append_14 (by decide) (fun c => absurd c (by decide)) (fun _ => ?_)
  refine lv_aload_n hx hb dX0_append_17 rfl (lv_at hl 1 rfl) ?_
  refine va_get (D := D) (ci := 0) (v := .ref ta) (C := RX0) (T := TX0) (N := 9) hx hb hta inlX0 hown hK hP 0 rfl rfl 7 (by decide) (hta _ wk_69) (fun _ h9 => h9) rfl dX0_append_18 ?_
  refine lv_aload_n hx hb dX0_append_21 rfl (lv_at hl 1 rfl) ?_
  refine va_get (D := D) (ci := 0) (v := .int 14) (C := RX0) (T := TX0) (N := 9) hx hb hta inlX0 hown hK hP 0 rfl rfl 8 (by decide) (hta _ wk_342) (fun _ h9 => h9) rfl dX0_append_22 ?_
  refine lv_iload_n hx hb dX0_append_25 rfl (lv_at hl 2 rfl) ?_
  refine lv_iload_n hx hb dX0_append_26 rfl (lv_at hl 0 rfl) ?_
  refine lv_ishr hx hb dX0_append_27 ?_
  refine lv_topi (fun z_9 ez_9 => ?_)
  refine lv_sipush (v := 255) hx hb dX0_append_28 (by decide) ?_
  refine lv_iand hx hb dX0_append_31 ?_
  refine lv_topi (fun z_10 ez_10 => ?_)
  refine va_iast (D := D) hx hb hK hP hD hS 1 0 rfl rfl (tl_in (by decide) (by decide)) dX0_append_32 (fun H locs hP hD hS => ?_)
  have hP : va_P D vwCl [(b, .inr (0, [.int 0, .ref to, .ref ro, .ref sl, .ref li, .ref ca, .ref ho, .ref ta, .int 14])), (ta, .inl (cy 0, 400, .inl (upd f_7 (14 : Int32).toNatClampNeg z_10)))] H := hP
  have hD : va_D A [(b, .inr (0, [.int 0, .ref to, .ref ro, .ref sl, .ref li, .ref ca, .ref ho, .ref ta, .int 14])), (ta, .inl (cy 0, 400, .inl (upd f_7 (14 : Int32).toNatClampNeg z_10)))] := hD
  generalize (upd f_7 (14 : Int32).toNatClampNeg z_10) = f_11 at hP hD
  refine lv_aload_n hx hb dX0_append_33 rfl (lv_at hl 1 rfl) ?_
  refine lv_dup hx hb dX0_append_34 rfl ?_
  refine va_get (D := D) (ci := 0) (v := .int 14) (C := RX0) (T := TX0) (N := 9) hx hb hta inlX0 hown hK hP 0 rfl rfl 8 (by decide) (hta _ wk_342) (fun _ h9 => h9) rfl dX0_append_35 ?_
  refine lv_iconst (v := 1) hx hb dX0_append_38 (by decide) ?_
  refine lv_iadd hx hb dX0_append_39 ?_
  refine lv_topi (fun z_12 ez_12 => ?_)
  obtain rfl : z_12 = (15 : Int32) := ez_12.trans (by decide)
  refine va_put (D := D) (ci := 0) (v := .int 15) (ty := tyX0 8) (C := RX0) (T := TX0) (N := 9) hx hb hta inlX0 tyX0 tyX0_ok nmX0 hown hK hP hD hS 0 rfl rfl 8 (by decide) (hta _ wk_342) (fun _ h9 => h9) rfl (tyX0_ok 8 (by decide)) rfl rfl (Nat.le_of_ble_eq_true rfl) dX0_append_40 (fun H locs hP hD hS => ?_)
  have hP : va_P D vwCl [(b, .inr (0, [.int 0, .ref to, .ref ro, .ref sl, .ref li, .ref ca, .ref ho, .ref ta, .int 15])), (ta, .inl (cy 0, 400, .inl f_11))] H := hP
  have hD : va_D A [(b, .inr (0, [.int 0, .ref to, .ref ro, .ref sl, .ref li, .ref ca, .ref ho, .ref ta, .int 15])), (ta, .inl (cy 0, 400, .inl f_11))] := hD
  refine lv_iinc (v := 0) (lv' := [(2, .int 0), (0, .ref b), (1, .int p0)]) hx hb dX0_append_43 hl (k := 0) rfl (by decide) (by decide) rfl (fun ls hl => ?_)
  refine lv_goto (tgt := 3) hx hb dX0_append_46 (by decide) ?_
  refine lv_iload_n hx hb dX0_append_3 rfl (lv_at hl 0 rfl) ?_
  refine lv_if_lt (tgt := 49) hx hb dX0_append_4 (by decide) (fun c => absurd c (by decide)) (fun _ => ?_)
  refine lv_aload_n hx hb dX0_append_7 rfl (lv_at hl 1 rfl) ?_
  refine va_get (D := D) (ci := 0) (v := .int 15) (C := RX0) (T := TX0) (N := 9) hx hb hta inlX0 hown hK hP 0 rfl rfl 8 (by decide) (hta _ wk_342) (fun _ h9 => h9) rfl dX0_append_8 ?_
  refine lv_sipush (v := 400) hx hb dX0_append_11 (by decide) ?_
  refine lv_icmp_ge (tgt := 49) hx hb dX0_append_14 (by decide) (fun c => absurd c (by decide)) (fun _ => ?_)
  refine lv_aload_n hx hb dX0_append_17 rfl (lv_at hl 1 rfl) ?_
  refine va_get (D := D) (ci := 0) (v := .ref ta) (C := RX0) (T := TX0) (N := 9) hx hb hta inlX0 hown hK hP 0 rfl rfl 7 (by decide) (hta _ wk_69) (fun _ h9 => h9) rfl dX0_append_18 ?_
  refine lv_aload_n hx hb dX0_append_21 rfl (lv_at hl 1 rfl) ?_
  refine va_get (D := D) (ci := 0) (v := .int 15) (C := RX0) (T := TX0) (N := 9) hx hb hta inlX0 hown hK hP 0 rfl rfl 8 (by decide) (hta _ wk_342) (fun _ h9 => h9) rfl dX0_append_22 ?_
  refine lv_iload_n hx hb dX0_append_25 rfl (lv_at hl 2 rfl) ?_
  refine lv_iload_n hx hb dX0_append_26 rfl (lv_at hl 0 rfl) ?_
  refine lv_ishr hx hb dX0_append_27 ?_
  refine lv_topi (fun z_13 ez_13 => ?_)
  refine lv_sipush (v := 255) hx hb dX0_append_28 (by decide) ?_
  refine lv_iand hx hb dX0_append_31 ?_
  refine lv_topi (fun z_14 ez_14 => ?_)
  refine va_iast (D := D) hx hb hK hP hD hS 1 0 rfl rfl (tl_in (by decide) (by decide)) dX0_append_32 (fun H locs hP hD hS => ?_)
  have hP : va_P D vwCl [(b, .inr (0, [.int 0, .ref to, .ref ro, .ref sl, .ref li, .ref ca, .ref ho, .ref ta, .int 15])), (ta, .inl (cy 0, 400, .inl (upd f_11 (15 : Int32).toNatClampNeg z_14)))] H := hP
  have hD : va_D A [(b, .inr (0, [.int 0, .ref to, .ref ro, .ref sl, .ref li, .ref ca, .ref ho, .ref ta, .int 15])), (ta, .inl (cy 0, 400, .inl (upd f_11 (15 : Int32).toNatClampNeg z_14)))] := hD
  generalize (upd f_11 (15 : Int32).toNatClampNeg z_14) = f_15 at hP hD
  refine lv_aload_n hx hb dX0_append_33 rfl (lv_at hl 1 rfl) ?_
  refine lv_dup hx hb dX0_append_34 rfl ?_
  refine va_get (D := D) (ci := 0) (v := .int 15) (C := RX0) (T := TX0) (N := 9) hx hb hta inlX0 hown hK hP 0 rfl rfl 8 (by decide) (hta _ wk_342) (fun _ h9 => h9) rfl dX0_append_35 ?_
  refine lv_iconst (v := 1) hx hb dX0_append_38 (by decide) ?_
  refine lv_iadd hx hb dX0_append_39 ?_
  refine lv_topi (fun z_16 ez_16 => ?_)
  obtain rfl : z_16 = (16 : Int32) := ez_16.trans (by decide)
  refine va_put (D := D) (ci := 0) (v := .int 16) (ty := tyX0 8) (C := RX0) (T := TX0) (N := 9) hx hb hta inlX0 tyX0 tyX0_ok nmX0 hown hK hP hD hS 0 rfl rfl 8 (by decide) (hta _ wk_342) (fun _ h9 => h9) rfl (tyX0_ok 8 (by decide)) rfl rfl (Nat.le_of_ble_eq_true rfl) dX0_append_40 (fun H locs hP hD hS => ?_)
  have hP : va_P D vwCl [(b, .inr (0, [.int 0, .ref to, .ref ro, .ref sl, .ref li, .ref ca, .ref ho, .ref ta, .int 16])), (ta, .inl (cy 0, 400, .inl f_15))] H := hP
  have hD : va_D A [(b, .inr (0, [.int 0, .ref to, .ref ro, .ref sl, .ref li, .ref ca, .ref ho, .ref ta, .int 16])), (ta, .inl (cy 0, 400, .inl f_15))] := hD
  refine lv_iinc (v := (-8)) (lv' := [(2, .int (-8)), (0, .ref b), (1, .int p0)]) hx hb dX0_append_43 hl (k := 0) rfl (by decide) (by decide) rfl (fun ls hl => ?_)
  refine lv_goto (tgt := 3) hx hb dX0_append_46 (by decide) ?_
  refine lv_iload_n hx hb dX0_append_3 rfl (lv_at hl 0 rfl) ?_
  refine lv_if_lt (tgt := 49) hx hb dX0_append_4 (by decide) (fun _ => ?_) (fun c => absurd c (by decide))
  have hP9 := hP.sub (ws' := [(b, .inr (0, [.int 0, .ref to, .ref ro, .ref sl, .ref li, .ref ca, .ref ho, .ref ta, .int 16])), (ta, .inl (cy 0, 400, .inl f_15))]) [0, 1] rfl
  have hD9 := hD.sub (ws' := [(b, .inr (0, [.int 0, .ref to, .ref ro, .ref sl, .ref li, .ref ca, .ref ho, .ref ta, .int 16])), (ta, .inl (cy 0, 400, .inl f_15))]) [0, 1] (by decide) rfl
  exact W.vret hx hb hr (fun t ht hW => ⟨⟨f_15, rfl, trivial, by rw [ht]; exact hP9, hD9⟩, hS.F ht⟩) hS.2.2 dX0_append_49
set_option maxHeartbeats 4000000 in
set_option maxRecDepth 100000 in
theorem c_X0_append_16 (l : Launch) (D : va_G) (cy : Nat → ClassId) (sz : Nat) (b : Nat) (p0 : Int32) (to : Nat) (ro : Nat) (sl : Nat) (li : Nat) (ca : Nat) (ho : Nat) (ta : Nat) (f : Nat → Int32)  : Met l yX0_append (tl_w yX0_append cX0_append 3 none) ({ frames := 0, cells := 0, slots := 0, locals := 0 }) (va_Pc [.ref b, .int p0] (tl_P D cy [(b, .inr (0, [.int 0, .ref to, .ref ro, .ref sl, .ref li, .ref ca, .ref ho, .ref ta, .int 16])), (ta, .inl (cy 0, 400, .inl f))] sz)) (va_Qv (fun (u : Nat → Int32) => True) (tl_B D (va_A [(b, .inr (0, [.int 0, .ref to, .ref ro, .ref sl, .ref li, .ref ca, .ref ho, .ref ta, .int 16])), (ta, .inl (cy 0, 400, .inl f))] sz) (fun u : Nat → Int32 => [(b, .inr (0, [.int 0, .ref to, .ref ro, .ref sl, .ref li, .ref ca, .ref ho, .ref ta, .int 20])), (ta, .inl (cy 0, 400, .inl u))])) (va_A [(b, .inr (0, [.int 0, .ref to, .ref ro, .ref sl, .ref li, .ref ca, .ref ho, .ref ta, .int 16])), (ta, .inl (cy 0, 400, .inl f))] sz)) 0 0 (va_A [(b, .inr (0, [.int 0, .ref to, .ref ro, .ref sl, .ref li, .ref ca, .ref ho, .ref ta, .int 16])), (ta, .inl (cy 0, 400, .inl f))] sz) := by
  refine Met.ofW (cc := cX0_append) (maxL := 3) (ret := none) (by decide) rfl ?_
  intro p e s m args below meth c s₁ B hml hv
  obtain ⟨rfl, hsz, hP, hK, hD0, hN⟩ := hv
  have hx := B.exec
  have hb := B.bytes
  have hr := B.returns
  have hta := tl_hta (atoms_spec (ws := tl_w yX0_append cX0_append 3 none) B.pre)
  have hown : s.vm.findClass RX0 = some m.cls := findClass_of_methodNamed B.named
  have hlocks := B.notSynchronized
  subst hsz
  have hD := hD0.self (sz := s.heap.size)
  generalize hAe : va_A [(b, .inr (0, [.int 0, .ref to, .ref ro, .ref sl, .ref li, .ref ca, .ref ho, .ref ta, .int 16])), (ta, .inl (cy 0, 400, .inl f))] s.heap.size = A at hD ⊢
  have hA : ∀ q : Nat, s.heap.size ≤ q → A q := fun q h => by rw [← hAe]; exact Or.inr h
  have hS : va_S A s.heap s.heap [] := va_S.rf
  have hP : va_P D vwCl [(b, .inr (0, [.int 0, .ref to, .ref ro, .ref sl, .ref li, .ref ca, .ref ho, .ref ta, .int 16])), (ta, .inl (cy 0, 400, .inl f))] s.heap := hP
  have hl := lv_entry ([.ref b, .int p0]) (n := 3) (Nat.le_of_ble_eq_true rfl)
  rw [lg_entry_eq]
  generalize (lg_sl ([.ref b, .int p0]) ++ List.replicate (3 - (lg_sl ([.ref b, .int p0])).length) Slot.unset).toArray = ls at hl ⊢
  have hl : lv_has ls 3 [(0, .ref b), (1, .int p0)] := hl
  refine lv_bipush (v := 24) hx hb dX0_append_0 (by decide) ?_
  refine lv_istore_n (lv' := [(2, .int 24), (0, .ref b), (1, .int p0)]) hx hb dX0_append_2 rfl hl (by decide) rfl (fun ls hl => ?_)
  refine lv_iload_n hx hb dX0_append_3 rfl (lv_at hl 0 rfl) ?_
  refine lv_if_lt (tgt := 49) hx hb dX0_append_4 (by decide) (fun c => absurd c (by decide)) (fun _ => ?_)
  refine lv_aload_n hx hb dX0_append_7 rfl (lv_at hl 1 rfl) ?_
  refine va_get (D := D) (ci := 0) (v := .int 16) (C := RX0) (T := TX0) (N := 9) hx hb hta inlX0 hown hK hP 0 rfl rfl 8 (by decide) (hta _ wk_342) (fun _ h9 => h9) rfl dX0_append_8 ?_
  refine lv_sipush (v := 400) hx hb dX0_append_11 (by decide) ?_
  refine lv_icmp_ge (tgt := 49) hx hb dX0_append_14 (by decide) (fun c => absurd c (by decide)) (fun _ => ?_)
  refine lv_aload_n hx hb dX0_append_17 rfl (lv_at hl 1 rfl) ?_
  refine va_get (D := D) (ci := 0) (v := .ref ta) (C := RX0) (T := TX0) (N := 9) hx hb hta inlX0 hown hK hP 0 rfl rfl 7 (by decide) (hta _ wk_69) (fun _ h9 => h9) rfl dX0_append_18 ?_
  refine lv_aload_n hx hb dX0_append_21 rfl (lv_at hl 1 rfl) ?_
  refine va_get (D := D) (ci := 0) (v := .int 16) (C := RX0) (T := TX0) (N := 9) hx hb hta inlX0 hown hK hP 0 rfl rfl 8 (by decide) (hta _ wk_342) (fun _ h9 => h9) rfl dX0_append_22 ?_
  refine lv_iload_n hx hb dX0_append_25 rfl (lv_at hl 2 rfl) ?_
  refine lv_iload_n hx hb dX0_append_26 rfl (lv_at hl 0 rfl) ?_
  refine lv_ishr hx hb dX0_append_27 ?_
  refine lv_topi (fun z_1 ez_1 => ?_)
  refine lv_sipush (v := 255) hx hb dX0_append_28 (by decide) ?_
  refine lv_iand hx hb dX0_append_31 ?_
  refine lv_topi (fun z_2 ez_2 => ?_)
  refine va_iast (D := D) hx hb hK hP hD hS 1 0 rfl rfl (tl_in (by decide) (by decide)) dX0_append_32 (fun H locs hP hD hS => ?_)
  have hP : va_P D vwCl [(b, .inr (0, [.int 0, .ref to, .ref ro, .ref sl, .ref li, .ref ca, .ref ho, .ref ta, .int 16])), (ta, .inl (cy 0, 400, .inl (upd f (16 : Int32).toNatClampNeg z_2)))] H := hP
  have hD : va_D A [(b, .inr (0, [.int 0, .ref to, .ref ro, .ref sl, .ref li, .ref ca, .ref ho, .ref ta, .int 16])), (ta, .inl (cy 0, 400, .inl (upd f (16 : Int32).toNatClampNeg z_2)))] := hD
  generalize (upd f (16 : Int32).toNatClampNeg z_2) = f_3 at hP hD
  refine lv_aload_n hx hb dX0_append_33 rfl (lv_at hl 1 rfl) ?_
  refine lv_dup hx hb dX0_append_34 rfl ?_
  refine va_get (D := D) (ci := 0) (v := .int 16) (C := RX0) (T := TX0) (N := 9) hx hb hta inlX0 hown hK hP 0 rfl rfl 8 (by decide) (hta _ wk_342) (fun _ h9 => h9) rfl dX0_append_35 ?_
  refine lv_iconst (v := 1) hx hb dX0_append_38 (by decide) ?_
  refine lv_iadd hx hb dX0_append_39 ?_
  refine lv_topi (fun z_4 ez_4 => ?_)
  obtain rfl : z_4 = (17 : Int32) := ez_4.trans (by decide)
  refine va_put (D := D) (ci := 0) (v := .int 17) (ty := tyX0 8) (C := RX0) (T := TX0) (N := 9) hx hb hta inlX0 tyX0 tyX0_ok nmX0 hown hK hP hD hS 0 rfl rfl 8 (by decide) (hta _ wk_342) (fun _ h9 => h9) rfl (tyX0_ok 8 (by decide)) rfl rfl (Nat.le_of_ble_eq_true rfl) dX0_append_40 (fun H locs hP hD hS => ?_)
  have hP : va_P D vwCl [(b, .inr (0, [.int 0, .ref to, .ref ro, .ref sl, .ref li, .ref ca, .ref ho, .ref ta, .int 17])), (ta, .inl (cy 0, 400, .inl f_3))] H := hP
  have hD : va_D A [(b, .inr (0, [.int 0, .ref to, .ref ro, .ref sl, .ref li, .ref ca, .ref ho, .ref ta, .int 17])), (ta, .inl (cy 0, 400, .inl f_3))] := hD
  refine lv_iinc (v := 16) (lv' := [(2, .int 16), (0, .ref b), (1, .int p0)]) hx hb dX0_append_43 hl (k := 0) rfl (by decide) (by decide) rfl (fun ls hl => ?_)
  refine lv_goto (tgt := 3) hx hb dX0_append_46 (by decide) ?_
  refine lv_iload_n hx hb dX0_append_3 rfl (lv_at hl 0 rfl) ?_
  refine lv_if_lt (tgt := 49) hx hb dX0_append_4 (by decide) (fun c => absurd c (by decide)) (fun _ => ?_)
  refine lv_aload_n hx hb dX0_append_7 rfl (lv_at hl 1 rfl) ?_
  refine va_get (D := D) (ci := 0) (v := .int 17) (C := RX0) (T := TX0) (N := 9) hx hb hta inlX0 hown hK hP 0 rfl rfl 8 (by decide) (hta _ wk_342) (fun _ h9 => h9) rfl dX0_append_8 ?_
  refine lv_sipush (v := 400) hx hb dX0_append_11 (by decide) ?_
  refine lv_icmp_ge (tgt := 49) hx hb dX0_append_14 (by decide) (fun c => absurd c (by decide)) (fun _ => ?_)
  refine lv_aload_n hx hb dX0_append_17 rfl (lv_at hl 1 rfl) ?_
  refine va_get (D := D) (ci := 0) (v := .ref ta) (C := RX0) (T := TX0) (N := 9) hx hb hta inlX0 hown hK hP 0 rfl rfl 7 (by decide) (hta _ wk_69) (fun _ h9 => h9) rfl dX0_append_18 ?_
  refine lv_aload_n hx hb dX0_append_21 rfl (lv_at hl 1 rfl) ?_
  refine va_get (D := D) (ci := 0) (v := .int 17) (C := RX0) (T := TX0) (N := 9) hx hb hta inlX0 hown hK hP 0 rfl rfl 8 (by decide) (hta _ wk_342) (fun _ h9 => h9) rfl dX0_append_22 ?_
  refine lv_iload_n hx hb dX0_append_25 rfl (lv_at hl 2 rfl) ?_
  refine lv_iload_n hx hb dX0_append_26 rfl (lv_at hl 0 rfl) ?_
  refine lv_ishr hx hb dX0_append_27 ?_
  refine lv_topi (fun z_5 ez_5 => ?_)
  refine lv_sipush (v := 255) hx hb dX0_append_28 (by decide) ?_
  refine lv_iand hx hb dX0_append_31 ?_
  refine lv_topi (fun z_6 ez_6 => ?_)
  refine va_iast (D := D) hx hb hK hP hD hS 1 0 rfl rfl (tl_in (by decide) (by decide)) dX0_append_32 (fun H locs hP hD hS => ?_)
  have hP : va_P D vwCl [(b, .inr (0, [.int 0, .ref to, .ref ro, .ref sl, .ref li, .ref ca, .ref ho, .ref ta, .int 17])), (ta, .inl (cy 0, 400, .inl (upd f_3 (17 : Int32).toNatClampNeg z_6)))] H := hP
  have hD : va_D A [(b, .inr (0, [.int 0, .ref to, .ref ro, .ref sl, .ref li, .ref ca, .ref ho, .ref ta, .int 17])), (ta, .inl (cy 0, 400, .inl (upd f_3 (17 : Int32).toNatClampNeg z_6)))] := hD
  generalize (upd f_3 (17 : Int32).toNatClampNeg z_6) = f_7 at hP hD
  refine lv_aload_n hx hb dX0_append_33 rfl (lv_at hl 1 rfl) ?_
  refine lv_dup hx hb dX0_append_34 rfl ?_
  refine va_get (D := D) (ci := 0) (v := .int 17) (C := RX0) (T := TX0) (N := 9) hx hb hta inlX0 hown hK hP 0 rfl rfl 8 (by decide) (hta _ wk_342) (fun _ h9 => h9) rfl dX0_append_35 ?_
  refine lv_iconst (v := 1) hx hb dX0_append_38 (by decide) ?_
  refine lv_iadd hx hb dX0_append_39 ?_
  refine lv_topi (fun z_8 ez_8 => ?_)
  obtain rfl : z_8 = (18 : Int32) := ez_8.trans (by decide)
  refine va_put (D := D) (ci := 0) (v := .int 18) (ty := tyX0 8) (C := RX0) (T := TX0) (N := 9) hx hb hta inlX0 tyX0 tyX0_ok nmX0 hown hK hP hD hS 0 rfl rfl 8 (by decide) (hta _ wk_342) (fun _ h9 => h9) rfl (tyX0_ok 8 (by decide)) rfl rfl (Nat.le_of_ble_eq_true rfl) dX0_append_40 (fun H locs hP hD hS => ?_)
  have hP : va_P D vwCl [(b, .inr (0, [.int 0, .ref to, .ref ro, .ref sl, .ref li, .ref ca, .ref ho, .ref ta, .int 18])), (ta, .inl (cy 0, 400, .inl f_7))] H := hP
  have hD : va_D A [(b, .inr (0, [.int 0, .ref to, .ref ro, .ref sl, .ref li, .ref ca, .ref ho, .ref ta, .int 18])), (ta, .inl (cy 0, 400, .inl f_7))] := hD
  refine lv_iinc (v := 8) (lv' := [(2, .int 8), (0, .ref b), (1, .int p0)]) hx hb dX0_append_43 hl (k := 0) rfl (by decide) (by decide) rfl (fun ls hl => ?_)
  refine lv_goto (tgt := 3) hx hb dX0_append_46 (by decide) ?_
  refine lv_iload_n hx hb dX0_append_3 rfl (lv_at hl 0 rfl) ?_
  refine lv_if_lt (tgt := 49) hx hb dX0_append_4 (by decide) (fun c => absurd c (by decide)) (fun _ => ?_)
  refine lv_aload_n hx hb dX0_append_7 rfl (lv_at hl 1 rfl) ?_
  refine va_get (D := D) (ci := 0) (v := .int 18) (C := RX0) (T := TX0) (N := 9) hx hb hta inlX0 hown hK hP 0 rfl rfl 8 (by decide) (hta _ wk_342) (fun _ h9 => h9) rfl dX0_append_8 ?_
  refine lv_sipush (v := 400) hx hb dX0_append_11 (by decide) ?_
  refine lv_icmp_ge (tgt := 49) hx hb dX0_append_14 (by decide) (fun c => absurd c (by decide)) (fun _ => ?_)
  refine lv_aload_n hx hb dX0_append_17 rfl (lv_at hl 1 rfl) ?_
  refine va_get (D := D) (ci := 0) (v := .ref ta) (C := RX0) (T := TX0) (N := 9) hx hb hta inlX0 hown hK hP 0 rfl rfl 7 (by decide) (hta _ wk_69) (fun _ h9 => h9) rfl dX0_append_18 ?_
  refine lv_aload_n hx hb dX0_append_21 rfl (lv_at hl 1 rfl) ?_
  refine va_get (D := D) (ci := 0) (v := .int 18) (C := RX0) (T := TX0) (N := 9) hx hb hta inlX0 hown hK hP 0 rfl rfl 8 (by decide) (hta _ wk_342) (fun _ h9 => h9) rfl dX0_append_22 ?_
  refine lv_iload_n hx hb dX0_append_25 rfl (lv_at hl 2 rfl) ?_
  refine lv_iload_n hx hb dX0_append_26 rfl (lv_at hl 0 rfl) ?_
  refine lv_ishr hx hb dX0_append_27 ?_
  refine lv_topi (fun z_9 ez_9 => ?_)
  refine lv_sipush (v := 255) hx hb dX0_append_28 (by decide) ?_
  refine lv_iand hx hb dX0_append_31 ?_
  refine lv_topi (fun z_10 ez_10 => ?_)
  refine va_iast (D := D) hx hb hK hP hD hS 1 0 rfl rfl (tl_in (by decide) (by decide)) dX0_append_32 (fun H locs hP hD hS => ?_)
  have hP : va_P D vwCl [(b, .inr (0, [.int 0, .ref to, .ref ro, .ref sl, .ref li, .ref ca, .ref ho, .ref ta, .int 18])), (ta, .inl (cy 0, 400, .inl (upd f_7 (18 : Int32).toNatClampNeg z_10)))] H := hP
  have hD : va_D A [(b, .inr (0, [.int 0, .ref to, .ref ro, .ref sl, .ref li, .ref ca, .ref ho, .ref ta, .int 18])), (ta, .inl (cy 0, 400, .inl (upd f_7 (18 : Int32).toNatClampNeg z_10)))] := hD
  generalize (upd f_7 (18 : Int32).toNatClampNeg z_10) = f_11 at hP hD
  refine lv_aload_n hx hb dX0_append_33 rfl (lv_at hl 1 rfl) ?_
  refine lv_dup hx hb dX0_append_34 rfl ?_
  refine va_get (D := D) (ci := 0) (v := .int 18) (C := RX0) (T := TX0) (N := 9) hx hb hta inlX0 hown hK hP 0 rfl rfl 8 (by decide) (hta _ wk_342) (fun _ h9 => h9) rfl dX0_append_35 ?_
  refine lv_iconst (v := 1) hx hb dX0_append_38 (by decide) ?_
  refine lv_iadd hx hb dX0_append_39 ?_
  refine lv_topi (fun z_12 ez_12 => ?_)
  obtain rfl : z_12 = (19 : Int32) := ez_12.trans (by decide)
  refine va_put (D := D) (ci := 0) (v := .int 19) (ty := tyX0 8) (C := RX0) (T := TX0) (N := 9) hx hb hta inlX0 tyX0 tyX0_ok nmX0 hown hK hP hD hS 0 rfl rfl 8 (by decide) (hta _ wk_342) (fun _ h9 => h9) rfl (tyX0_ok 8 (by decide)) rfl rfl (Nat.le_of_ble_eq_true rfl) dX0_append_40 (fun H locs hP hD hS => ?_)
  have hP : va_P D vwCl [(b, .inr (0, [.int 0, .ref to, .ref ro, .ref sl, .ref li, .ref ca, .ref ho, .ref ta, .int 19])), (ta, .inl (cy 0, 400, .inl f_11))] H := hP
  have hD : va_D A [(b, .inr (0, [.int 0, .ref to, .ref ro, .ref sl, .ref li, .ref ca, .ref ho, .ref ta, .int 19])), (ta, .inl (cy 0, 400, .inl f_11))] := hD
  refine lv_iinc (v := 0) (lv' := [(2, .int 0), (0, .ref b), (1, .int p0)]) hx hb dX0_append_43 hl (k := 0) rfl (by decide) (by decide) rfl (fun ls hl => ?_)
  refine lv_goto (tgt := 3) hx hb dX0_append_46 (by decide) ?_
  refine lv_iload_n hx hb dX0_append_3 rfl (lv_at hl 0 rfl) ?_
  refine lv_if_lt (tgt := 49) hx hb dX0_append_4 (by decide) (fun c => absurd c (by decide)) (fun _ => ?_)
  refine lv_aload_n hx hb dX0_append_7 rfl (lv_at hl 1 rfl) ?_
  refine va_get (D := D) (ci := 0) (v := .int 19) (C := RX0) (T := TX0) (N := 9) hx hb hta inlX0 hown hK hP 0 rfl rfl 8 (by decide) (hta _ wk_342) (fun _ h9 => h9) rfl dX0_append_8 ?_
  refine lv_sipush (v := 400) hx hb dX0_append_11 (by decide) ?_
  refine lv_icmp_ge (tgt := 49) hx hb dX0_append_14 (by decide) (fun c => absurd c (by decide)) (fun _ => ?_)
  refine lv_aload_n hx hb dX0_append_17 rfl (lv_at hl 1 rfl) ?_
  refine va_get (D := D) (ci := 0) (v := .ref ta) (C := RX0) (T := TX0) (N := 9) hx hb hta inlX0 hown hK hP 0 rfl rfl 7 (by decide) (hta _ wk_69) (fun _ h9 => h9) rfl dX0_append_18 ?_
  refine lv_aload_n hx hb dX0_append_21 rfl (lv_at hl 1 rfl) ?_
  refine va_get (D := D) (ci := 0) (v := .int 19) (C := RX0) (T := TX0) (N := 9) hx hb hta inlX0 hown hK hP 0 rfl rfl 8 (by decide) (hta _ wk_342) (fun _ h9 => h9) rfl dX0_append_22 ?_
  refine lv_iload_n hx hb dX0_append_25 rfl (lv_at hl 2 rfl) ?_
  refine lv_iload_n hx hb dX0_append_26 rfl (lv_at hl 0 rfl) ?_
  refine lv_ishr hx hb dX0_append_27 ?_
  refine lv_topi (fun z_13 ez_13 => ?_)
  refine lv_sipush (v := 255) hx hb dX0_append_28 (by decide) ?_
  refine lv_iand hx hb dX0_append_31 ?_
  refine lv_topi (fun z_14 ez_14 => ?_)
  refine va_iast (D := D) hx hb hK hP hD hS 1 0 rfl rfl (tl_in (by decide) (by decide)) dX0_append_32 (fun H locs hP hD hS => ?_)
  have hP : va_P D vwCl [(b, .inr (0, [.int 0, .ref to, .ref ro, .ref sl, .ref li, .ref ca, .ref ho, .ref ta, .int 19])), (ta, .inl (cy 0, 400, .inl (upd f_11 (19 : Int32).toNatClampNeg z_14)))] H := hP
  have hD : va_D A [(b, .inr (0, [.int 0, .ref to, .ref ro, .ref sl, .ref li, .ref ca, .ref ho, .ref ta, .int 19])), (ta, .inl (cy 0, 400, .inl (upd f_11 (19 : Int32).toNatClampNeg z_14)))] := hD
  generalize (upd f_11 (19 : Int32).toNatClampNeg z_14) = f_15 at hP hD
  refine lv_aload_n hx hb dX0_append_33 rfl (lv_at hl 1 rfl) ?_
  refine lv_dup hx hb dX0_append_34 rfl ?_
  refine va_get (D := D) (ci := 0) (v := .int 19) (C := RX0) (T := TX0) (N := 9) hx hb hta inlX0 hown hK hP 0 rfl rfl 8 (by decide) (hta _ wk_342) (fun _ h9 => h9) rfl dX0_append_35 ?_
  refine lv_iconst (v := 1) hx hb dX0_append_38 (by decide) ?_
  refine lv_iadd hx hb dX0_append_39 ?_
  refine lv_topi (fun z_16 ez_16 => ?_)
  obtain rfl : z_16 = (20 : Int32) := ez_16.trans (by decide)
  refine va_put (D := D) (ci := 0) (v := .int 20) (ty := tyX0 8) (C := RX0) (T := TX0) (N := 9) hx hb hta inlX0 tyX0 tyX0_ok nmX0 hown hK hP hD hS 0 rfl rfl 8 (by decide) (hta _ wk_342) (fun _ h9 => h9) rfl (tyX0_ok 8 (by decide)) rfl rfl (Nat.le_of_ble_eq_true rfl) dX0_append_40 (fun H locs hP hD hS => ?_)
  have hP : va_P D vwCl [(b, .inr (0, [.int 0, .ref to, .ref ro, .ref sl, .ref li, .ref ca, .ref ho, .ref ta, .int 20])), (ta, .inl (cy 0, 400, .inl f_15))] H := hP
  have hD : va_D A [(b, .inr (0, [.int 0, .ref to, .ref ro, .ref sl, .ref li, .ref ca, .ref ho, .ref ta, .int 20])), (ta, .inl (cy 0, 400, .inl f_15))] := hD
  refine lv_iinc (v := (-8)) (lv' := [(2, .int (-8)), (0, .ref b), (1, .int p0)]) hx hb dX0_append_43 hl (k := 0) rfl (by decide) (by decide) rfl (fun ls hl => ?_)
  refine lv_goto (tgt := 3) hx hb dX0_append_46 (by decide) ?_
  refine lv_iload_n hx hb dX0_append_3 rfl (lv_at hl 0 rfl) ?_
  refine lv_if_lt (tgt := 49) hx hb dX0_append_4 (by decide) (fun _ => ?_) (fun c => absurd c (by decide))
  have hP9 := hP.sub (ws' := [(b, .inr (0, [.int 0, .ref to, .ref ro, .ref sl, .ref li, .ref ca, .ref ho, .ref ta, .int 20])), (ta, .inl (cy 0, 400, .inl f_15))]) [0, 1] rfl
  have hD9 := hD.sub (ws' := [(b, .inr (0, [.int 0, .ref to, .ref ro, .ref sl, .ref li, .ref ca, .ref ho, .ref ta, .int 20])), (ta, .inl (cy 0, 400, .inl f_15))]) [0, 1] (by decide) rfl
  exact W.vret hx hb hr (fun t ht hW => ⟨⟨f_15, rfl, trivial, by rw [ht]; exact hP9, hD9⟩, hS.F ht⟩) hS.2.2 dX0_append_49
set_option maxHeartbeats 4000000 in
set_option maxRecDepth 100000 in
theorem c_X11_feed (l : Launch) (D : va_G) (cy : Nat → ClassId) (sz : Nat) (x : Nat) (p0 : Int32) (p1 : Int32) (p2 : Int32) (p3 : Int32) (p4 : Int32) (b : Nat) (im : Nat) (la : Nat) (cu : Nat) (wa : Nat) (pa : Nat) (dr : Nat) (su : Nat) (mk : Nat) (vi : Nat) (re : Nat) (rd : Nat) (so : Nat) (fw : Nat) (wo : Nat) (gi : Nat) (to : Nat) (ro : Nat) (sl : Nat) (li : Nat) (ca : Nat) (ho : Nat) (ta : Nat)  : Met l yX11_feed (tl_w yX11_feed cX11_feed 6 (some .int)) ({ frames := 1, cells := 0, slots := 0, locals := 22 }) (va_Pc [.ref x, .int p0, .int p1, .int p2, .int p3, .int p4] (tl_P D cy [(x, .inr (11, [.ref b, .ref im, .ref la, .ref cu, .ref wa, .ref pa, .ref dr, .ref su, .ref mk, .ref vi, .ref re, .ref rd, .ref so, .ref fw, .ref wo, .ref gi])), (b, .inr (0, [.int 0, .ref to, .ref ro, .ref sl, .ref li, .ref ca, .ref ho, .ref ta, .int 0])), (ta, .inl (cy 0, 400, .inl (fun _ => 0)))] sz)) (va_Qi (fun (r : Int32) (u : Unit) => r = 20) (tl_B D (va_A [(x, .inr (11, [.ref b, .ref im, .ref la, .ref cu, .ref wa, .ref pa, .ref dr, .ref su, .ref mk, .ref vi, .ref re, .ref rd, .ref so, .ref fw, .ref wo, .ref gi])), (b, .inr (0, [.int 0, .ref to, .ref ro, .ref sl, .ref li, .ref ca, .ref ho, .ref ta, .int 0])), (ta, .inl (cy 0, 400, .inl (fun _ => 0)))] sz) (fun u : Unit => [])) (va_A [(x, .inr (11, [.ref b, .ref im, .ref la, .ref cu, .ref wa, .ref pa, .ref dr, .ref su, .ref mk, .ref vi, .ref re, .ref rd, .ref so, .ref fw, .ref wo, .ref gi])), (b, .inr (0, [.int 0, .ref to, .ref ro, .ref sl, .ref li, .ref ca, .ref ho, .ref ta, .int 0])), (ta, .inl (cy 0, 400, .inl (fun _ => 0)))] sz)) 0 0 (va_A [(x, .inr (11, [.ref b, .ref im, .ref la, .ref cu, .ref wa, .ref pa, .ref dr, .ref su, .ref mk, .ref vi, .ref re, .ref rd, .ref so, .ref fw, .ref wo, .ref gi])), (b, .inr (0, [.int 0, .ref to, .ref ro, .ref sl, .ref li, .ref ca, .ref ho, .ref ta, .int 0])), (ta, .inl (cy 0, 400, .inl (fun _ => 0)))] sz) := by
  refine Met.ofW (cc := cX11_feed) (maxL := 6) (ret := (some .int)) (by decide) rfl ?_
  intro p e s m args below meth c s₁ B hml hv
  obtain ⟨rfl, hsz, hP, hK, hD0, hN⟩ := hv
  have hx := B.exec
  have hb := B.bytes
  have hr := B.returns
  have hta := tl_hta (atoms_spec (ws := tl_w yX11_feed cX11_feed 6 (some .int)) B.pre)
  have hown : s.vm.findClass RX11 = some m.cls := findClass_of_methodNamed B.named
  have hlocks := B.notSynchronized
  subst hsz
  have hD := hD0.self (sz := s.heap.size)
  generalize hAe : va_A [(x, .inr (11, [.ref b, .ref im, .ref la, .ref cu, .ref wa, .ref pa, .ref dr, .ref su, .ref mk, .ref vi, .ref re, .ref rd, .ref so, .ref fw, .ref wo, .ref gi])), (b, .inr (0, [.int 0, .ref to, .ref ro, .ref sl, .ref li, .ref ca, .ref ho, .ref ta, .int 0])), (ta, .inl (cy 0, 400, .inl (fun _ => 0)))] s.heap.size = A at hD ⊢
  have hA : ∀ q : Nat, s.heap.size ≤ q → A q := fun q h => by rw [← hAe]; exact Or.inr h
  have hS : va_S A s.heap s.heap [] := va_S.rf
  have hP : va_P D vwCl [(x, .inr (11, [.ref b, .ref im, .ref la, .ref cu, .ref wa, .ref pa, .ref dr, .ref su, .ref mk, .ref vi, .ref re, .ref rd, .ref so, .ref fw, .ref wo, .ref gi])), (b, .inr (0, [.int 0, .ref to, .ref ro, .ref sl, .ref li, .ref ca, .ref ho, .ref ta, .int 0])), (ta, .inl (cy 0, 400, .inl (fun _ => 0)))] s.heap := hP
  have hl := lv_entry ([.ref x, .int p0, .int p1, .int p2, .int p3, .int p4]) (n := 6) (Nat.le_of_ble_eq_true rfl)
  rw [lg_entry_eq]
  generalize (lg_sl ([.ref x, .int p0, .int p1, .int p2, .int p3, .int p4]) ++ List.replicate (6 - (lg_sl ([.ref x, .int p0, .int p1, .int p2, .int p3, .int p4])).length) Slot.unset).toArray = ls at hl ⊢
  have hl : lv_has ls 6 [(0, .ref x), (1, .int p0), (2, .int p1), (3, .int p2), (4, .int p3), (5, .int p4)] := hl
  refine lv_aload_n hx hb dX11_feed_0 rfl (lv_at hl 0 rfl) ?_
  refine va_get (D := D) (ci := 11) (v := .ref b) (C := RX11) (T := TX11) (N := 16) hx hb hta inlX11 hown hK hP 0 rfl rfl 0 (by decide) (hta _ wk_15) (fun _ h9 => h9) rfl dX11_feed_1 ?_
  refine va_getN (D := D) (ci := 0) (v := .int 0) (C := RX0) (T := TX0) (N := 9) hx hb hta inlX0 hown hK hP 1 rfl rfl 8 (by decide) (va_Nw.use rfl (hN.1 26 _ nk_26)) (fun _ h9 => h9) rfl dX11_feed_4 ?_
  refine lv_sipush (v := 380) hx hb dX11_feed_7 (by decide) ?_
  refine lv_icmp_le (tgt := 15) hx hb dX11_feed_10 (by decide) (fun _ => ?_) (fun c => absurd c (by decide))
  refine lv_aload_n hx hb dX11_feed_15 rfl (lv_at hl 0 rfl) ?_
  refine va_get (D := D) (ci := 11) (v := .ref b) (C := RX11) (T := TX11) (N := 16) hx hb hta inlX11 hown hK hP 0 rfl rfl 0 (by decide) (hta _ wk_15) (fun _ h9 => h9) rfl dX11_feed_16 ?_
  refine lv_iload_n hx hb dX11_feed_19 rfl (lv_at hl 1 rfl) ?_
  have hPc := hP.sub (ws' := [(b, .inr (0, [.int 0, .ref to, .ref ro, .ref sl, .ref li, .ref ca, .ref ho, .ref ta, .int 0])), (ta, .inl (cy 0, 400, .inl (fun _ => 0)))]) [1, 2] rfl
  have hDc := hD.sub (ws' := [(b, .inr (0, [.int 0, .ref to, .ref ro, .ref sl, .ref li, .ref ca, .ref ho, .ref ta, .int 0])), (ta, .inl (cy 0, 400, .inl (fun _ => 0)))]) [1, 2] (by decide) rfl
  refine tl_cv (wr := [(x, .inr (11, [.ref b, .ref im, .ref la, .ref cu, .ref wa, .ref pa, .ref dr, .ref su, .ref mk, .ref vi, .ref re, .ref rd, .ref so, .ref fw, .ref wo, .ref gi]))]) _ _ hP hD hS hA [1, 2] [0] rfl rfl (by decide) (by decide) (tl_rVN (As := [.int p0]) (rest := []) ⟨hx, hb, hml, hown, hta⟩ hK hN hPc hDc (ci := 0) rfl 0 rfl lk_X11_179 (c_X0_append_0 l D cy s.heap.size b p0 to ro sl li ca ho ta (fun _ => 0) ) rfl rfl ⟨Nat.le_of_ble_eq_true rfl, Nat.le_of_ble_eq_true rfl⟩ rfl hl.1 rfl (Nat.le_of_ble_eq_true rfl) dX11_feed_20 ⟨Nat.le_of_ble_eq_true rfl, Nat.le_of_ble_eq_true rfl⟩) (fun u_3 H locs hw_1 hP hD hS => ?_)
  have hP : va_P D vwCl [(x, .inr (11, [.ref b, .ref im, .ref la, .ref cu, .ref wa, .ref pa, .ref dr, .ref su, .ref mk, .ref vi, .ref re, .ref rd, .ref so, .ref fw, .ref wo, .ref gi])), (b, .inr (0, [.int 0, .ref to, .ref ro, .ref sl, .ref li, .ref ca, .ref ho, .ref ta, .int 4])), (ta, .inl (cy 0, 400, .inl u_3))] H := hP
  have hD : va_D A [(x, .inr (11, [.ref b, .ref im, .ref la, .ref cu, .ref wa, .ref pa, .ref dr, .ref su, .ref mk, .ref vi, .ref re, .ref rd, .ref so, .ref fw, .ref wo, .ref gi])), (b, .inr (0, [.int 0, .ref to, .ref ro, .ref sl, .ref li, .ref ca, .ref ho, .ref ta, .int 4])), (ta, .inl (cy 0, 400, .inl u_3))] := hD
  refine W.widen (k := 0) (n := 0) (Nat.le_refl _) (Nat.le_refl _) ?_
  refine lv_aload_n hx hb dX11_feed_23 rfl (lv_at hl 0 rfl) ?_
  refine va_get (D := D) (ci := 11) (v := .ref b) (C := RX11) (T := TX11) (N := 16) hx hb hta inlX11 hown hK hP 0 rfl rfl 0 (by decide) (hta _ wk_15) (fun _ h9 => h9) rfl dX11_feed_24 ?_
  refine lv_iload_n hx hb dX11_feed_27 rfl (lv_at hl 2 rfl) ?_
  have hPc := hP.sub (ws' := [(b, .inr (0, [.int 0, .ref to, .ref ro, .ref sl, .ref li, .ref ca, .ref ho, .ref ta, .int 4])), (ta, .inl (cy 0, 400, .inl u_3))]) [1, 2] rfl
  have hDc := hD.sub (ws' := [(b, .inr (0, [.int 0, .ref to, .ref ro, .ref sl, .ref li, .ref ca, .ref ho, .ref ta, .int 4])), (ta, .inl (cy 0, 400, .inl u_3))]) [1, 2] (by decide) rfl
  refine tl_cv (wr := [(x, .inr (11, [.ref b, .ref im, .ref la, .ref cu, .ref wa, .ref pa, .ref dr, .ref su, .ref mk, .ref vi, .ref re, .ref rd, .ref so, .ref fw, .ref wo, .ref gi]))]) _ _ hP hD hS hA [1, 2] [0] rfl rfl (by decide) (by decide) (tl_rVN (As := [.int p1]) (rest := []) ⟨hx, hb, hml, hown, hta⟩ hK hN hPc hDc (ci := 0) rfl 0 rfl lk_X11_179 (c_X0_append_4 l D cy H.size b p1 to ro sl li ca ho ta u_3 ) rfl rfl ⟨Nat.le_of_ble_eq_true rfl, Nat.le_of_ble_eq_true rfl⟩ rfl hl.1 rfl (Nat.le_of_ble_eq_true rfl) dX11_feed_28 ⟨Nat.le_of_ble_eq_true rfl, Nat.le_of_ble_eq_true rfl⟩) (fun u_6 H locs hw_4 hP hD hS => ?_)
  have hP : va_P D vwCl [(x, .inr (11, [.ref b, .ref im, .ref la, .ref cu, .ref wa, .ref pa, .ref dr, .ref su, .ref mk, .ref vi, .ref re, .ref rd, .ref so, .ref fw, .ref wo, .ref gi])), (b, .inr (0, [.int 0, .ref to, .ref ro, .ref sl, .ref li, .ref ca, .ref ho, .ref ta, .int 8])), (ta, .inl (cy 0, 400, .inl u_6))] H := hP
  have hD : va_D A [(x, .inr (11, [.ref b, .ref im, .ref la, .ref cu, .ref wa, .ref pa, .ref dr, .ref su, .ref mk, .ref vi, .ref re, .ref rd, .ref so, .ref fw, .ref wo, .ref gi])), (b, .inr (0, [.int 0, .ref to, .ref ro, .ref sl, .ref li, .ref ca, .ref ho, .ref ta, .int 8])), (ta, .inl (cy 0, 400, .inl u_6))] := hD
  refine W.widen (k := 0) (n := 0) (Nat.le_refl _) (Nat.le_refl _) ?_
  refine lv_aload_n hx hb dX11_feed_31 rfl (lv_at hl 0 rfl) ?_
  refine va_get (D := D) (ci := 11) (v := .ref b) (C := RX11) (T := TX11) (N := 16) hx hb hta inlX11 hown hK hP 0 rfl rfl 0 (by decide) (hta _ wk_15) (fun _ h9 => h9) rfl dX11_feed_32 ?_
  refine lv_iload_n hx hb dX11_feed_35 rfl (lv_at hl 3 rfl) ?_
  have hPc := hP.sub (ws' := [(b, .inr (0, [.int 0, .ref to, .ref ro, .ref sl, .ref li, .ref ca, .ref ho, .ref ta, .int 8])), (ta, .inl (cy 0, 400, .inl u_6))]) [1, 2] rfl
  have hDc := hD.sub (ws' := [(b, .inr (0, [.int 0, .ref to, .ref ro, .ref sl, .ref li, .ref ca, .ref ho, .ref ta, .int 8])), (ta, .inl (cy 0, 400, .inl u_6))]) [1, 2] (by decide) rfl
  refine tl_cv (wr := [(x, .inr (11, [.ref b, .ref im, .ref la, .ref cu, .ref wa, .ref pa, .ref dr, .ref su, .ref mk, .ref vi, .ref re, .ref rd, .ref so, .ref fw, .ref wo, .ref gi]))]) _ _ hP hD hS hA [1, 2] [0] rfl rfl (by decide) (by decide) (tl_rVN (As := [.int p2]) (rest := []) ⟨hx, hb, hml, hown, hta⟩ hK hN hPc hDc (ci := 0) rfl 0 rfl lk_X11_179 (c_X0_append_8 l D cy H.size b p2 to ro sl li ca ho ta u_6 ) rfl rfl ⟨Nat.le_of_ble_eq_true rfl, Nat.le_of_ble_eq_true rfl⟩ rfl hl.1 rfl (Nat.le_of_ble_eq_true rfl) dX11_feed_36 ⟨Nat.le_of_ble_eq_true rfl, Nat.le_of_ble_eq_true rfl⟩) (fun u_9 H locs hw_7 hP hD hS => ?_)
  have hP : va_P D vwCl [(x, .inr (11, [.ref b, .ref im, .ref la, .ref cu, .ref wa, .ref pa, .ref dr, .ref su, .ref mk, .ref vi, .ref re, .ref rd, .ref so, .ref fw, .ref wo, .ref gi])), (b, .inr (0, [.int 0, .ref to, .ref ro, .ref sl, .ref li, .ref ca, .ref ho, .ref ta, .int 12])), (ta, .inl (cy 0, 400, .inl u_9))] H := hP
  have hD : va_D A [(x, .inr (11, [.ref b, .ref im, .ref la, .ref cu, .ref wa, .ref pa, .ref dr, .ref su, .ref mk, .ref vi, .ref re, .ref rd, .ref so, .ref fw, .ref wo, .ref gi])), (b, .inr (0, [.int 0, .ref to, .ref ro, .ref sl, .ref li, .ref ca, .ref ho, .ref ta, .int 12])), (ta, .inl (cy 0, 400, .inl u_9))] := hD
  refine W.widen (k := 0) (n := 0) (Nat.le_refl _) (Nat.le_refl _) ?_
  refine lv_aload_n hx hb dX11_feed_39 rfl (lv_at hl 0 rfl) ?_
  refine va_get (D := D) (ci := 11) (v := .ref b) (C := RX11) (T := TX11) (N := 16) hx hb hta inlX11 hown hK hP 0 rfl rfl 0 (by decide) (hta _ wk_15) (fun _ h9 => h9) rfl dX11_feed_40 ?_
  refine lv_iload hx hb dX11_feed_43 (lv_at hl 4 rfl) ?_
  have hPc := hP.sub (ws' := [(b, .inr (0, [.int 0, .ref to, .ref ro, .ref sl, .ref li, .ref ca, .ref ho, .ref ta, .int 12])), (ta, .inl (cy 0, 400, .inl u_9))]) [1, 2] rfl
  have hDc := hD.sub (ws' := [(b, .inr (0, [.int 0, .ref to, .ref ro, .ref sl, .ref li, .ref ca, .ref ho, .ref ta, .int 12])), (ta, .inl (cy 0, 400, .inl u_9))]) [1, 2] (by decide) rfl
  refine tl_cv (wr := [(x, .inr (11, [.ref b, .ref im, .ref la, .ref cu, .ref wa, .ref pa, .ref dr, .ref su, .ref mk, .ref vi, .ref re, .ref rd, .ref so, .ref fw, .ref wo, .ref gi]))]) _ _ hP hD hS hA [1, 2] [0] rfl rfl (by decide) (by decide) (tl_rVN (As := [.int p3]) (rest := []) ⟨hx, hb, hml, hown, hta⟩ hK hN hPc hDc (ci := 0) rfl 0 rfl lk_X11_179 (c_X0_append_12 l D cy H.size b p3 to ro sl li ca ho ta u_9 ) rfl rfl ⟨Nat.le_of_ble_eq_true rfl, Nat.le_of_ble_eq_true rfl⟩ rfl hl.1 rfl (Nat.le_of_ble_eq_true rfl) dX11_feed_45 ⟨Nat.le_of_ble_eq_true rfl, Nat.le_of_ble_eq_true rfl⟩) (fun u_12 H locs hw_10 hP hD hS => ?_)
  have hP : va_P D vwCl [(x, .inr (11, [.ref b, .ref im, .ref la, .ref cu, .ref wa, .ref pa, .ref dr, .ref su, .ref mk, .ref vi, .ref re, .ref rd, .ref so, .ref fw, .ref wo, .ref gi])), (b, .inr (0, [.int 0, .ref to, .ref ro, .ref sl, .ref li, .ref ca, .ref ho, .ref ta, .int 16])), (ta, .inl (cy 0, 400, .inl u_12))] H := hP
  have hD : va_D A [(x, .inr (11, [.ref b, .ref im, .ref la, .ref cu, .ref wa, .ref pa, .ref dr, .ref su, .ref mk, .ref vi, .ref re, .ref rd, .ref so, .ref fw, .ref wo, .ref gi])), (b, .inr (0, [.int 0, .ref to, .ref ro, .ref sl, .ref li, .ref ca, .ref ho, .ref ta, .int 16])), (ta, .inl (cy 0, 400, .inl u_12))] := hD
  refine W.widen (k := 0) (n := 0) (Nat.le_refl _) (Nat.le_refl _) ?_
  refine lv_aload_n hx hb dX11_feed_48 rfl (lv_at hl 0 rfl) ?_
  refine va_get (D := D) (ci := 11) (v := .ref b) (C := RX11) (T := TX11) (N := 16) hx hb hta inlX11 hown hK hP 0 rfl rfl 0 (by decide) (hta _ wk_15) (fun _ h9 => h9) rfl dX11_feed_49 ?_
  refine lv_iload hx hb dX11_feed_52 (lv_at hl 5 rfl) ?_
  have hPc := hP.sub (ws' := [(b, .inr (0, [.int 0, .ref to, .ref ro, .ref sl, .ref li, .ref ca, .ref ho, .ref ta, .int 16])), (ta, .inl (cy 0, 400, .inl u_12))]) [1, 2] rfl
  have hDc := hD.sub (ws' := [(b, .inr (0, [.int 0, .ref to, .ref ro, .ref sl, .ref li, .ref ca, .ref ho, .ref ta, .int 16])), (ta, .inl (cy 0, 400, .inl u_12))]) [1, 2] (by decide) rfl
  refine tl_cv (wr := [(x, .inr (11, [.ref b, .ref im, .ref la, .ref cu, .ref wa, .ref pa, .ref dr, .ref su, .ref mk, .ref vi, .ref re, .ref rd, .ref so, .ref fw, .ref wo, .ref gi]))]) _ _ hP hD hS hA [1, 2] [0] rfl rfl (by decide) (by decide) (tl_rVN (As := [.int p4]) (rest := []) ⟨hx, hb, hml, hown, hta⟩ hK hN hPc hDc (ci := 0) rfl 0 rfl lk_X11_179 (c_X0_append_16 l D cy H.size b p4 to ro sl li ca ho ta u_12 ) rfl rfl ⟨Nat.le_of_ble_eq_true rfl, Nat.le_of_ble_eq_true rfl⟩ rfl hl.1 rfl (Nat.le_of_ble_eq_true rfl) dX11_feed_54 ⟨Nat.le_of_ble_eq_true rfl, Nat.le_of_ble_eq_true rfl⟩) (fun u_15 H locs hw_13 hP hD hS => ?_)
  have hP : va_P D vwCl [(x, .inr (11, [.ref b, .ref im, .ref la, .ref cu, .ref wa, .ref pa, .ref dr, .ref su, .ref mk, .ref vi, .ref re, .ref rd, .ref so, .ref fw, .ref wo, .ref gi])), (b, .inr (0, [.int 0, .ref to, .ref ro, .ref sl, .ref li, .ref ca, .ref ho, .ref ta, .int 20])), (ta, .inl (cy 0, 400, .inl u_15))] H := hP
  have hD : va_D A [(x, .inr (11, [.ref b, .ref im, .ref la, .ref cu, .ref wa, .ref pa, .ref dr, .ref su, .ref mk, .ref vi, .ref re, .ref rd, .ref so, .ref fw, .ref wo, .ref gi])), (b, .inr (0, [.int 0, .ref to, .ref ro, .ref sl, .ref li, .ref ca, .ref ho, .ref ta, .int 20])), (ta, .inl (cy 0, 400, .inl u_15))] := hD
  refine W.widen (k := 0) (n := 0) (Nat.le_refl _) (Nat.le_refl _) ?_
  refine lv_aload_n hx hb dX11_feed_57 rfl (lv_at hl 0 rfl) ?_
  refine va_get (D := D) (ci := 11) (v := .ref b) (C := RX11) (T := TX11) (N := 16) hx hb hta inlX11 hown hK hP 0 rfl rfl 0 (by decide) (hta _ wk_15) (fun _ h9 => h9) rfl dX11_feed_58 ?_
  refine va_getN (D := D) (ci := 0) (v := .int 20) (C := RX0) (T := TX0) (N := 9) hx hb hta inlX0 hown hK hP 1 rfl rfl 8 (by decide) (va_Nw.use rfl (hN.1 26 _ nk_26)) (fun _ h9 => h9) rfl dX11_feed_61 ?_
  have hP9 := hP.sub (ws' := []) [] rfl
  have hD9 := hD.sub (ws' := []) [] (by decide) rfl
  exact W.iret (v := 20) hx hb hr (fun t ht hW => ⟨⟨_, (), rfl, rfl, by rw [ht]; exact hP9, hD9⟩, hS.F ht⟩) hS.2.2 dX11_feed_64

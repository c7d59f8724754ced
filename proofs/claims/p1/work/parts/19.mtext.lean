set_option maxHeartbeats 4000000 in
set_option maxRecDepth 100000 in
theorem c_X12_see_0 (l : Launch) (D : va_G) (cy : Nat → ClassId) (sz : Nat) (md : Nat) (m0 : Nat) (m1 : Nat) (m3 : Nat) (m4 : Nat) (m5 : Nat) (m6 : Nat) (m7 : Nat) (m8 : Nat) (m9 : Nat) (m10 : Nat) (m11 : Nat) (m12 : Nat) (m13 : Nat) (m14 : Nat) (m15 : Nat) (m16 : Nat) (m24 : Nat) (m26 : Nat) (m28 : Nat) (m30 : Nat) (m31 : Nat) (m35 : Nat) (m36 : Nat) (m38 : Nat) (m41 : Nat) (m42 : Nat) (m43 : Nat) (m44 : Nat) (m45 : Nat) (m46 : Nat) (m47 : Nat) (m48 : Nat)  : Met l yX12_see (tl_w yX12_see cX12_see 1 (some .int)) ({ frames := 0, cells := 0, slots := 0, locals := 0 }) (va_Pc [.ref md] (tl_P D cy [(md, .inr (12, [.ref m0, .ref m1, .int 0, .ref m3, .ref m4, .ref m5, .ref m6, .ref m7, .ref m8, .ref m9, .ref m10, .ref m11, .ref m12, .ref m13, .ref m14, .ref m15, .ref m16, .int 0, .int 0, .int 0, .int 0, .int 0, .int 0, .int 0, .ref m24, .int 0, .ref m26, .int 0, .ref m28, .long 0, .ref m30, .ref m31, .int 0, .int 0, .int 0, .ref m35, .ref m36, .int 0, .ref m38, .int 0, .int 0, .ref m41, .ref m42, .ref m43, .ref m44, .ref m45, .ref m46, .ref m47, .ref m48]))] sz)) (vp_Si (fun r : Int32 => r = (-1))) 0 0 (fun _ => False) := by
  refine Met.ofW (cc := cX12_see) (maxL := 1) (ret := (some .int)) (by decide) rfl ?_
  intro p e s m args below meth c s₁ B hml hv
  obtain ⟨rfl, hsz, hP, hK, hD0, hN⟩ := hv
  have hx := B.exec
  have hb := B.bytes
  have hr := B.returns
  have hta := tl_hta (atoms_spec (ws := tl_w yX12_see cX12_see 1 (some .int)) B.pre)
  have hown : s.vm.findClass RX12 = some m.cls := findClass_of_methodNamed B.named
  have hlocks := B.notSynchronized
  subst hsz
  have hD := hD0
  have hP : va_P D vwCl [(md, .inr (12, [.ref m0, .ref m1, .int 0, .ref m3, .ref m4, .ref m5, .ref m6, .ref m7, .ref m8, .ref m9, .ref m10, .ref m11, .ref m12, .ref m13, .ref m14, .ref m15, .ref m16, .int 0, .int 0, .int 0, .int 0, .int 0, .int 0, .int 0, .ref m24, .int 0, .ref m26, .int 0, .ref m28, .long 0, .ref m30, .ref m31, .int 0, .int 0, .int 0, .ref m35, .ref m36, .int 0, .ref m38, .int 0, .int 0, .ref m41, .ref m42, .ref m43, .ref m44, .ref m45, .ref m46, .ref m47, .ref m48]))] s.heap := hP
  have hl := lv_entry ([.ref md]) (n := 1) (Nat.le_of_ble_eq_true rfl)
  rw [lg_entry_eq]
  generalize (lg_sl ([.ref md]) ++ List.replicate (1 - (lg_sl ([.ref md])).length) Slot.unset).toArray = ls at hl ⊢
  have hl : lv_has ls 1 [(0, .ref md)] := hl
  refine lv_aload_n hx hb dX12_see_0 rfl (lv_at hl 0 rfl) ?_
  refine va_get (D := D) (ci := 12) (v := .int 0) (C := RX12) (T := TX12) (N := 49) hx hb hta inlX12 hown hK hP 0 rfl rfl 17 (by decide) (hta _ wk_539) (fun _ h9 => h9) rfl dX12_see_1 ?_
  refine lv_aload_n hx hb dX12_see_4 rfl (lv_at hl 0 rfl) ?_
  refine va_get (D := D) (ci := 12) (v := .int 0) (C := RX12) (T := TX12) (N := 49) hx hb hta inlX12 hown hK hP 0 rfl rfl 2 (by decide) (hta _ wk_347) (fun _ h9 => h9) rfl dX12_see_5 ?_
  refine lv_icmp_ge (tgt := 38) hx hb dX12_see_8 (by decide) (fun _ => ?_) (fun c => absurd c (by decide))
  refine lv_aload_n hx hb dX12_see_38 rfl (lv_at hl 0 rfl) ?_
  refine va_get (D := D) (ci := 12) (v := .int 0) (C := RX12) (T := TX12) (N := 49) hx hb hta inlX12 hown hK hP 0 rfl rfl 17 (by decide) (hta _ wk_539) (fun _ h9 => h9) rfl dX12_see_39 ?_
  refine lv_aload_n hx hb dX12_see_42 rfl (lv_at hl 0 rfl) ?_
  refine va_get (D := D) (ci := 12) (v := .int 0) (C := RX12) (T := TX12) (N := 49) hx hb hta inlX12 hown hK hP 0 rfl rfl 2 (by decide) (hta _ wk_347) (fun _ h9 => h9) rfl dX12_see_43 ?_
  refine lv_icmp_ge (tgt := 65) hx hb dX12_see_46 (by decide) (fun _ => ?_) (fun c => absurd c (by decide))
  refine lv_iconst (v := (-1)) hx hb dX12_see_65 (by decide) ?_
  exact W.iret (v := (-1)) hx hb hr (fun t ht hW => ⟨_, rfl, rfl, ht⟩) (fun q h => by cases h) dX12_see_66
set_option maxHeartbeats 4000000 in
set_option maxRecDepth 100000 in
theorem c_X12_isLetter_0 (l : Launch) (D : va_G) (cy : Nat → ClassId) (sz : Nat) (md : Nat) (m0 : Nat) (m1 : Nat) (m3 : Nat) (m4 : Nat) (m5 : Nat) (m6 : Nat) (m7 : Nat) (m8 : Nat) (m9 : Nat) (m10 : Nat) (m11 : Nat) (m12 : Nat) (m13 : Nat) (m14 : Nat) (m15 : Nat) (m16 : Nat) (m24 : Nat) (m26 : Nat) (m28 : Nat) (m30 : Nat) (m31 : Nat) (m35 : Nat) (m36 : Nat) (m38 : Nat) (m41 : Nat) (m42 : Nat) (m43 : Nat) (m44 : Nat) (m45 : Nat) (m46 : Nat) (m47 : Nat) (m48 : Nat)  : Met l yX12_isLetter (tl_w yX12_isLetter cX12_isLetter 2 (some .boolean)) ({ frames := 0, cells := 0, slots := 0, locals := 0 }) (va_Pc [.ref md, .int 0] (tl_P D cy [(md, .inr (12, [.ref m0, .ref m1, .int 0, .ref m3, .ref m4, .ref m5, .ref m6, .ref m7, .ref m8, .ref m9, .ref m10, .ref m11, .ref m12, .ref m13, .ref m14, .ref m15, .ref m16, .int 0, .int 0, .int 0, .int 0, .int 0, .int 0, .int 0, .ref m24, .int 0, .ref m26, .int 0, .ref m28, .long 0, .ref m30, .ref m31, .int 0, .int 0, .int 0, .ref m35, .ref m36, .int 0, .ref m38, .int 0, .int 0, .ref m41, .ref m42, .ref m43, .ref m44, .ref m45, .ref m46, .ref m47, .ref m48]))] sz)) (vp_Si (fun r : Int32 => r = 0)) 0 0 (fun _ => False) := by
  refine Met.ofW (cc := cX12_isLetter) (maxL := 2) (ret := (some .boolean)) (by decide) rfl ?_
  intro p e s m args below meth c s₁ B hml hv
  obtain ⟨rfl, hsz, hP, hK, hD0, hN⟩ := hv
  have hx := B.exec
  have hb := B.bytes
  have hr := B.returns
  have hta := tl_hta (atoms_spec (ws := tl_w yX12_isLetter cX12_isLetter 2 (some .boolean)) B.pre)
  have hown : s.vm.findClass RX12 = some m.cls := findClass_of_methodNamed B.named
  have hlocks := B.notSynchronized
  subst hsz
  have hD := hD0
  have hP : va_P D vwCl [(md, .inr (12, [.ref m0, .ref m1, .int 0, .ref m3, .ref m4, .ref m5, .ref m6, .ref m7, .ref m8, .ref m9, .ref m10, .ref m11, .ref m12, .ref m13, .ref m14, .ref m15, .ref m16, .int 0, .int 0, .int 0, .int 0, .int 0, .int 0, .int 0, .ref m24, .int 0, .ref m26, .int 0, .ref m28, .long 0, .ref m30, .ref m31, .int 0, .int 0, .int 0, .ref m35, .ref m36, .int 0, .ref m38, .int 0, .int 0, .ref m41, .ref m42, .ref m43, .ref m44, .ref m45, .ref m46, .ref m47, .ref m48]))] s.heap := hP
  have hl := lv_entry ([.ref md, .int 0]) (n := 2) (Nat.le_of_ble_eq_true rfl)
  rw [lg_entry_eq]
  generalize (lg_sl ([.ref md, .int 0]) ++ List.replicate (2 - (lg_sl ([.ref md, .int 0])).length) Slot.unset).toArray = ls at hl ⊢
  have hl : lv_has ls 2 [(0, .ref md), (1, .int 0)] := hl
  refine lv_iload_n hx hb dX12_isLetter_0 rfl (lv_at hl 1 rfl) ?_
  refine lv_aload_n hx hb dX12_isLetter_1 rfl (lv_at hl 0 rfl) ?_
  refine va_get (D := D) (ci := 12) (v := .int 0) (C := RX12) (T := TX12) (N := 49) hx hb hta inlX12 hown hK hP 0 rfl rfl 2 (by decide) (hta _ wk_347) (fun _ h9 => h9) rfl dX12_isLetter_2 ?_
  refine lv_icmp_ge (tgt := 34) hx hb dX12_isLetter_5 (by decide) (fun _ => ?_) (fun c => absurd c (by decide))
  refine lv_iconst (v := 0) hx hb dX12_isLetter_34 (by decide) ?_
  exact W.zret (ty := .boolean) (v := 0) hx hb hr rfl (fun t ht hW => ⟨_, rfl, rfl, ht⟩) (fun q h => by cases h) dX12_isLetter_35
set_option maxHeartbeats 4000000 in
set_option maxRecDepth 100000 in
theorem c_X12_isWord_0 (l : Launch) (D : va_G) (cy : Nat → ClassId) (sz : Nat) (md : Nat) (p0 : Int64) (m0 : Nat) (m1 : Nat) (m3 : Nat) (m4 : Nat) (m5 : Nat) (m6 : Nat) (m7 : Nat) (m8 : Nat) (m9 : Nat) (m10 : Nat) (m11 : Nat) (m12 : Nat) (m13 : Nat) (m14 : Nat) (m15 : Nat) (m16 : Nat) (m24 : Nat) (m26 : Nat) (m28 : Nat) (m30 : Nat) (m31 : Nat) (m35 : Nat) (m36 : Nat) (m38 : Nat) (m41 : Nat) (m42 : Nat) (m43 : Nat) (m44 : Nat) (m45 : Nat) (m46 : Nat) (m47 : Nat) (m48 : Nat)  : Met l yX12_isWord (tl_w yX12_isWord cX12_isWord 6 (some .boolean)) ({ frames := 1, cells := 0, slots := 0, locals := 21 }) (va_Pc [.ref md, .long p0] (tl_P D cy [(md, .inr (12, [.ref m0, .ref m1, .int 0, .ref m3, .ref m4, .ref m5, .ref m6, .ref m7, .ref m8, .ref m9, .ref m10, .ref m11, .ref m12, .ref m13, .ref m14, .ref m15, .ref m16, .int 0, .int 0, .int 0, .int 0, .int 0, .int 0, .int 0, .ref m24, .int 0, .ref m26, .int 0, .ref m28, .long 0, .ref m30, .ref m31, .int 0, .int 0, .int 0, .ref m35, .ref m36, .int 0, .ref m38, .int 0, .int 0, .ref m41, .ref m42, .ref m43, .ref m44, .ref m45, .ref m46, .ref m47, .ref m48]))] sz)) (vp_Si (fun r : Int32 => r = 0)) 0 0 (fun _ => False) := by
  refine Met.ofW (cc := cX12_isWord) (maxL := 6) (ret := (some .boolean)) (by decide) rfl ?_
  intro p e s m args below meth c s₁ B hml hv
  obtain ⟨rfl, hsz, hP, hK, hD0, hN⟩ := hv
  have hx := B.exec
  have hb := B.bytes
  have hr := B.returns
  have hta := tl_hta (atoms_spec (ws := tl_w yX12_isWord cX12_isWord 6 (some .boolean)) B.pre)
  have hown : s.vm.findClass RX12 = some m.cls := findClass_of_methodNamed B.named
  have hlocks := B.notSynchronized
  subst hsz
  have hD := hD0
  have hP : va_P D vwCl [(md, .inr (12, [.ref m0, .ref m1, .int 0, .ref m3, .ref m4, .ref m5, .ref m6, .ref m7, .ref m8, .ref m9, .ref m10, .ref m11, .ref m12, .ref m13, .ref m14, .ref m15, .ref m16, .int 0, .int 0, .int 0, .int 0, .int 0, .int 0, .int 0, .ref m24, .int 0, .ref m26, .int 0, .ref m28, .long 0, .ref m30, .ref m31, .int 0, .int 0, .int 0, .ref m35, .ref m36, .int 0, .ref m38, .int 0, .int 0, .ref m41, .ref m42, .ref m43, .ref m44, .ref m45, .ref m46, .ref m47, .ref m48]))] s.heap := hP
  have hl := lv_entry ([.ref md, .long p0]) (n := 6) (Nat.le_of_ble_eq_true rfl)
  rw [lg_entry_eq]
  generalize (lg_sl ([.ref md, .long p0]) ++ List.replicate (6 - (lg_sl ([.ref md, .long p0])).length) Slot.unset).toArray = ls at hl ⊢
  have hl : lv_has ls 6 [(0, .ref md), (1, .long p0)] := hl
  refine lv_aload_n hx hb dX12_isWord_0 rfl (lv_at hl 0 rfl) ?_
  refine tl_si (tl_rV (As := []) (rest := []) ⟨hx, hb, hml, hown, hta⟩ hK hN hP hD (ci := 12) rfl 0 rfl lk_X12_167 (c_X12_see_0 l D cy s.heap.size md m0 m1 m3 m4 m5 m6 m7 m8 m9 m10 m11 m12 m13 m14 m15 m16 m24 m26 m28 m30 m31 m35 m36 m38 m41 m42 m43 m44 m45 m46 m47 m48 ) rfl rfl ⟨Nat.le_of_ble_eq_true rfl, Nat.le_of_ble_eq_true rfl⟩ rfl hl.1 rfl (Nat.le_of_ble_eq_true rfl) dX12_isWord_1 ⟨Nat.le_of_ble_eq_true rfl, Nat.le_of_ble_eq_true rfl⟩) (fun r_2 hw_1 => ?_)
  subst hw_1
  refine lv_pop hx hb dX12_isWord_4 rfl ?_
  refine lv_lconst (v := 0) hx hb dX12_isWord_5 (by decide) ?_
  refine lv_lstore_n (lv' := [(3, .long 0), (0, .ref md), (1, .long p0)]) hx hb dX12_isWord_6 rfl hl (by decide) rfl (fun ls hl => ?_)
  refine lv_iconst (v := 0) hx hb dX12_isWord_7 (by decide) ?_
  refine lv_istore (lv' := [(5, .int 0), (3, .long 0), (0, .ref md), (1, .long p0)]) hx hb dX12_isWord_8 hl (by decide) rfl (fun ls hl => ?_)
  refine lv_aload_n hx hb dX12_isWord_10 rfl (lv_at hl 2 rfl) ?_
  refine lv_aload_n hx hb dX12_isWord_11 rfl (lv_at hl 2 rfl) ?_
  refine va_get (D := D) (ci := 12) (v := .int 0) (C := RX12) (T := TX12) (N := 49) hx hb hta inlX12 hown hK hP 0 rfl rfl 17 (by decide) (hta _ wk_539) (fun _ h9 => h9) rfl dX12_isWord_12 ?_
  refine lv_iload hx hb dX12_isWord_15 (lv_at hl 0 rfl) ?_
  refine lv_iadd hx hb dX12_isWord_17 ?_
  refine lv_topi (fun z_3 ez_3 => ?_)
  obtain rfl : z_3 = (0 : Int32) := ez_3.trans (by decide)
  refine tl_si (tl_rV (As := [.int 0]) (rest := []) ⟨hx, hb, hml, hown, hta⟩ hK hN hP hD (ci := 12) rfl 0 rfl lk_X12_171 (c_X12_isLetter_0 l D cy s.heap.size md m0 m1 m3 m4 m5 m6 m7 m8 m9 m10 m11 m12 m13 m14 m15 m16 m24 m26 m28 m30 m31 m35 m36 m38 m41 m42 m43 m44 m45 m46 m47 m48 ) rfl rfl ⟨Nat.le_of_ble_eq_true rfl, Nat.le_of_ble_eq_true rfl⟩ rfl hl.1 rfl (Nat.le_of_ble_eq_true rfl) dX12_isWord_18 ⟨Nat.le_of_ble_eq_true rfl, Nat.le_of_ble_eq_true rfl⟩) (fun r_5 hw_4 => ?_)
  subst hw_4
  refine lv_if_eq (tgt := 56) hx hb dX12_isWord_21 (by decide) (fun _ => ?_) (fun c => absurd c (by decide))
  refine lv_iload hx hb dX12_isWord_56 (lv_at hl 0 rfl) ?_
  refine lv_if_le (tgt := 78) hx hb dX12_isWord_58 (by decide) (fun _ => ?_) (fun c => absurd c (by decide))
  refine lv_iconst (v := 0) hx hb dX12_isWord_78 (by decide) ?_
  exact W.zret (ty := .boolean) (v := 0) hx hb hr rfl (fun t ht hW => ⟨_, rfl, rfl, ht⟩) (fun q h => by cases h) dX12_isWord_79
set_option maxHeartbeats 4000000 in
set_option maxRecDepth 100000 in
theorem c_X12_kindOf_0 (l : Launch) (D : va_G) (cy : Nat → ClassId) (sz : Nat) (md : Nat) (m0 : Nat) (m1 : Nat) (m3 : Nat) (m4 : Nat) (m5 : Nat) (m6 : Nat) (m7 : Nat) (m8 : Nat) (m9 : Nat) (m10 : Nat) (m11 : Nat) (m12 : Nat) (m13 : Nat) (m14 : Nat) (m15 : Nat) (m16 : Nat) (m24 : Nat) (m26 : Nat) (m28 : Nat) (m30 : Nat) (m31 : Nat) (m35 : Nat) (m36 : Nat) (m38 : Nat) (m41 : Nat) (m42 : Nat) (m43 : Nat) (m44 : Nat) (m45 : Nat) (m46 : Nat) (m47 : Nat) (m48 : Nat)  : Met l yX12_kindOf (tl_w yX12_kindOf cX12_kindOf 2 (some .int)) ({ frames := 0, cells := 0, slots := 0, locals := 0 }) (va_Pc [.ref md, .int 0] (tl_P D cy [(md, .inr (12, [.ref m0, .ref m1, .int 0, .ref m3, .ref m4, .ref m5, .ref m6, .ref m7, .ref m8, .ref m9, .ref m10, .ref m11, .ref m12, .ref m13, .ref m14, .ref m15, .ref m16, .int 0, .int 0, .int 0, .int 0, .int 0, .int 0, .int 0, .ref m24, .int 0, .ref m26, .int 0, .ref m28, .long 0, .ref m30, .ref m31, .int 0, .int 0, .int 0, .ref m35, .ref m36, .int 0, .ref m38, .int 0, .int 0, .ref m41, .ref m42, .ref m43, .ref m44, .ref m45, .ref m46, .ref m47, .ref m48]))] sz)) (vp_Si (fun r : Int32 => r = 0)) 0 0 (fun _ => False) := by
  refine Met.ofW (cc := cX12_kindOf) (maxL := 2) (ret := (some .int)) (by decide) rfl ?_
  intro p e s m args below meth c s₁ B hml hv
  obtain ⟨rfl, hsz, hP, hK, hD0, hN⟩ := hv
  have hx := B.exec
  have hb := B.bytes
  have hr := B.returns
  have hta := tl_hta (atoms_spec (ws := tl_w yX12_kindOf cX12_kindOf 2 (some .int)) B.pre)
  have hown : s.vm.findClass RX12 = some m.cls := findClass_of_methodNamed B.named
  have hlocks := B.notSynchronized
  subst hsz
  have hD := hD0
  have hP : va_P D vwCl [(md, .inr (12, [.ref m0, .ref m1, .int 0, .ref m3, .ref m4, .ref m5, .ref m6, .ref m7, .ref m8, .ref m9, .ref m10, .ref m11, .ref m12, .ref m13, .ref m14, .ref m15, .ref m16, .int 0, .int 0, .int 0, .int 0, .int 0, .int 0, .int 0, .ref m24, .int 0, .ref m26, .int 0, .ref m28, .long 0, .ref m30, .ref m31, .int 0, .int 0, .int 0, .ref m35, .ref m36, .int 0, .ref m38, .int 0, .int 0, .ref m41, .ref m42, .ref m43, .ref m44, .ref m45, .ref m46, .ref m47, .ref m48]))] s.heap := hP
  have hl := lv_entry ([.ref md, .int 0]) (n := 2) (Nat.le_of_ble_eq_true rfl)
  rw [lg_entry_eq]
  generalize (lg_sl ([.ref md, .int 0]) ++ List.replicate (2 - (lg_sl ([.ref md, .int 0])).length) Slot.unset).toArray = ls at hl ⊢
  have hl : lv_has ls 2 [(0, .ref md), (1, .int 0)] := hl
  refine lv_iload_n hx hb dX12_kindOf_0 rfl (lv_at hl 1 rfl) ?_
  refine lv_bipush (v := 6) hx hb dX12_kindOf_1 (by decide) ?_
  refine lv_icmp_ge (tgt := 10) hx hb dX12_kindOf_3 (by decide) (fun c => absurd c (by decide)) (fun _ => ?_)
  refine lv_iconst (v := 0) hx hb dX12_kindOf_6 (by decide) ?_
  refine lv_goto (tgt := 21) hx hb dX12_kindOf_7 (by decide) ?_
  exact W.iret (v := 0) hx hb hr (fun t ht hW => ⟨_, rfl, rfl, ht⟩) (fun q h => by cases h) dX12_kindOf_21
set_option maxHeartbeats 4000000 in
set_option maxRecDepth 100000 in
theorem c_X12_fails_0 (l : Launch) (D : va_G) (cy : Nat → ClassId) (sz : Nat) (md : Nat) (m0 : Nat) (m1 : Nat) (m3 : Nat) (m4 : Nat) (m5 : Nat) (m6 : Nat) (m7 : Nat) (m8 : Nat) (m9 : Nat) (m10 : Nat) (m11 : Nat) (m12 : Nat) (m13 : Nat) (m14 : Nat) (m15 : Nat) (m16 : Nat) (m24 : Nat) (m26 : Nat) (m28 : Nat) (m30 : Nat) (m31 : Nat) (m35 : Nat) (m36 : Nat) (m38 : Nat) (m41 : Nat) (m42 : Nat) (m43 : Nat) (m44 : Nat) (m45 : Nat) (m46 : Nat) (m47 : Nat) (m48 : Nat)  : Met l yX12_fails (tl_w yX12_fails cX12_fails 3 (some .boolean)) ({ frames := 0, cells := 0, slots := 0, locals := 0 }) (va_Pc [.ref md, .int 0, .int 0] (tl_P D cy [(md, .inr (12, [.ref m0, .ref m1, .int 0, .ref m3, .ref m4, .ref m5, .ref m6, .ref m7, .ref m8, .ref m9, .ref m10, .ref m11, .ref m12, .ref m13, .ref m14, .ref m15, .ref m16, .int 0, .int 0, .int 0, .int 0, .int 0, .int 0, .int 0, .ref m24, .int 0, .ref m26, .int 0, .ref m28, .long 0, .ref m30, .ref m31, .int 0, .int 0, .int 0, .ref m35, .ref m36, .int 0, .ref m38, .int 0, .int 0, .ref m41, .ref m42, .ref m43, .ref m44, .ref m45, .ref m46, .ref m47, .ref m48]))] sz)) (va_Qi (fun (r : Int32) (u : Unit) => r = 0) (tl_B D (va_A [(md, .inr (12, [.ref m0, .ref m1, .int 0, .ref m3, .ref m4, .ref m5, .ref m6, .ref m7, .ref m8, .ref m9, .ref m10, .ref m11, .ref m12, .ref m13, .ref m14, .ref m15, .ref m16, .int 0, .int 0, .int 0, .int 0, .int 0, .int 0, .int 0, .ref m24, .int 0, .ref m26, .int 0, .ref m28, .long 0, .ref m30, .ref m31, .int 0, .int 0, .int 0, .ref m35, .ref m36, .int 0, .ref m38, .int 0, .int 0, .ref m41, .ref m42, .ref m43, .ref m44, .ref m45, .ref m46, .ref m47, .ref m48]))] sz) (fun u : Unit => [(md, .inr (12, [.ref m0, .ref m1, .int 0, .ref m3, .ref m4, .ref m5, .ref m6, .ref m7, .ref m8, .ref m9, .ref m10, .ref m11, .ref m12, .ref m13, .ref m14, .ref m15, .ref m16, .int 0, .int 1, .int 0, .int 0, .int 0, .int 0, .int 0, .ref m24, .int 0, .ref m26, .int 0, .ref m28, .long 0, .ref m30, .ref m31, .int 0, .int 0, .int 0, .ref m35, .ref m36, .int 0, .ref m38, .int 0, .int 0, .ref m41, .ref m42, .ref m43, .ref m44, .ref m45, .ref m46, .ref m47, .ref m48]))])) (va_A [(md, .inr (12, [.ref m0, .ref m1, .int 0, .ref m3, .ref m4, .ref m5, .ref m6, .ref m7, .ref m8, .ref m9, .ref m10, .ref m11, .ref m12, .ref m13, .ref m14, .ref m15, .ref m16, .int 0, .int 0, .int 0, .int 0, .int 0, .int 0, .int 0, .ref m24, .int 0, .ref m26, .int 0, .ref m28, .long 0, .ref m30, .ref m31, .int 0, .int 0, .int 0, .ref m35, .ref m36, .int 0, .ref m38, .int 0, .int 0, .ref m41, .ref m42, .ref m43, .ref m44, .ref m45, .ref m46, .ref m47, .ref m48]))] sz)) 0 0 (va_A [(md, .inr (12, [.ref m0, .ref m1, .int 0, .ref m3, .ref m4, .ref m5, .ref m6, .ref m7, .ref m8, .ref m9, .ref m10, .ref m11, .ref m12, .ref m13, .ref m14, .ref m15, .ref m16, .int 0, .int 0, .int 0, .int 0, .int 0, .int 0, .int 0, .ref m24, .int 0, .ref m26, .int 0, .ref m28, .long 0, .ref m30, .ref m31, .int 0, .int 0, .int 0, .ref m35, .ref m36, .int 0, .ref m38, .int 0, .int 0, .ref m41, .ref m42, .ref m43, .ref m44, .ref m45, .ref m46, .ref m47, .ref m48]))] sz) := by
  refine Met.ofW (cc := cX12_fails) (maxL := 3) (ret := (some .boolean)) (by decide) rfl ?_
  intro p e s m args below meth c s₁ B hml hv
  obtain ⟨rfl, hsz, hP, hK, hD0, hN⟩ := hv
  have hx := B.exec
  have hb := B.bytes
  have hr := B.returns
  have hta := tl_hta (atoms_spec (ws := tl_w yX12_fails cX12_fails 3 (some .boolean)) B.pre)
  have hown : s.vm.findClass RX12 = some m.cls := findClass_of_methodNamed B.named
  have hlocks := B.notSynchronized
  subst hsz
  have hD := hD0.self (sz := s.heap.size)
  generalize hAe : va_A [(md, .inr (12, [.ref m0, .ref m1, .int 0, .ref m3, .ref m4, .ref m5, .ref m6, .ref m7, .ref m8, .ref m9, .ref m10, .ref m11, .ref m12, .ref m13, .ref m14, .ref m15, .ref m16, .int 0, .int 0, .int 0, .int 0, .int 0, .int 0, .int 0, .ref m24, .int 0, .ref m26, .int 0, .ref m28, .long 0, .ref m30, .ref m31, .int 0, .int 0, .int 0, .ref m35, .ref m36, .int 0, .ref m38, .int 0, .int 0, .ref m41, .ref m42, .ref m43, .ref m44, .ref m45, .ref m46, .ref m47, .ref m48]))] s.heap.size = A at hD ⊢
  have hA : ∀ q : Nat, s.heap.size ≤ q → A q := fun q h => by rw [← hAe]; exact Or.inr h
  have hS : va_S A s.heap s.heap [] := va_S.rf
  have hP : va_P D vwCl [(md, .inr (12, [.ref m0, .ref m1, .int 0, .ref m3, .ref m4, .ref m5, .ref m6, .ref m7, .ref m8, .ref m9, .ref m10, .ref m11, .ref m12, .ref m13, .ref m14, .ref m15, .ref m16, .int 0, .int 0, .int 0, .int 0, .int 0, .int 0, .int 0, .ref m24, .int 0, .ref m26, .int 0, .ref m28, .long 0, .ref m30, .ref m31, .int 0, .int 0, .int 0, .ref m35, .ref m36, .int 0, .ref m38, .int 0, .int 0, .ref m41, .ref m42, .ref m43, .ref m44, .ref m45, .ref m46, .ref m47, .ref m48]))] s.heap := hP
  have hl := lv_entry ([.ref md, .int 0, .int 0]) (n := 3) (Nat.le_of_ble_eq_true rfl)
  rw [lg_entry_eq]
  generalize (lg_sl ([.ref md, .int 0, .int 0]) ++ List.replicate (3 - (lg_sl ([.ref md, .int 0, .int 0])).length) Slot.unset).toArray = ls at hl ⊢
  have hl : lv_has ls 3 [(0, .ref md), (1, .int 0), (2, .int 0)] := hl
  refine lv_aload_n hx hb dX12_fails_0 rfl (lv_at hl 0 rfl) ?_
  refine va_get (D := D) (ci := 12) (v := .int 0) (C := RX12) (T := TX12) (N := 49) hx hb hta inlX12 hown hK hP 0 rfl rfl 18 (by decide) (hta _ wk_540) (fun _ h9 => h9) rfl dX12_fails_1 ?_
  refine lv_if_ne (tgt := 19) hx hb dX12_fails_4 (by decide) (fun c => absurd c (by decide)) (fun _ => ?_)
  refine lv_aload_n hx hb dX12_fails_7 rfl (lv_at hl 0 rfl) ?_
  refine lv_iconst (v := 1) hx hb dX12_fails_8 (by decide) ?_
  refine lv_bipush (v := 8) hx hb dX12_fails_9 (by decide) ?_
  refine lv_iload_n hx hb dX12_fails_11 rfl (lv_at hl 2 rfl) ?_
  refine lv_imul hx hb dX12_fails_12 ?_
  refine lv_topi (fun z_1 ez_1 => ?_)
  obtain rfl : z_1 = (0 : Int32) := ez_1.trans (by decide)
  refine lv_iadd hx hb dX12_fails_13 ?_
  refine lv_topi (fun z_2 ez_2 => ?_)
  obtain rfl : z_2 = (1 : Int32) := ez_2.trans (by decide)
  refine lv_iload_n hx hb dX12_fails_14 rfl (lv_at hl 1 rfl) ?_
  refine lv_iadd hx hb dX12_fails_15 ?_
  refine lv_topi (fun z_3 ez_3 => ?_)
  obtain rfl : z_3 = (1 : Int32) := ez_3.trans (by decide)
  refine va_put (D := D) (ci := 12) (v := .int 1) (ty := tyX12 18) (C := RX12) (T := TX12) (N := 49) hx hb hta inlX12 tyX12 tyX12_ok nmX12 hown hK hP hD hS 0 rfl rfl 18 (by decide) (hta _ wk_540) (fun _ h9 => h9) rfl (tyX12_ok 18 (by decide)) rfl rfl (Nat.le_of_ble_eq_true rfl) dX12_fails_16 (fun H locs hP hD hS => ?_)
  have hP : va_P D vwCl [(md, .inr (12, [.ref m0, .ref m1, .int 0, .ref m3, .ref m4, .ref m5, .ref m6, .ref m7, .ref m8, .ref m9, .ref m10, .ref m11, .ref m12, .ref m13, .ref m14, .ref m15, .ref m16, .int 0, .int 1, .int 0, .int 0, .int 0, .int 0, .int 0, .ref m24, .int 0, .ref m26, .int 0, .ref m28, .long 0, .ref m30, .ref m31, .int 0, .int 0, .int 0, .ref m35, .ref m36, .int 0, .ref m38, .int 0, .int 0, .ref m41, .ref m42, .ref m43, .ref m44, .ref m45, .ref m46, .ref m47, .ref m48]))] H := hP
  have hD : va_D A [(md, .inr (12, [.ref m0, .ref m1, .int 0, .ref m3, .ref m4, .ref m5, .ref m6, .ref m7, .ref m8, .ref m9, .ref m10, .ref m11, .ref m12, .ref m13, .ref m14, .ref m15, .ref m16, .int 0, .int 1, .int 0, .int 0, .int 0, .int 0, .int 0, .ref m24, .int 0, .ref m26, .int 0, .ref m28, .long 0, .ref m30, .ref m31, .int 0, .int 0, .int 0, .ref m35, .ref m36, .int 0, .ref m38, .int 0, .int 0, .ref m41, .ref m42, .ref m43, .ref m44, .ref m45, .ref m46, .ref m47, .ref m48]))] := hD
  refine lv_iconst (v := 0) hx hb dX12_fails_19 (by decide) ?_
  have hP9 := hP.sub (ws' := [(md, .inr (12, [.ref m0, .ref m1, .int 0, .ref m3, .ref m4, .ref m5, .ref m6, .ref m7, .ref m8, .ref m9, .ref m10, .ref m11, .ref m12, .ref m13, .ref m14, .ref m15, .ref m16, .int 0, .int 1, .int 0, .int 0, .int 0, .int 0, .int 0, .ref m24, .int 0, .ref m26, .int 0, .ref m28, .long 0, .ref m30, .ref m31, .int 0, .int 0, .int 0, .ref m35, .ref m36, .int 0, .ref m38, .int 0, .int 0, .ref m41, .ref m42, .ref m43, .ref m44, .ref m45, .ref m46, .ref m47, .ref m48]))]) [0] rfl
  have hD9 := hD.sub (ws' := [(md, .inr (12, [.ref m0, .ref m1, .int 0, .ref m3, .ref m4, .ref m5, .ref m6, .ref m7, .ref m8, .ref m9, .ref m10, .ref m11, .ref m12, .ref m13, .ref m14, .ref m15, .ref m16, .int 0, .int 1, .int 0, .int 0, .int 0, .int 0, .int 0, .ref m24, .int 0, .ref m26, .int 0, .ref m28, .long 0, .ref m30, .ref m31, .int 0, .int 0, .int 0, .ref m35, .ref m36, .int 0, .ref m38, .int 0, .int 0, .ref m41, .ref m42, .ref m43, .ref m44, .ref m45, .ref m46, .ref m47, .ref m48]))]) [0] (by decide) rfl
  exact W.zret (ty := .boolean) (v := 0) hx hb hr rfl (fun t ht hW => ⟨⟨_, (), rfl, rfl, by rw [ht]; exact hP9, hD9⟩, hS.F ht⟩) hS.2.2 dX12_fails_20
set_option maxHeartbeats 4000000 in
set_option maxRecDepth 100000 in
theorem c_X12_clauseHere_0 (l : Launch) (D : va_G) (cy : Nat → ClassId) (sz : Nat) (md : Nat) (m0 : Nat) (m1 : Nat) (m3 : Nat) (m4 : Nat) (m5 : Nat) (m6 : Nat) (m7 : Nat) (m8 : Nat) (m9 : Nat) (m10 : Nat) (m11 : Nat) (m12 : Nat) (m13 : Nat) (m14 : Nat) (m15 : Nat) (m16 : Nat) (m24 : Nat) (m26 : Nat) (m28 : Nat) (m30 : Nat) (m31 : Nat) (m35 : Nat) (m36 : Nat) (m38 : Nat) (m41 : Nat) (m42 : Nat) (m43 : Nat) (m44 : Nat) (m45 : Nat) (m46 : Nat) (m47 : Nat) (m48 : Nat)  : Met l yX12_clauseHere (tl_w yX12_clauseHere cX12_clauseHere 4 (some .boolean)) ({ frames := 2, cells := 0, slots := 0, locals := 46 }) (va_Pc [.ref md] (tl_P D cy [(md, .inr (12, [.ref m0, .ref m1, .int 0, .ref m3, .ref m4, .ref m5, .ref m6, .ref m7, .ref m8, .ref m9, .ref m10, .ref m11, .ref m12, .ref m13, .ref m14, .ref m15, .ref m16, .int 0, .int 0, .int 0, .int 0, .int 0, .int 0, .int 0, .ref m24, .int 0, .ref m26, .int 0, .ref m28, .long 0, .ref m30, .ref m31, .int 0, .int 0, .int 0, .ref m35, .ref m36, .int 0, .ref m38, .int 0, .int 0, .ref m41, .ref m42, .ref m43, .ref m44, .ref m45, .ref m46, .ref m47, .ref m48]))] sz)) (va_Qi (fun (r : Int32) (u : Unit) => r = 0) (tl_B D (va_A [(md, .inr (12, [.ref m0, .ref m1, .int 0, .ref m3, .ref m4, .ref m5, .ref m6, .ref m7, .ref m8, .ref m9, .ref m10, .ref m11, .ref m12, .ref m13, .ref m14, .ref m15, .ref m16, .int 0, .int 0, .int 0, .int 0, .int 0, .int 0, .int 0, .ref m24, .int 0, .ref m26, .int 0, .ref m28, .long 0, .ref m30, .ref m31, .int 0, .int 0, .int 0, .ref m35, .ref m36, .int 0, .ref m38, .int 0, .int 0, .ref m41, .ref m42, .ref m43, .ref m44, .ref m45, .ref m46, .ref m47, .ref m48]))] sz) (fun u : Unit => [(md, .inr (12, [.ref m0, .ref m1, .int 0, .ref m3, .ref m4, .ref m5, .ref m6, .ref m7, .ref m8, .ref m9, .ref m10, .ref m11, .ref m12, .ref m13, .ref m14, .ref m15, .ref m16, .int 0, .int 1, .int 0, .int 0, .int 0, .int 0, .int 0, .ref m24, .int 0, .ref m26, .int 0, .ref m28, .long 0, .ref m30, .ref m31, .int 0, .int 0, .int 0, .ref m35, .ref m36, .int 0, .ref m38, .int 0, .int 0, .ref m41, .ref m42, .ref m43, .ref m44, .ref m45, .ref m46, .ref m47, .ref m48]))])) (va_A [(md, .inr (12, [.ref m0, .ref m1, .int 0, .ref m3, .ref m4, .ref m5, .ref m6, .ref m7, .ref m8, .ref m9, .ref m10, .ref m11, .ref m12, .ref m13, .ref m14, .ref m15, .ref m16, .int 0, .int 0, .int 0, .int 0, .int 0, .int 0, .int 0, .ref m24, .int 0, .ref m26, .int 0, .ref m28, .long 0, .ref m30, .ref m31, .int 0, .int 0, .int 0, .ref m35, .ref m36, .int 0, .ref m38, .int 0, .int 0, .ref m41, .ref m42, .ref m43, .ref m44, .ref m45, .ref m46, .ref m47, .ref m48]))] sz)) 0 0 (va_A [(md, .inr (12, [.ref m0, .ref m1, .int 0, .ref m3, .ref m4, .ref m5, .ref m6, .ref m7, .ref m8, .ref m9, .ref m10, .ref m11, .ref m12, .ref m13, .ref m14, .ref m15, .ref m16, .int 0, .int 0, .int 0, .int 0, .int 0, .int 0, .int 0, .ref m24, .int 0, .ref m26, .int 0, .ref m28, .long 0, .ref m30, .ref m31, .int 0, .int 0, .int 0, .ref m35, .ref m36, .int 0, .ref m38, .int 0, .int 0, .ref m41, .ref m42, .ref m43, .ref m44, .ref m45, .ref m46, .ref m47, .ref m48]))] sz) := by
  refine Met.ofW (cc := cX12_clauseHere) (maxL := 4) (ret := (some .boolean)) (by decide) rfl ?_
  intro p e s m args below meth c s₁ B hml hv
  obtain ⟨rfl, hsz, hP, hK, hD0, hN⟩ := hv
  have hx := B.exec
  have hb := B.bytes
  have hr := B.returns
  have hta := tl_hta (atoms_spec (ws := tl_w yX12_clauseHere cX12_clauseHere 4 (some .boolean)) B.pre)
  have hown : s.vm.findClass RX12 = some m.cls := findClass_of_methodNamed B.named
  have hlocks := B.notSynchronized
  subst hsz
  have hD := hD0.self (sz := s.heap.size)
  generalize hAe : va_A [(md, .inr (12, [.ref m0, .ref m1, .int 0, .ref m3, .ref m4, .ref m5, .ref m6, .ref m7, .ref m8, .ref m9, .ref m10, .ref m11, .ref m12, .ref m13, .ref m14, .ref m15, .ref m16, .int 0, .int 0, .int 0, .int 0, .int 0, .int 0, .int 0, .ref m24, .int 0, .ref m26, .int 0, .ref m28, .long 0, .ref m30, .ref m31, .int 0, .int 0, .int 0, .ref m35, .ref m36, .int 0, .ref m38, .int 0, .int 0, .ref m41, .ref m42, .ref m43, .ref m44, .ref m45, .ref m46, .ref m47, .ref m48]))] s.heap.size = A at hD ⊢
  have hA : ∀ q : Nat, s.heap.size ≤ q → A q := fun q h => by rw [← hAe]; exact Or.inr h
  have hS : va_S A s.heap s.heap [] := va_S.rf
  have hP : va_P D vwCl [(md, .inr (12, [.ref m0, .ref m1, .int 0, .ref m3, .ref m4, .ref m5, .ref m6, .ref m7, .ref m8, .ref m9, .ref m10, .ref m11, .ref m12, .ref m13, .ref m14, .ref m15, .ref m16, .int 0, .int 0, .int 0, .int 0, .int 0, .int 0, .int 0, .ref m24, .int 0, .ref m26, .int 0, .ref m28, .long 0, .ref m30, .ref m31, .int 0, .int 0, .int 0, .ref m35, .ref m36, .int 0, .ref m38, .int 0, .int 0, .ref m41, .ref m42, .ref m43, .ref m44, .ref m45, .ref m46, .ref m47, .ref m48]))] s.heap := hP
  have hl := lv_entry ([.ref md]) (n := 4) (Nat.le_of_ble_eq_true rfl)
  rw [lg_entry_eq]
  generalize (lg_sl ([.ref md]) ++ List.replicate (4 - (lg_sl ([.ref md])).length) Slot.unset).toArray = ls at hl ⊢
  have hl : lv_has ls 4 [(0, .ref md)] := hl
  refine lv_aload_n hx hb dX12_clauseHere_0 rfl (lv_at hl 0 rfl) ?_
  refine tl_si (tl_rV (As := []) (rest := []) ⟨hx, hb, hml, hown, hta⟩ hK hN hP hD (ci := 12) rfl 0 rfl lk_X12_167 (c_X12_see_0 l D cy s.heap.size md m0 m1 m3 m4 m5 m6 m7 m8 m9 m10 m11 m12 m13 m14 m15 m16 m24 m26 m28 m30 m31 m35 m36 m38 m41 m42 m43 m44 m45 m46 m47 m48 ) rfl rfl ⟨Nat.le_of_ble_eq_true rfl, Nat.le_of_ble_eq_true rfl⟩ rfl hl.1 rfl (Nat.le_of_ble_eq_true rfl) dX12_clauseHere_1 ⟨Nat.le_of_ble_eq_true rfl, Nat.le_of_ble_eq_true rfl⟩) (fun r_2 hw_1 => ?_)
  subst hw_1
  refine lv_pop hx hb dX12_clauseHere_4 rfl ?_
  refine lv_aload_n hx hb dX12_clauseHere_5 rfl (lv_at hl 0 rfl) ?_
  refine va_get (D := D) (ci := 12) (v := .int 0) (C := RX12) (T := TX12) (N := 49) hx hb hta inlX12 hown hK hP 0 rfl rfl 17 (by decide) (hta _ wk_539) (fun _ h9 => h9) rfl dX12_clauseHere_6 ?_
  refine lv_istore_n (lv' := [(1, .int 0), (0, .ref md)]) hx hb dX12_clauseHere_9 rfl hl (by decide) rfl (fun ls hl => ?_)
  refine lv_aload_n hx hb dX12_clauseHere_10 rfl (lv_at hl 1 rfl) ?_
  refine lv_aload_n hx hb dX12_clauseHere_11 rfl (lv_at hl 1 rfl) ?_
  refine va_get (D := D) (ci := 12) (v := .int 0) (C := RX12) (T := TX12) (N := 49) hx hb hta inlX12 hown hK hP 0 rfl rfl 20 (by decide) (hta _ wk_537) (fun _ h9 => h9) rfl dX12_clauseHere_12 ?_
  refine tl_si (tl_rV (As := [.int 0]) (rest := []) ⟨hx, hb, hml, hown, hta⟩ hK hN hP hD (ci := 12) rfl 0 rfl lk_X12_194 (c_X12_kindOf_0 l D cy s.heap.size md m0 m1 m3 m4 m5 m6 m7 m8 m9 m10 m11 m12 m13 m14 m15 m16 m24 m26 m28 m30 m31 m35 m36 m38 m41 m42 m43 m44 m45 m46 m47 m48 ) rfl rfl ⟨Nat.le_of_ble_eq_true rfl, Nat.le_of_ble_eq_true rfl⟩ rfl hl.1 rfl (Nat.le_of_ble_eq_true rfl) dX12_clauseHere_15 ⟨Nat.le_of_ble_eq_true rfl, Nat.le_of_ble_eq_true rfl⟩) (fun r_4 hw_3 => ?_)
  subst hw_3
  refine lv_istore_n (lv' := [(2, .int 0), (1, .int 0), (0, .ref md)]) hx hb dX12_clauseHere_18 rfl hl (by decide) rfl (fun ls hl => ?_)
  refine lv_iload_n hx hb dX12_clauseHere_19 rfl (lv_at hl 0 rfl) ?_
  refine lv_if_ne (tgt := 71) hx hb dX12_clauseHere_20 (by decide) (fun c => absurd c (by decide)) (fun _ => ?_)
  refine lv_aload_n hx hb dX12_clauseHere_23 rfl (lv_at hl 2 rfl) ?_
  refine lv_ldc2 (v := 495672979045) hx hb hown (hta _ wk_552) dX12_clauseHere_24 ?_
  refine tl_si (tl_rV (As := [.long 495672979045]) (rest := []) ⟨hx, hb, hml, hown, hta⟩ hK hN hP hD (ci := 12) rfl 0 rfl lk_X12_174 (c_X12_isWord_0 l D cy s.heap.size md 495672979045 m0 m1 m3 m4 m5 m6 m7 m8 m9 m10 m11 m12 m13 m14 m15 m16 m24 m26 m28 m30 m31 m35 m36 m38 m41 m42 m43 m44 m45 m46 m47 m48 ) rfl rfl ⟨Nat.le_of_ble_eq_true rfl, Nat.le_of_ble_eq_true rfl⟩ rfl hl.1 rfl (Nat.le_of_ble_eq_true rfl) dX12_clauseHere_27 ⟨Nat.le_of_ble_eq_true rfl, Nat.le_of_ble_eq_true rfl⟩) (fun r_6 hw_5 => ?_)
  subst hw_5
  refine lv_if_ne (tgt := 63) hx hb dX12_clauseHere_30 (by decide) (fun c => absurd c (by decide)) (fun _ => ?_)
  refine lv_aload_n hx hb dX12_clauseHere_33 rfl (lv_at hl 2 rfl) ?_
  refine lv_ldc2 (v := 125797183548517) hx hb hown (hta _ wk_553) dX12_clauseHere_34 ?_
  refine tl_si (tl_rV (As := [.long 125797183548517]) (rest := []) ⟨hx, hb, hml, hown, hta⟩ hK hN hP hD (ci := 12) rfl 0 rfl lk_X12_174 (c_X12_isWord_0 l D cy s.heap.size md 125797183548517 m0 m1 m3 m4 m5 m6 m7 m8 m9 m10 m11 m12 m13 m14 m15 m16 m24 m26 m28 m30 m31 m35 m36 m38 m41 m42 m43 m44 m45 m46 m47 m48 ) rfl rfl ⟨Nat.le_of_ble_eq_true rfl, Nat.le_of_ble_eq_true rfl⟩ rfl hl.1 rfl (Nat.le_of_ble_eq_true rfl) dX12_clauseHere_37 ⟨Nat.le_of_ble_eq_true rfl, Nat.le_of_ble_eq_true rfl⟩) (fun r_8 hw_7 => ?_)
  subst hw_7
  refine lv_if_ne (tgt := 63) hx hb dX12_clauseHere_40 (by decide) (fun c => absurd c (by decide)) (fun _ => ?_)
  refine lv_aload_n hx hb dX12_clauseHere_43 rfl (lv_at hl 2 rfl) ?_
  refine lv_ldc2 (v := 474315584357) hx hb hown (hta _ wk_554) dX12_clauseHere_44 ?_
  refine tl_si (tl_rV (As := [.long 474315584357]) (rest := []) ⟨hx, hb, hml, hown, hta⟩ hK hN hP hD (ci := 12) rfl 0 rfl lk_X12_174 (c_X12_isWord_0 l D cy s.heap.size md 474315584357 m0 m1 m3 m4 m5 m6 m7 m8 m9 m10 m11 m12 m13 m14 m15 m16 m24 m26 m28 m30 m31 m35 m36 m38 m41 m42 m43 m44 m45 m46 m47 m48 ) rfl rfl ⟨Nat.le_of_ble_eq_true rfl, Nat.le_of_ble_eq_true rfl⟩ rfl hl.1 rfl (Nat.le_of_ble_eq_true rfl) dX12_clauseHere_47 ⟨Nat.le_of_ble_eq_true rfl, Nat.le_of_ble_eq_true rfl⟩) (fun r_10 hw_9 => ?_)
  subst hw_9
  refine lv_if_ne (tgt := 63) hx hb dX12_clauseHere_50 (by decide) (fun c => absurd c (by decide)) (fun _ => ?_)
  refine lv_aload_n hx hb dX12_clauseHere_53 rfl (lv_at hl 2 rfl) ?_
  refine lv_ldc2 (v := 1700885619) hx hb hown (hta _ wk_555) dX12_clauseHere_54 ?_
  refine tl_si (tl_rV (As := [.long 1700885619]) (rest := []) ⟨hx, hb, hml, hown, hta⟩ hK hN hP hD (ci := 12) rfl 0 rfl lk_X12_174 (c_X12_isWord_0 l D cy s.heap.size md 1700885619 m0 m1 m3 m4 m5 m6 m7 m8 m9 m10 m11 m12 m13 m14 m15 m16 m24 m26 m28 m30 m31 m35 m36 m38 m41 m42 m43 m44 m45 m46 m47 m48 ) rfl rfl ⟨Nat.le_of_ble_eq_true rfl, Nat.le_of_ble_eq_true rfl⟩ rfl hl.1 rfl (Nat.le_of_ble_eq_true rfl) dX12_clauseHere_57 ⟨Nat.le_of_ble_eq_true rfl, Nat.le_of_ble_eq_true rfl⟩) (fun r_12 hw_11 => ?_)
  subst hw_11
  refine lv_if_eq (tgt := 67) hx hb dX12_clauseHere_60 (by decide) (fun _ => ?_) (fun c => absurd c (by decide))
  refine lv_iconst (v := 0) hx hb dX12_clauseHere_67 (by decide) ?_
  refine lv_goto (tgt := 131) hx hb dX12_clauseHere_68 (by decide) ?_
  refine lv_istore_n (lv' := [(3, .int 0), (2, .int 0), (1, .int 0), (0, .ref md)]) hx hb dX12_clauseHere_131 rfl hl (by decide) rfl (fun ls hl => ?_)
  refine lv_iload_n hx hb dX12_clauseHere_132 rfl (lv_at hl 0 rfl) ?_
  refine lv_if_ne (tgt := 143) hx hb dX12_clauseHere_133 (by decide) (fun c => absurd c (by decide)) (fun _ => ?_)
  refine lv_aload_n hx hb dX12_clauseHere_136 rfl (lv_at hl 3 rfl) ?_
  refine lv_iconst (v := 0) hx hb dX12_clauseHere_137 (by decide) ?_
  refine lv_iload_n hx hb dX12_clauseHere_138 rfl (lv_at hl 2 rfl) ?_
  refine tl_ci (wr := []) _ _ hP hD hS hA [0] [] rfl rfl (by decide) (by decide) (tl_rV (As := [.int 0, .int 0]) (rest := []) ⟨hx, hb, hml, hown, hta⟩ hK hN hP hD (ci := 12) rfl 0 rfl lk_X12_184 (c_X12_fails_0 l D cy s.heap.size md m0 m1 m3 m4 m5 m6 m7 m8 m9 m10 m11 m12 m13 m14 m15 m16 m24 m26 m28 m30 m31 m35 m36 m38 m41 m42 m43 m44 m45 m46 m47 m48 ) rfl rfl ⟨Nat.le_of_ble_eq_true rfl, Nat.le_of_ble_eq_true rfl⟩ rfl hl.1 rfl (Nat.le_of_ble_eq_true rfl) dX12_clauseHere_139 ⟨Nat.le_of_ble_eq_true rfl, Nat.le_of_ble_eq_true rfl⟩) (fun r_14 u_15 H locs hw_13 hP hD hS => ?_)
  have hP : va_P D vwCl [(md, .inr (12, [.ref m0, .ref m1, .int 0, .ref m3, .ref m4, .ref m5, .ref m6, .ref m7, .ref m8, .ref m9, .ref m10, .ref m11, .ref m12, .ref m13, .ref m14, .ref m15, .ref m16, .int 0, .int 1, .int 0, .int 0, .int 0, .int 0, .int 0, .ref m24, .int 0, .ref m26, .int 0, .ref m28, .long 0, .ref m30, .ref m31, .int 0, .int 0, .int 0, .ref m35, .ref m36, .int 0, .ref m38, .int 0, .int 0, .ref m41, .ref m42, .ref m43, .ref m44, .ref m45, .ref m46, .ref m47, .ref m48]))] H := hP
  have hD : va_D A [(md, .inr (12, [.ref m0, .ref m1, .int 0, .ref m3, .ref m4, .ref m5, .ref m6, .ref m7, .ref m8, .ref m9, .ref m10, .ref m11, .ref m12, .ref m13, .ref m14, .ref m15, .ref m16, .int 0, .int 1, .int 0, .int 0, .int 0, .int 0, .int 0, .ref m24, .int 0, .ref m26, .int 0, .ref m28, .long 0, .ref m30, .ref m31, .int 0, .int 0, .int 0, .ref m35, .ref m36, .int 0, .ref m38, .int 0, .int 0, .ref m41, .ref m42, .ref m43, .ref m44, .ref m45, .ref m46, .ref m47, .ref m48]))] := hD
  refine W.widen (k := 0) (n := 0) (Nat.le_refl _) (Nat.le_refl _) ?_
  subst hw_13
  have hP9 := hP.sub (ws' := [(md, .inr (12, [.ref m0, .ref m1, .int 0, .ref m3, .ref m4, .ref m5, .ref m6, .ref m7, .ref m8, .ref m9, .ref m10, .ref m11, .ref m12, .ref m13, .ref m14, .ref m15, .ref m16, .int 0, .int 1, .int 0, .int 0, .int 0, .int 0, .int 0, .ref m24, .int 0, .ref m26, .int 0, .ref m28, .long 0, .ref m30, .ref m31, .int 0, .int 0, .int 0, .ref m35, .ref m36, .int 0, .ref m38, .int 0, .int 0, .ref m41, .ref m42, .ref m43, .ref m44, .ref m45, .ref m46, .ref m47, .ref m48]))]) [0] rfl
  have hD9 := hD.sub (ws' := [(md, .inr (12, [.ref m0, .ref m1, .int 0, .ref m3, .ref m4, .ref m5, .ref m6, .ref m7, .ref m8, .ref m9, .ref m10, .ref m11, .ref m12, .ref m13, .ref m14, .ref m15, .ref m16, .int 0, .int 1, .int 0, .int 0, .int 0, .int 0, .int 0, .ref m24, .int 0, .ref m26, .int 0, .ref m28, .long 0, .ref m30, .ref m31, .int 0, .int 0, .int 0, .ref m35, .ref m36, .int 0, .ref m38, .int 0, .int 0, .ref m41, .ref m42, .ref m43, .ref m44, .ref m45, .ref m46, .ref m47, .ref m48]))]) [0] (by decide) rfl
  exact W.zret (ty := .boolean) (v := 0) hx hb hr rfl (fun t ht hW => ⟨⟨_, (), rfl, rfl, by rw [ht]; exact hP9, hD9⟩, hS.F ht⟩) hS.2.2 dX12_clauseHere_142
set_option maxHeartbeats 4000000 in
set_option maxRecDepth 100000 in
theorem c_X12_see_6 (l : Launch) (D : va_G) (cy : Nat → ClassId) (sz : Nat) (md : Nat) (m0 : Nat) (m1 : Nat) (m3 : Nat) (m4 : Nat) (m5 : Nat) (m6 : Nat) (m7 : Nat) (m8 : Nat) (m9 : Nat) (m10 : Nat) (m11 : Nat) (m12 : Nat) (m13 : Nat) (m14 : Nat) (m15 : Nat) (m16 : Nat) (m24 : Nat) (m26 : Nat) (m28 : Nat) (m30 : Nat) (m31 : Nat) (m35 : Nat) (m36 : Nat) (m38 : Nat) (m41 : Nat) (m42 : Nat) (m43 : Nat) (m44 : Nat) (m45 : Nat) (m46 : Nat) (m47 : Nat) (m48 : Nat)  : Met l yX12_see (tl_w yX12_see cX12_see 1 (some .int)) ({ frames := 0, cells := 0, slots := 0, locals := 0 }) (va_Pc [.ref md] (tl_P D cy [(md, .inr (12, [.ref m0, .ref m1, .int 0, .ref m3, .ref m4, .ref m5, .ref m6, .ref m7, .ref m8, .ref m9, .ref m10, .ref m11, .ref m12, .ref m13, .ref m14, .ref m15, .ref m16, .int 0, .int 0, .int 0, .int 6, .int 0, .int 0, .int 0, .ref m24, .int 0, .ref m26, .int 0, .ref m28, .long 0, .ref m30, .ref m31, .int 0, .int 0, .int 0, .ref m35, .ref m36, .int 0, .ref m38, .int 0, .int 0, .ref m41, .ref m42, .ref m43, .ref m44, .ref m45, .ref m46, .ref m47, .ref m48]))] sz)) (vp_Si (fun r : Int32 => r = (-1))) 0 0 (fun _ => False) := by
  refine Met.ofW (cc := cX12_see) (maxL := 1) (ret := (some .int)) (by decide) rfl ?_
  intro p e s m args below meth c s₁ B hml hv
  obtain ⟨rfl, hsz, hP, hK, hD0, hN⟩ := hv
  have hx := B.exec
  have hb := B.bytes
  have hr := B.returns
  have hta := tl_hta (atoms_spec (ws := tl_w yX12_see cX12_see 1 (some .int)) B.pre)
  have hown : s.vm.findClass RX12 = some m.cls := findClass_of_methodNamed B.named
  have hlocks := B.notSynchronized
  subst hsz
  have hD := hD0
  have hP : va_P D vwCl [(md, .inr (12, [.ref m0, .ref m1, .int 0, .ref m3, .ref m4, .ref m5, .ref m6, .ref m7, .ref m8, .ref m9, .ref m10, .ref m11, .ref m12, .ref m13, .ref m14, .ref m15, .ref m16, .int 0, .int 0, .int 0, .int 6, .int 0, .int 0, .int 0, .ref m24, .int 0, .ref m26, .int 0, .ref m28, .long 0, .ref m30, .ref m31, .int 0, .int 0, .int 0, .ref m35, .ref m36, .int 0, .ref m38, .int 0, .int 0, .ref m41, .ref m42, .ref m43, .ref m44, .ref m45, .ref m46, .ref m47, .ref m48]))] s.heap := hP
  have hl := lv_entry ([.ref md]) (n := 1) (Nat.le_of_ble_eq_true rfl)
  rw [lg_entry_eq]
  generalize (lg_sl ([.ref md]) ++ List.replicate (1 - (lg_sl ([.ref md])).length) Slot.unset).toArray = ls at hl ⊢
  have hl : lv_has ls 1 [(0, .ref md)] := hl
  refine lv_aload_n hx hb dX12_see_0 rfl (lv_at hl 0 rfl) ?_
  refine va_get (D := D) (ci := 12) (v := .int 0) (C := RX12) (T := TX12) (N := 49) hx hb hta inlX12 hown hK hP 0 rfl rfl 17 (by decide) (hta _ wk_539) (fun _ h9 => h9) rfl dX12_see_1 ?_
  refine lv_aload_n hx hb dX12_see_4 rfl (lv_at hl 0 rfl) ?_
  refine va_get (D := D) (ci := 12) (v := .int 0) (C := RX12) (T := TX12) (N := 49) hx hb hta inlX12 hown hK hP 0 rfl rfl 2 (by decide) (hta _ wk_347) (fun _ h9 => h9) rfl dX12_see_5 ?_
  refine lv_icmp_ge (tgt := 38) hx hb dX12_see_8 (by decide) (fun _ => ?_) (fun c => absurd c (by decide))
  refine lv_aload_n hx hb dX12_see_38 rfl (lv_at hl 0 rfl) ?_
  refine va_get (D := D) (ci := 12) (v := .int 0) (C := RX12) (T := TX12) (N := 49) hx hb hta inlX12 hown hK hP 0 rfl rfl 17 (by decide) (hta _ wk_539) (fun _ h9 => h9) rfl dX12_see_39 ?_
  refine lv_aload_n hx hb dX12_see_42 rfl (lv_at hl 0 rfl) ?_
  refine va_get (D := D) (ci := 12) (v := .int 0) (C := RX12) (T := TX12) (N := 49) hx hb hta inlX12 hown hK hP 0 rfl rfl 2 (by decide) (hta _ wk_347) (fun _ h9 => h9) rfl dX12_see_43 ?_
  refine lv_icmp_ge (tgt := 65) hx hb dX12_see_46 (by decide) (fun _ => ?_) (fun c => absurd c (by decide))
  refine lv_iconst (v := (-1)) hx hb dX12_see_65 (by decide) ?_
  exact W.iret (v := (-1)) hx hb hr (fun t ht hW => ⟨_, rfl, rfl, ht⟩) (fun q h => by cases h) dX12_see_66
set_option maxHeartbeats 4000000 in
set_option maxRecDepth 100000 in
theorem c_X12_isLetter_6 (l : Launch) (D : va_G) (cy : Nat → ClassId) (sz : Nat) (md : Nat) (m0 : Nat) (m1 : Nat) (m3 : Nat) (m4 : Nat) (m5 : Nat) (m6 : Nat) (m7 : Nat) (m8 : Nat) (m9 : Nat) (m10 : Nat) (m11 : Nat) (m12 : Nat) (m13 : Nat) (m14 : Nat) (m15 : Nat) (m16 : Nat) (m24 : Nat) (m26 : Nat) (m28 : Nat) (m30 : Nat) (m31 : Nat) (m35 : Nat) (m36 : Nat) (m38 : Nat) (m41 : Nat) (m42 : Nat) (m43 : Nat) (m44 : Nat) (m45 : Nat) (m46 : Nat) (m47 : Nat) (m48 : Nat)  : Met l yX12_isLetter (tl_w yX12_isLetter cX12_isLetter 2 (some .boolean)) ({ frames := 0, cells := 0, slots := 0, locals := 0 }) (va_Pc [.ref md, .int 0] (tl_P D cy [(md, .inr (12, [.ref m0, .ref m1, .int 0, .ref m3, .ref m4, .ref m5, .ref m6, .ref m7, .ref m8, .ref m9, .ref m10, .ref m11, .ref m12, .ref m13, .ref m14, .ref m15, .ref m16, .int 0, .int 0, .int 0, .int 6, .int 0, .int 0, .int 0, .ref m24, .int 0, .ref m26, .int 0, .ref m28, .long 0, .ref m30, .ref m31, .int 0, .int 0, .int 0, .ref m35, .ref m36, .int 0, .ref m38, .int 0, .int 0, .ref m41, .ref m42, .ref m43, .ref m44, .ref m45, .ref m46, .ref m47, .ref m48]))] sz)) (vp_Si (fun r : Int32 => r = 0)) 0 0 (fun _ => False) := by
  refine Met.ofW (cc := cX12_isLetter) (maxL := 2) (ret := (some .boolean)) (by decide) rfl ?_
  intro p e s m args below meth c s₁ B hml hv
  obtain ⟨rfl, hsz, hP, hK, hD0, hN⟩ := hv
  have hx := B.exec
  have hb := B.bytes
  have hr := B.returns
  have hta := tl_hta (atoms_spec (ws := tl_w yX12_isLetter cX12_isLetter 2 (some .boolean)) B.pre)
  have hown : s.vm.findClass RX12 = some m.cls := findClass_of_methodNamed B.named
  have hlocks := B.notSynchronized
  subst hsz
  have hD := hD0
  have hP : va_P D vwCl [(md, .inr (12, [.ref m0, .ref m1, .int 0, .ref m3, .ref m4, .ref m5, .ref m6, .ref m7, .ref m8, .ref m9, .ref m10, .ref m11, .ref m12, .ref m13, .ref m14, .ref m15, .ref m16, .int 0, .int 0, .int 0, .int 6, .int 0, .int 0, .int 0, .ref m24, .int 0, .ref m26, .int 0, .ref m28, .long 0, .ref m30, .ref m31, .int 0, .int 0, .int 0, .ref m35, .ref m36, .int 0, .ref m38, .int 0, .int 0, .ref m41, .ref m42, .ref m43, .ref m44, .ref m45, .ref m46, .ref m47, .ref m48]))] s.heap := hP
  have hl := lv_entry ([.ref md, .int 0]) (n := 2) (Nat.le_of_ble_eq_true rfl)
  rw [lg_entry_eq]
  generalize (lg_sl ([.ref md, .int 0]) ++ List.replicate (2 - (lg_sl ([.ref md, .int 0])).length) Slot.unset).toArray = ls at hl ⊢
  have hl : lv_has ls 2 [(0, .ref md), (1, .int 0)] := hl
  refine lv_iload_n hx hb dX12_isLetter_0 rfl (lv_at hl 1 rfl) ?_
  refine lv_aload_n hx hb dX12_isLetter_1 rfl (lv_at hl 0 rfl) ?_
  refine va_get (D := D) (ci := 12) (v := .int 0) (C := RX12) (T := TX12) (N := 49) hx hb hta inlX12 hown hK hP 0 rfl rfl 2 (by decide) (hta _ wk_347) (fun _ h9 => h9) rfl dX12_isLetter_2 ?_
  refine lv_icmp_ge (tgt := 34) hx hb dX12_isLetter_5 (by decide) (fun _ => ?_) (fun c => absurd c (by decide))
  refine lv_iconst (v := 0) hx hb dX12_isLetter_34 (by decide) ?_
  exact W.zret (ty := .boolean) (v := 0) hx hb hr rfl (fun t ht hW => ⟨_, rfl, rfl, ht⟩) (fun q h => by cases h) dX12_isLetter_35
set_option maxHeartbeats 4000000 in
set_option maxRecDepth 100000 in
theorem c_X12_isWord_6 (l : Launch) (D : va_G) (cy : Nat → ClassId) (sz : Nat) (md : Nat) (p0 : Int64) (m0 : Nat) (m1 : Nat) (m3 : Nat) (m4 : Nat) (m5 : Nat) (m6 : Nat) (m7 : Nat) (m8 : Nat) (m9 : Nat) (m10 : Nat) (m11 : Nat) (m12 : Nat) (m13 : Nat) (m14 : Nat) (m15 : Nat) (m16 : Nat) (m24 : Nat) (m26 : Nat) (m28 : Nat) (m30 : Nat) (m31 : Nat) (m35 : Nat) (m36 : Nat) (m38 : Nat) (m41 : Nat) (m42 : Nat) (m43 : Nat) (m44 : Nat) (m45 : Nat) (m46 : Nat) (m47 : Nat) (m48 : Nat)  : Met l yX12_isWord (tl_w yX12_isWord cX12_isWord 6 (some .boolean)) ({ frames := 1, cells := 0, slots := 0, locals := 21 }) (va_Pc [.ref md, .long p0] (tl_P D cy [(md, .inr (12, [.ref m0, .ref m1, .int 0, .ref m3, .ref m4, .ref m5, .ref m6, .ref m7, .ref m8, .ref m9, .ref m10, .ref m11, .ref m12, .ref m13, .ref m14, .ref m15, .ref m16, .int 0, .int 0, .int 0, .int 6, .int 0, .int 0, .int 0, .ref m24, .int 0, .ref m26, .int 0, .ref m28, .long 0, .ref m30, .ref m31, .int 0, .int 0, .int 0, .ref m35, .ref m36, .int 0, .ref m38, .int 0, .int 0, .ref m41, .ref m42, .ref m43, .ref m44, .ref m45, .ref m46, .ref m47, .ref m48]))] sz)) (vp_Si (fun r : Int32 => r = 0)) 0 0 (fun _ => False) := by
  refine Met.ofW (cc := cX12_isWord) (maxL := 6) (ret := (some .boolean)) (by decide) rfl ?_
  intro p e s m args below meth c s₁ B hml hv
  obtain ⟨rfl, hsz, hP, hK, hD0, hN⟩ := hv
  have hx := B.exec
  have hb := B.bytes
  have hr := B.returns
  have hta := tl_hta (atoms_spec (ws := tl_w yX12_isWord cX12_isWord 6 (some .boolean)) B.pre)
  have hown : s.vm.findClass RX12 = some m.cls := findClass_of_methodNamed B.named
  have hlocks := B.notSynchronized
  subst hsz
  have hD := hD0
  have hP : va_P D vwCl [(md, .inr (12, [.ref m0, .ref m1, .int 0, .ref m3, .ref m4, .ref m5, .ref m6, .ref m7, .ref m8, .ref m9, .ref m10, .ref m11, .ref m12, .ref m13, .ref m14, .ref m15, .ref m16, .int 0, .int 0, .int 0, .int 6, .int 0, .int 0, .int 0, .ref m24, .int 0, .ref m26, .int 0, .ref m28, .long 0, .ref m30, .ref m31, .int 0, .int 0, .int 0, .ref m35, .ref m36, .int 0, .ref m38, .int 0, .int 0, .ref m41, .ref m42, .ref m43, .ref m44, .ref m45, .ref m46, .ref m47, .ref m48]))] s.heap := hP
  have hl := lv_entry ([.ref md, .long p0]) (n := 6) (Nat.le_of_ble_eq_true rfl)
  rw [lg_entry_eq]
  generalize (lg_sl ([.ref md, .long p0]) ++ List.replicate (6 - (lg_sl ([.ref md, .long p0])).length) Slot.unset).toArray = ls at hl ⊢
  have hl : lv_has ls 6 [(0, .ref md), (1, .long p0)] := hl
  refine lv_aload_n hx hb dX12_isWord_0 rfl (lv_at hl 0 rfl) ?_
  refine tl_si (tl_rV (As := []) (rest := []) ⟨hx, hb, hml, hown, hta⟩ hK hN hP hD (ci := 12) rfl 0 rfl lk_X12_167 (c_X12_see_6 l D cy s.heap.size md m0 m1 m3 m4 m5 m6 m7 m8 m9 m10 m11 m12 m13 m14 m15 m16 m24 m26 m28 m30 m31 m35 m36 m38 m41 m42 m43 m44 m45 m46 m47 m48 ) rfl rfl ⟨Nat.le_of_ble_eq_true rfl, Nat.le_of_ble_eq_true rfl⟩ rfl hl.1 rfl (Nat.le_of_ble_eq_true rfl) dX12_isWord_1 ⟨Nat.le_of_ble_eq_true rfl, Nat.le_of_ble_eq_true rfl⟩) (fun r_2 hw_1 => ?_)
  subst hw_1
  refine lv_pop hx hb dX12_isWord_4 rfl ?_
  refine lv_lconst (v := 0) hx hb dX12_isWord_5 (by decide) ?_
  refine lv_lstore_n (lv' := [(3, .long 0), (0, .ref md), (1, .long p0)]) hx hb dX12_isWord_6 rfl hl (by decide) rfl (fun ls hl => ?_)
  refine lv_iconst (v := 0) hx hb dX12_isWord_7 (by decide) ?_
  refine lv_istore (lv' := [(5, .int 0), (3, .long 0), (0, .ref md), (1, .long p0)]) hx hb dX12_isWord_8 hl (by decide) rfl (fun ls hl => ?_)
  refine lv_aload_n hx hb dX12_isWord_10 rfl (lv_at hl 2 rfl) ?_
  refine lv_aload_n hx hb dX12_isWord_11 rfl (lv_at hl 2 rfl) ?_
  refine va_get (D := D) (ci := 12) (v := .int 0) (C := RX12) (T := TX12) (N := 49) hx hb hta inlX12 hown hK hP 0 rfl rfl 17 (by decide) (hta _ wk_539) (fun _ h9 => h9) rfl dX12_isWord_12 ?_
  refine lv_iload hx hb dX12_isWord_15 (lv_at hl 0 rfl) ?_
  refine lv_iadd hx hb dX12_isWord_17 ?_
  refine lv_topi (fun z_3 ez_3 => ?_)
  obtain rfl : z_3 = (0 : Int32) := ez_3.trans (by decide)
  refine tl_si (tl_rV (As := [.int 0]) (rest := []) ⟨hx, hb, hml, hown, hta⟩ hK hN hP hD (ci := 12) rfl 0 rfl lk_X12_171 (c_X12_isLetter_6 l D cy s.heap.size md m0 m1 m3 m4 m5 m6 m7 m8 m9 m10 m11 m12 m13 m14 m15 m16 m24 m26 m28 m30 m31 m35 m36 m38 m41 m42 m43 m44 m45 m46 m47 m48 ) rfl rfl ⟨Nat.le_of_ble_eq_true rfl, Nat.le_of_ble_eq_true rfl⟩ rfl hl.1 rfl (Nat.le_of_ble_eq_true rfl) dX12_isWord_18 ⟨Nat.le_of_ble_eq_true rfl, Nat.le_of_ble_eq_true rfl⟩) (fun r_5 hw_4 => ?_)
  subst hw_4
  refine lv_if_eq (tgt := 56) hx hb dX12_isWord_21 (by decide) (fun _ => ?_) (fun c => absurd c (by decide))
  refine lv_iload hx hb dX12_isWord_56 (lv_at hl 0 rfl) ?_
  refine lv_if_le (tgt := 78) hx hb dX12_isWord_58 (by decide) (fun _ => ?_) (fun c => absurd c (by decide))
  refine lv_iconst (v := 0) hx hb dX12_isWord_78 (by decide) ?_
  exact W.zret (ty := .boolean) (v := 0) hx hb hr rfl (fun t ht hW => ⟨_, rfl, rfl, ht⟩) (fun q h => by cases h) dX12_isWord_79
set_option maxHeartbeats 4000000 in
set_option maxRecDepth 100000 in
theorem c_X12_kindOf_6 (l : Launch) (D : va_G) (cy : Nat → ClassId) (sz : Nat) (md : Nat) (m0 : Nat) (m1 : Nat) (m3 : Nat) (m4 : Nat) (m5 : Nat) (m6 : Nat) (m7 : Nat) (m8 : Nat) (m9 : Nat) (m10 : Nat) (m11 : Nat) (m12 : Nat) (m13 : Nat) (m14 : Nat) (m15 : Nat) (m16 : Nat) (m24 : Nat) (m26 : Nat) (m28 : Nat) (m30 : Nat) (m31 : Nat) (m35 : Nat) (m36 : Nat) (m38 : Nat) (m41 : Nat) (m42 : Nat) (m43 : Nat) (m44 : Nat) (m45 : Nat) (m46 : Nat) (m47 : Nat) (m48 : Nat)  : Met l yX12_kindOf (tl_w yX12_kindOf cX12_kindOf 2 (some .int)) ({ frames := 0, cells := 0, slots := 0, locals := 0 }) (va_Pc [.ref md, .int 6] (tl_P D cy [(md, .inr (12, [.ref m0, .ref m1, .int 0, .ref m3, .ref m4, .ref m5, .ref m6, .ref m7, .ref m8, .ref m9, .ref m10, .ref m11, .ref m12, .ref m13, .ref m14, .ref m15, .ref m16, .int 0, .int 0, .int 0, .int 6, .int 0, .int 0, .int 0, .ref m24, .int 0, .ref m26, .int 0, .ref m28, .long 0, .ref m30, .ref m31, .int 0, .int 0, .int 0, .ref m35, .ref m36, .int 0, .ref m38, .int 0, .int 0, .ref m41, .ref m42, .ref m43, .ref m44, .ref m45, .ref m46, .ref m47, .ref m48]))] sz)) (vp_Si (fun r : Int32 => r = 1)) 0 0 (fun _ => False) := by
  refine Met.ofW (cc := cX12_kindOf) (maxL := 2) (ret := (some .int)) (by decide) rfl ?_
  intro p e s m args below meth c s₁ B hml hv
  obtain ⟨rfl, hsz, hP, hK, hD0, hN⟩ := hv
  have hx := B.exec
  have hb := B.bytes
  have hr := B.returns
  have hta := tl_hta (atoms_spec (ws := tl_w yX12_kindOf cX12_kindOf 2 (some .int)) B.pre)
  have hown : s.vm.findClass RX12 = some m.cls := findClass_of_methodNamed B.named
  have hlocks := B.notSynchronized
  subst hsz
  have hD := hD0
  have hP : va_P D vwCl [(md, .inr (12, [.ref m0, .ref m1, .int 0, .ref m3, .ref m4, .ref m5, .ref m6, .ref m7, .ref m8, .ref m9, .ref m10, .ref m11, .ref m12, .ref m13, .ref m14, .ref m15, .ref m16, .int 0, .int 0, .int 0, .int 6, .int 0, .int 0, .int 0, .ref m24, .int 0, .ref m26, .int 0, .ref m28, .long 0, .ref m30, .ref m31, .int 0, .int 0, .int 0, .ref m35, .ref m36, .int 0, .ref m38, .int 0, .int 0, .ref m41, .ref m42, .ref m43, .ref m44, .ref m45, .ref m46, .ref m47, .ref m48]))] s.heap := hP
  have hl := lv_entry ([.ref md, .int 6]) (n := 2) (Nat.le_of_ble_eq_true rfl)
  rw [lg_entry_eq]
  generalize (lg_sl ([.ref md, .int 6]) ++ List.replicate (2 - (lg_sl ([.ref md, .int 6])).length) Slot.unset).toArray = ls at hl ⊢
  have hl : lv_has ls 2 [(0, .ref md), (1, .int 6)] := hl
  refine lv_iload_n hx hb dX12_kindOf_0 rfl (lv_at hl 1 rfl) ?_
  refine lv_bipush (v := 6) hx hb dX12_kindOf_1 (by decide) ?_
  refine lv_icmp_ge (tgt := 10) hx hb dX12_kindOf_3 (by decide) (fun _ => ?_) (fun c => absurd c (by decide))
  refine lv_iload_n hx hb dX12_kindOf_10 rfl (lv_at hl 1 rfl) ?_
  refine lv_bipush (v := 14) hx hb dX12_kindOf_11 (by decide) ?_
  refine lv_icmp_ge (tgt := 20) hx hb dX12_kindOf_13 (by decide) (fun c => absurd c (by decide)) (fun _ => ?_)
  refine lv_iconst (v := 1) hx hb dX12_kindOf_16 (by decide) ?_
  refine lv_goto (tgt := 21) hx hb dX12_kindOf_17 (by decide) ?_
  exact W.iret (v := 1) hx hb hr (fun t ht hW => ⟨_, rfl, rfl, ht⟩) (fun q h => by cases h) dX12_kindOf_21
set_option maxHeartbeats 4000000 in
set_option maxRecDepth 100000 in
theorem c_X12_fails_6 (l : Launch) (D : va_G) (cy : Nat → ClassId) (sz : Nat) (md : Nat) (m0 : Nat) (m1 : Nat) (m3 : Nat) (m4 : Nat) (m5 : Nat) (m6 : Nat) (m7 : Nat) (m8 : Nat) (m9 : Nat) (m10 : Nat) (m11 : Nat) (m12 : Nat) (m13 : Nat) (m14 : Nat) (m15 : Nat) (m16 : Nat) (m24 : Nat) (m26 : Nat) (m28 : Nat) (m30 : Nat) (m31 : Nat) (m35 : Nat) (m36 : Nat) (m38 : Nat) (m41 : Nat) (m42 : Nat) (m43 : Nat) (m44 : Nat) (m45 : Nat) (m46 : Nat) (m47 : Nat) (m48 : Nat)  : Met l yX12_fails (tl_w yX12_fails cX12_fails 3 (some .boolean)) ({ frames := 0, cells := 0, slots := 0, locals := 0 }) (va_Pc [.ref md, .int 0, .int 0] (tl_P D cy [(md, .inr (12, [.ref m0, .ref m1, .int 0, .ref m3, .ref m4, .ref m5, .ref m6, .ref m7, .ref m8, .ref m9, .ref m10, .ref m11, .ref m12, .ref m13, .ref m14, .ref m15, .ref m16, .int 0, .int 0, .int 0, .int 6, .int 0, .int 0, .int 0, .ref m24, .int 0, .ref m26, .int 0, .ref m28, .long 0, .ref m30, .ref m31, .int 0, .int 0, .int 0, .ref m35, .ref m36, .int 0, .ref m38, .int 0, .int 0, .ref m41, .ref m42, .ref m43, .ref m44, .ref m45, .ref m46, .ref m47, .ref m48]))] sz)) (va_Qi (fun (r : Int32) (u : Unit) => r = 0) (tl_B D (va_A [(md, .inr (12, [.ref m0, .ref m1, .int 0, .ref m3, .ref m4, .ref m5, .ref m6, .ref m7, .ref m8, .ref m9, .ref m10, .ref m11, .ref m12, .ref m13, .ref m14, .ref m15, .ref m16, .int 0, .int 0, .int 0, .int 6, .int 0, .int 0, .int 0, .ref m24, .int 0, .ref m26, .int 0, .ref m28, .long 0, .ref m30, .ref m31, .int 0, .int 0, .int 0, .ref m35, .ref m36, .int 0, .ref m38, .int 0, .int 0, .ref m41, .ref m42, .ref m43, .ref m44, .ref m45, .ref m46, .ref m47, .ref m48]))] sz) (fun u : Unit => [(md, .inr (12, [.ref m0, .ref m1, .int 0, .ref m3, .ref m4, .ref m5, .ref m6, .ref m7, .ref m8, .ref m9, .ref m10, .ref m11, .ref m12, .ref m13, .ref m14, .ref m15, .ref m16, .int 0, .int 1, .int 0, .int 6, .int 0, .int 0, .int 0, .ref m24, .int 0, .ref m26, .int 0, .ref m28, .long 0, .ref m30, .ref m31, .int 0, .int 0, .int 0, .ref m35, .ref m36, .int 0, .ref m38, .int 0, .int 0, .ref m41, .ref m42, .ref m43, .ref m44, .ref m45, .ref m46, .ref m47, .ref m48]))])) (va_A [(md, .inr (12, [.ref m0, .ref m1, .int 0, .ref m3, .ref m4, .ref m5, .ref m6, .ref m7, .ref m8, .ref m9, .ref m10, .ref m11, .ref m12, .ref m13, .ref m14, .ref m15, .ref m16, .int 0, .int 0, .int 0, .int 6, .int 0, .int 0, .int 0, .ref m24, .int 0, .ref m26, .int 0, .ref m28, .long 0, .ref m30, .ref m31, .int 0, .int 0, .int 0, .ref m35, .ref m36, .int 0, .ref m38, .int 0, .int 0, .ref m41, .ref m42, .ref m43, .ref m44, .ref m45, .ref m46, .ref m47, .ref m48]))] sz)) 0 0 (va_A [(md, .inr (12, [.ref m0, .ref m1, .int 0, .ref m3, .ref m4, .ref m5, .ref m6, .ref m7, .ref m8, .ref m9, .ref m10, .ref m11, .ref m12, .ref m13, .ref m14, .ref m15, .ref m16, .int 0, .int 0, .int 0, .int 6, .int 0, .int 0, .int 0, .ref m24, .int 0, .ref m26, .int 0, .ref m28, .long 0, .ref m30, .ref m31, .int 0, .int 0, .int 0, .ref m35, .ref m36, .int 0, .ref m38, .int 0, .int 0, .ref m41, .ref m42, .ref m43, .ref m44, .ref m45, .ref m46, .ref m47, .ref m48]))] sz) := by
  refine Met.ofW (cc := cX12_fails) (maxL := 3) (ret := (some .boolean)) (by decide) rfl ?_
  intro p e s m args below meth c s₁ B hml hv
  obtain ⟨rfl, hsz, hP, hK, hD0, hN⟩ := hv
  have hx := B.exec
  have hb := B.bytes
  have hr := B.returns
  have hta := tl_hta (atoms_spec (ws := tl_w yX12_fails cX12_fails 3 (some .boolean)) B.pre)
  have hown : s.vm.findClass RX12 = some m.cls := findClass_of_methodNamed B.named
  have hlocks := B.notSynchronized
  subst hsz
  have hD := hD0.self (sz := s.heap.size)
  generalize hAe : va_A [(md, .inr (12, [.ref m0, .ref m1, .int 0, .ref m3, .ref m4, .ref m5, .ref m6, .ref m7, .ref m8, .ref m9, .ref m10, .ref m11, .ref m12, .ref m13, .ref m14, .ref m15, .ref m16, .int 0, .int 0, .int 0, .int 6, .int 0, .int 0, .int 0, .ref m24, .int 0, .ref m26, .int 0, .ref m28, .long 0, .ref m30, .ref m31, .int 0, .int 0, .int 0, .ref m35, .ref m36, .int 0, .ref m38, .int 0, .int 0, .ref m41, .ref m42, .ref m43, .ref m44, .ref m45, .ref m46, .ref m47, .ref m48]))] s.heap.size = A at hD ⊢
  have hA : ∀ q : Nat, s.heap.size ≤ q → A q := fun q h => by rw [← hAe]; exact Or.inr h
  have hS : va_S A s.heap s.heap [] := va_S.rf
  have hP : va_P D vwCl [(md, .inr (12, [.ref m0, .ref m1, .int 0, .ref m3, .ref m4, .ref m5, .ref m6, .ref m7, .ref m8, .ref m9, .ref m10, .ref m11, .ref m12, .ref m13, .ref m14, .ref m15, .ref m16, .int 0, .int 0, .int 0, .int 6, .int 0, .int 0, .int 0, .ref m24, .int 0, .ref m26, .int 0, .ref m28, .long 0, .ref m30, .ref m31, .int 0, .int 0, .int 0, .ref m35, .ref m36, .int 0, .ref m38, .int 0, .int 0, .ref m41, .ref m42, .ref m43, .ref m44, .ref m45, .ref m46, .ref m47, .ref m48]))] s.heap := hP
  have hl := lv_entry ([.ref md, .int 0, .int 0]) (n := 3) (Nat.le_of_ble_eq_true rfl)
  rw [lg_entry_eq]
  generalize (lg_sl ([.ref md, .int 0, .int 0]) ++ List.replicate (3 - (lg_sl ([.ref md, .int 0, .int 0])).length) Slot.unset).toArray = ls at hl ⊢
  have hl : lv_has ls 3 [(0, .ref md), (1, .int 0), (2, .int 0)] := hl
  refine lv_aload_n hx hb dX12_fails_0 rfl (lv_at hl 0 rfl) ?_
  refine va_get (D := D) (ci := 12) (v := .int 0) (C := RX12) (T := TX12) (N := 49) hx hb hta inlX12 hown hK hP 0 rfl rfl 18 (by decide) (hta _ wk_540) (fun _ h9 => h9) rfl dX12_fails_1 ?_
  refine lv_if_ne (tgt := 19) hx hb dX12_fails_4 (by decide) (fun c => absurd c (by decide)) (fun _ => ?_)
  refine lv_aload_n hx hb dX12_fails_7 rfl (lv_at hl 0 rfl) ?_
  refine lv_iconst (v := 1) hx hb dX12_fails_8 (by decide) ?_
  refine lv_bipush (v := 8) hx hb dX12_fails_9 (by decide) ?_
  refine lv_iload_n hx hb dX12_fails_11 rfl (lv_at hl 2 rfl) ?_
  refine lv_imul hx hb dX12_fails_12 ?_
  refine lv_topi (fun z_1 ez_1 => ?_)
  obtain rfl : z_1 = (0 : Int32) := ez_1.trans (by decide)
  refine lv_iadd hx hb dX12_fails_13 ?_
  refine lv_topi (fun z_2 ez_2 => ?_)
  obtain rfl : z_2 = (1 : Int32) := ez_2.trans (by decide)
  refine lv_iload_n hx hb dX12_fails_14 rfl (lv_at hl 1 rfl) ?_
  refine lv_iadd hx hb dX12_fails_15 ?_
  refine lv_topi (fun z_3 ez_3 => ?_)
  obtain rfl : z_3 = (1 : Int32) := ez_3.trans (by decide)
  refine va_put (D := D) (ci := 12) (v := .int 1) (ty := tyX12 18) (C := RX12) (T := TX12) (N := 49) hx hb hta inlX12 tyX12 tyX12_ok nmX12 hown hK hP hD hS 0 rfl rfl 18 (by decide) (hta _ wk_540) (fun _ h9 => h9) rfl (tyX12_ok 18 (by decide)) rfl rfl (Nat.le_of_ble_eq_true rfl) dX12_fails_16 (fun H locs hP hD hS => ?_)
  have hP : va_P D vwCl [(md, .inr (12, [.ref m0, .ref m1, .int 0, .ref m3, .ref m4, .ref m5, .ref m6, .ref m7, .ref m8, .ref m9, .ref m10, .ref m11, .ref m12, .ref m13, .ref m14, .ref m15, .ref m16, .int 0, .int 1, .int 0, .int 6, .int 0, .int 0, .int 0, .ref m24, .int 0, .ref m26, .int 0, .ref m28, .long 0, .ref m30, .ref m31, .int 0, .int 0, .int 0, .ref m35, .ref m36, .int 0, .ref m38, .int 0, .int 0, .ref m41, .ref m42, .ref m43, .ref m44, .ref m45, .ref m46, .ref m47, .ref m48]))] H := hP
  have hD : va_D A [(md, .inr (12, [.ref m0, .ref m1, .int 0, .ref m3, .ref m4, .ref m5, .ref m6, .ref m7, .ref m8, .ref m9, .ref m10, .ref m11, .ref m12, .ref m13, .ref m14, .ref m15, .ref m16, .int 0, .int 1, .int 0, .int 6, .int 0, .int 0, .int 0, .ref m24, .int 0, .ref m26, .int 0, .ref m28, .long 0, .ref m30, .ref m31, .int 0, .int 0, .int 0, .ref m35, .ref m36, .int 0, .ref m38, .int 0, .int 0, .ref m41, .ref m42, .ref m43, .ref m44, .ref m45, .ref m46, .ref m47, .ref m48]))] := hD
  refine lv_iconst (v := 0) hx hb dX12_fails_19 (by decide) ?_
  have hP9 := hP.sub (ws' := [(md, .inr (12, [.ref m0, .ref m1, .int 0, .ref m3, .ref m4, .ref m5, .ref m6, .ref m7, .ref m8, .ref m9, .ref m10, .ref m11, .ref m12, .ref m13, .ref m14, .ref m15, .ref m16, .int 0, .int 1, .int 0, .int 6, .int 0, .int 0, .int 0, .ref m24, .int 0, .ref m26, .int 0, .ref m28, .long 0, .ref m30, .ref m31, .int 0, .int 0, .int 0, .ref m35, .ref m36, .int 0, .ref m38, .int 0, .int 0, .ref m41, .ref m42, .ref m43, .ref m44, .ref m45, .ref m46, .ref m47, .ref m48]))]) [0] rfl
  have hD9 := hD.sub (ws' := [(md, .inr (12, [.ref m0, .ref m1, .int 0, .ref m3, .ref m4, .ref m5, .ref m6, .ref m7, .ref m8, .ref m9, .ref m10, .ref m11, .ref m12, .ref m13, .ref m14, .ref m15, .ref m16, .int 0, .int 1, .int 0, .int 6, .int 0, .int 0, .int 0, .ref m24, .int 0, .ref m26, .int 0, .ref m28, .long 0, .ref m30, .ref m31, .int 0, .int 0, .int 0, .ref m35, .ref m36, .int 0, .ref m38, .int 0, .int 0, .ref m41, .ref m42, .ref m43, .ref m44, .ref m45, .ref m46, .ref m47, .ref m48]))]) [0] (by decide) rfl
  exact W.zret (ty := .boolean) (v := 0) hx hb hr rfl (fun t ht hW => ⟨⟨_, (), rfl, rfl, by rw [ht]; exact hP9, hD9⟩, hS.F ht⟩) hS.2.2 dX12_fails_20
set_option maxHeartbeats 4000000 in
set_option maxRecDepth 100000 in
theorem c_X12_clauseHere_6 (l : Launch) (D : va_G) (cy : Nat → ClassId) (sz : Nat) (md : Nat) (m0 : Nat) (m1 : Nat) (m3 : Nat) (m4 : Nat) (m5 : Nat) (m6 : Nat) (m7 : Nat) (m8 : Nat) (m9 : Nat) (m10 : Nat) (m11 : Nat) (m12 : Nat) (m13 : Nat) (m14 : Nat) (m15 : Nat) (m16 : Nat) (m24 : Nat) (m26 : Nat) (m28 : Nat) (m30 : Nat) (m31 : Nat) (m35 : Nat) (m36 : Nat) (m38 : Nat) (m41 : Nat) (m42 : Nat) (m43 : Nat) (m44 : Nat) (m45 : Nat) (m46 : Nat) (m47 : Nat) (m48 : Nat)  : Met l yX12_clauseHere (tl_w yX12_clauseHere cX12_clauseHere 4 (some .boolean)) ({ frames := 2, cells := 0, slots := 0, locals := 46 }) (va_Pc [.ref md] (tl_P D cy [(md, .inr (12, [.ref m0, .ref m1, .int 0, .ref m3, .ref m4, .ref m5, .ref m6, .ref m7, .ref m8, .ref m9, .ref m10, .ref m11, .ref m12, .ref m13, .ref m14, .ref m15, .ref m16, .int 0, .int 0, .int 0, .int 6, .int 0, .int 0, .int 0, .ref m24, .int 0, .ref m26, .int 0, .ref m28, .long 0, .ref m30, .ref m31, .int 0, .int 0, .int 0, .ref m35, .ref m36, .int 0, .ref m38, .int 0, .int 0, .ref m41, .ref m42, .ref m43, .ref m44, .ref m45, .ref m46, .ref m47, .ref m48]))] sz)) (va_Qi (fun (r : Int32) (u : Unit) => r = 0) (tl_B D (va_A [(md, .inr (12, [.ref m0, .ref m1, .int 0, .ref m3, .ref m4, .ref m5, .ref m6, .ref m7, .ref m8, .ref m9, .ref m10, .ref m11, .ref m12, .ref m13, .ref m14, .ref m15, .ref m16, .int 0, .int 0, .int 0, .int 6, .int 0, .int 0, .int 0, .ref m24, .int 0, .ref m26, .int 0, .ref m28, .long 0, .ref m30, .ref m31, .int 0, .int 0, .int 0, .ref m35, .ref m36, .int 0, .ref m38, .int 0, .int 0, .ref m41, .ref m42, .ref m43, .ref m44, .ref m45, .ref m46, .ref m47, .ref m48]))] sz) (fun u : Unit => [(md, .inr (12, [.ref m0, .ref m1, .int 0, .ref m3, .ref m4, .ref m5, .ref m6, .ref m7, .ref m8, .ref m9, .ref m10, .ref m11, .ref m12, .ref m13, .ref m14, .ref m15, .ref m16, .int 0, .int 1, .int 0, .int 6, .int 0, .int 0, .int 0, .ref m24, .int 0, .ref m26, .int 0, .ref m28, .long 0, .ref m30, .ref m31, .int 0, .int 0, .int 0, .ref m35, .ref m36, .int 0, .ref m38, .int 0, .int 0, .ref m41, .ref m42, .ref m43, .ref m44, .ref m45, .ref m46, .ref m47, .ref m48]))])) (va_A [(md, .inr (12, [.ref m0, .ref m1, .int 0, .ref m3, .ref m4, .ref m5, .ref m6, .ref m7, .ref m8, .ref m9, .ref m10, .ref m11, .ref m12, .ref m13, .ref m14, .ref m15, .ref m16, .int 0, .int 0, .int 0, .int 6, .int 0, .int 0, .int 0, .ref m24, .int 0, .ref m26, .int 0, .ref m28, .long 0, .ref m30, .ref m31, .int 0, .int 0, .int 0, .ref m35, .ref m36, .int 0, .ref m38, .int 0, .int 0, .ref m41, .ref m42, .ref m43, .ref m44, .ref m45, .ref m46, .ref m47, .ref m48]))] sz)) 0 0 (va_A [(md, .inr (12, [.ref m0, .ref m1, .int 0, .ref m3, .ref m4, .ref m5, .ref m6, .ref m7, .ref m8, .ref m9, .ref m10, .ref m11, .ref m12, .ref m13, .ref m14, .ref m15, .ref m16, .int 0, .int 0, .int 0, .int 6, .int 0, .int 0, .int 0, .ref m24, .int 0, .ref m26, .int 0, .ref m28, .long 0, .ref m30, .ref m31, .int 0, .int 0, .int 0, .ref m35, .ref m36, .int 0, .ref m38, .int 0, .int 0, .ref m41, .ref m42, .ref m43, .ref m44, .ref m45, .ref m46, .ref m47, .ref m48]))] sz) := by
  refine Met.ofW (cc := cX12_clauseHere) (maxL := 4) (ret := (some .boolean)) (by decide) rfl ?_
  intro p e s m args below meth c s₁ B hml hv
  obtain ⟨rfl, hsz, hP, hK, hD0, hN⟩ := hv
  have hx := B.exec
  have hb := B.bytes
  have hr := B.returns
  have hta := tl_hta (atoms_spec (ws := tl_w yX12_clauseHere cX12_clauseHere 4 (some .boolean)) B.pre)
  have hown : s.vm.findClass RX12 = some m.cls := findClass_of_methodNamed B.named
  have hlocks := B.notSynchronized
  subst hsz
  have hD := hD0.self (sz := s.heap.size)
  generalize hAe : va_A [(md, .inr (12, [.ref m0, .ref m1, .int 0, .ref m3, .ref m4, .ref m5, .ref m6, .ref m7, .ref m8, .ref m9, .ref m10, .ref m11, .ref m12, .ref m13, .ref m14, .ref m15, .ref m16, .int 0, .int 0, .int 0, .int 6, .int 0, .int 0, .int 0, .ref m24, .int 0, .ref m26, .int 0, .ref m28, .long 0, .ref m30, .ref m31, .int 0, .int 0, .int 0, .ref m35, .ref m36, .int 0, .ref m38, .int 0, .int 0, .ref m41, .ref m42, .ref m43, .ref m44, .ref m45, .ref m46, .ref m47, .ref m48]))] s.heap.size = A at hD ⊢
  have hA : ∀ q : Nat, s.heap.size ≤ q → A q := fun q h => by rw [← hAe]; exact Or.inr h
  have hS : va_S A s.heap s.heap [] := va_S.rf
  have hP : va_P D vwCl [(md, .inr (12, [.ref m0, .ref m1, .int 0, .ref m3, .ref m4, .ref m5, .ref m6, .ref m7, .ref m8, .ref m9, .ref m10, .ref m11, .ref m12, .ref m13, .ref m14, .ref m15, .ref m16, .int 0, .int 0, .int 0, .int 6, .int 0, .int 0, .int 0, .ref m24, .int 0, .ref m26, .int 0, .ref m28, .long 0, .ref m30, .ref m31, .int 0, .int 0, .int 0, .ref m35, .ref m36, .int 0, .ref m38, .int 0, .int 0, .ref m41, .ref m42, .ref m43, .ref m44, .ref m45, .ref m46, .ref m47, .ref m48]))] s.heap := hP
  have hl := lv_entry ([.ref md]) (n := 4) (Nat.le_of_ble_eq_true rfl)
  rw [lg_entry_eq]
  generalize (lg_sl ([.ref md]) ++ List.replicate (4 - (lg_sl ([.ref md])).length) Slot.unset).toArray = ls at hl ⊢
  have hl : lv_has ls 4 [(0, .ref md)] := hl
  refine lv_aload_n hx hb dX12_clauseHere_0 rfl (lv_at hl 0 rfl) ?_
  refine tl_si (tl_rV (As := []) (rest := []) ⟨hx, hb, hml, hown, hta⟩ hK hN hP hD (ci := 12) rfl 0 rfl lk_X12_167 (c_X12_see_6 l D cy s.heap.size md m0 m1 m3 m4 m5 m6 m7 m8 m9 m10 m11 m12 m13 m14 m15 m16 m24 m26 m28 m30 m31 m35 m36 m38 m41 m42 m43 m44 m45 m46 m47 m48 ) rfl rfl ⟨Nat.le_of_ble_eq_true rfl, Nat.le_of_ble_eq_true rfl⟩ rfl hl.1 rfl (Nat.le_of_ble_eq_true rfl) dX12_clauseHere_1 ⟨Nat.le_of_ble_eq_true rfl, Nat.le_of_ble_eq_true rfl⟩) (fun r_2 hw_1 => ?_)
  subst hw_1
  refine lv_pop hx hb dX12_clauseHere_4 rfl ?_
  refine lv_aload_n hx hb dX12_clauseHere_5 rfl (lv_at hl 0 rfl) ?_
  refine va_get (D := D) (ci := 12) (v := .int 0) (C := RX12) (T := TX12) (N := 49) hx hb hta inlX12 hown hK hP 0 rfl rfl 17 (by decide) (hta _ wk_539) (fun _ h9 => h9) rfl dX12_clauseHere_6 ?_
  refine lv_istore_n (lv' := [(1, .int 0), (0, .ref md)]) hx hb dX12_clauseHere_9 rfl hl (by decide) rfl (fun ls hl => ?_)
  refine lv_aload_n hx hb dX12_clauseHere_10 rfl (lv_at hl 1 rfl) ?_
  refine lv_aload_n hx hb dX12_clauseHere_11 rfl (lv_at hl 1 rfl) ?_
  refine va_get (D := D) (ci := 12) (v := .int 6) (C := RX12) (T := TX12) (N := 49) hx hb hta inlX12 hown hK hP 0 rfl rfl 20 (by decide) (hta _ wk_537) (fun _ h9 => h9) rfl dX12_clauseHere_12 ?_
  refine tl_si (tl_rV (As := [.int 6]) (rest := []) ⟨hx, hb, hml, hown, hta⟩ hK hN hP hD (ci := 12) rfl 0 rfl lk_X12_194 (c_X12_kindOf_6 l D cy s.heap.size md m0 m1 m3 m4 m5 m6 m7 m8 m9 m10 m11 m12 m13 m14 m15 m16 m24 m26 m28 m30 m31 m35 m36 m38 m41 m42 m43 m44 m45 m46 m47 m48 ) rfl rfl ⟨Nat.le_of_ble_eq_true rfl, Nat.le_of_ble_eq_true rfl⟩ rfl hl.1 rfl (Nat.le_of_ble_eq_true rfl) dX12_clauseHere_15 ⟨Nat.le_of_ble_eq_true rfl, Nat.le_of_ble_eq_true rfl⟩) (fun r_4 hw_3 => ?_)
  subst hw_3
  refine lv_istore_n (lv' := [(2, .int 1), (1, .int 0), (0, .ref md)]) hx hb dX12_clauseHere_18 rfl hl (by decide) rfl (fun ls hl => ?_)
  refine lv_iload_n hx hb dX12_clauseHere_19 rfl (lv_at hl 0 rfl) ?_
  refine lv_if_ne (tgt := 71) hx hb dX12_clauseHere_20 (by decide) (fun _ => ?_) (fun c => absurd c (by decide))
  refine lv_iload_n hx hb dX12_clauseHere_71 rfl (lv_at hl 0 rfl) ?_
  refine lv_iconst (v := 1) hx hb dX12_clauseHere_72 (by decide) ?_
  refine lv_icmp_ne (tgt := 124) hx hb dX12_clauseHere_73 (by decide) (fun c => absurd c (by decide)) (fun _ => ?_)
  refine lv_aload_n hx hb dX12_clauseHere_76 rfl (lv_at hl 2 rfl) ?_
  refine lv_ldc2 (v := 422608528499) hx hb hown (hta _ wk_556) dX12_clauseHere_77 ?_
  refine tl_si (tl_rV (As := [.long 422608528499]) (rest := []) ⟨hx, hb, hml, hown, hta⟩ hK hN hP hD (ci := 12) rfl 0 rfl lk_X12_174 (c_X12_isWord_6 l D cy s.heap.size md 422608528499 m0 m1 m3 m4 m5 m6 m7 m8 m9 m10 m11 m12 m13 m14 m15 m16 m24 m26 m28 m30 m31 m35 m36 m38 m41 m42 m43 m44 m45 m46 m47 m48 ) rfl rfl ⟨Nat.le_of_ble_eq_true rfl, Nat.le_of_ble_eq_true rfl⟩ rfl hl.1 rfl (Nat.le_of_ble_eq_true rfl) dX12_clauseHere_80 ⟨Nat.le_of_ble_eq_true rfl, Nat.le_of_ble_eq_true rfl⟩) (fun r_6 hw_5 => ?_)
  subst hw_5
  refine lv_if_ne (tgt := 116) hx hb dX12_clauseHere_83 (by decide) (fun c => absurd c (by decide)) (fun _ => ?_)
  refine lv_aload_n hx hb dX12_clauseHere_86 rfl (lv_at hl 2 rfl) ?_
  refine lv_ldc2 (v := 6775152) hx hb hown (hta _ wk_557) dX12_clauseHere_87 ?_
  refine tl_si (tl_rV (As := [.long 6775152]) (rest := []) ⟨hx, hb, hml, hown, hta⟩ hK hN hP hD (ci := 12) rfl 0 rfl lk_X12_174 (c_X12_isWord_6 l D cy s.heap.size md 6775152 m0 m1 m3 m4 m5 m6 m7 m8 m9 m10 m11 m12 m13 m14 m15 m16 m24 m26 m28 m30 m31 m35 m36 m38 m41 m42 m43 m44 m45 m46 m47 m48 ) rfl rfl ⟨Nat.le_of_ble_eq_true rfl, Nat.le_of_ble_eq_true rfl⟩ rfl hl.1 rfl (Nat.le_of_ble_eq_true rfl) dX12_clauseHere_90 ⟨Nat.le_of_ble_eq_true rfl, Nat.le_of_ble_eq_true rfl⟩) (fun r_8 hw_7 => ?_)
  subst hw_7
  refine lv_if_ne (tgt := 116) hx hb dX12_clauseHere_93 (by decide) (fun c => absurd c (by decide)) (fun _ => ?_)
  refine lv_aload_n hx hb dX12_clauseHere_96 rfl (lv_at hl 2 rfl) ?_
  refine lv_ldc2 (v := 2003395685) hx hb hown (hta _ wk_558) dX12_clauseHere_97 ?_
  refine tl_si (tl_rV (As := [.long 2003395685]) (rest := []) ⟨hx, hb, hml, hown, hta⟩ hK hN hP hD (ci := 12) rfl 0 rfl lk_X12_174 (c_X12_isWord_6 l D cy s.heap.size md 2003395685 m0 m1 m3 m4 m5 m6 m7 m8 m9 m10 m11 m12 m13 m14 m15 m16 m24 m26 m28 m30 m31 m35 m36 m38 m41 m42 m43 m44 m45 m46 m47 m48 ) rfl rfl ⟨Nat.le_of_ble_eq_true rfl, Nat.le_of_ble_eq_true rfl⟩ rfl hl.1 rfl (Nat.le_of_ble_eq_true rfl) dX12_clauseHere_100 ⟨Nat.le_of_ble_eq_true rfl, Nat.le_of_ble_eq_true rfl⟩) (fun r_10 hw_9 => ?_)
  subst hw_9
  refine lv_if_ne (tgt := 116) hx hb dX12_clauseHere_103 (by decide) (fun c => absurd c (by decide)) (fun _ => ?_)
  refine lv_aload_n hx hb dX12_clauseHere_106 rfl (lv_at hl 2 rfl) ?_
  refine lv_ldc2 (v := 1936419184) hx hb hown (hta _ wk_559) dX12_clauseHere_107 ?_
  refine tl_si (tl_rV (As := [.long 1936419184]) (rest := []) ⟨hx, hb, hml, hown, hta⟩ hK hN hP hD (ci := 12) rfl 0 rfl lk_X12_174 (c_X12_isWord_6 l D cy s.heap.size md 1936419184 m0 m1 m3 m4 m5 m6 m7 m8 m9 m10 m11 m12 m13 m14 m15 m16 m24 m26 m28 m30 m31 m35 m36 m38 m41 m42 m43 m44 m45 m46 m47 m48 ) rfl rfl ⟨Nat.le_of_ble_eq_true rfl, Nat.le_of_ble_eq_true rfl⟩ rfl hl.1 rfl (Nat.le_of_ble_eq_true rfl) dX12_clauseHere_110 ⟨Nat.le_of_ble_eq_true rfl, Nat.le_of_ble_eq_true rfl⟩) (fun r_12 hw_11 => ?_)
  subst hw_11
  refine lv_if_eq (tgt := 120) hx hb dX12_clauseHere_113 (by decide) (fun _ => ?_) (fun c => absurd c (by decide))
  refine lv_iconst (v := 0) hx hb dX12_clauseHere_120 (by decide) ?_
  refine lv_goto (tgt := 131) hx hb dX12_clauseHere_121 (by decide) ?_
  refine lv_istore_n (lv' := [(3, .int 0), (2, .int 1), (1, .int 0), (0, .ref md)]) hx hb dX12_clauseHere_131 rfl hl (by decide) rfl (fun ls hl => ?_)
  refine lv_iload_n hx hb dX12_clauseHere_132 rfl (lv_at hl 0 rfl) ?_
  refine lv_if_ne (tgt := 143) hx hb dX12_clauseHere_133 (by decide) (fun c => absurd c (by decide)) (fun _ => ?_)
  refine lv_aload_n hx hb dX12_clauseHere_136 rfl (lv_at hl 3 rfl) ?_
  refine lv_iconst (v := 0) hx hb dX12_clauseHere_137 (by decide) ?_
  refine lv_iload_n hx hb dX12_clauseHere_138 rfl (lv_at hl 2 rfl) ?_
  refine tl_ci (wr := []) _ _ hP hD hS hA [0] [] rfl rfl (by decide) (by decide) (tl_rV (As := [.int 0, .int 0]) (rest := []) ⟨hx, hb, hml, hown, hta⟩ hK hN hP hD (ci := 12) rfl 0 rfl lk_X12_184 (c_X12_fails_6 l D cy s.heap.size md m0 m1 m3 m4 m5 m6 m7 m8 m9 m10 m11 m12 m13 m14 m15 m16 m24 m26 m28 m30 m31 m35 m36 m38 m41 m42 m43 m44 m45 m46 m47 m48 ) rfl rfl ⟨Nat.le_of_ble_eq_true rfl, Nat.le_of_ble_eq_true rfl⟩ rfl hl.1 rfl (Nat.le_of_ble_eq_true rfl) dX12_clauseHere_139 ⟨Nat.le_of_ble_eq_true rfl, Nat.le_of_ble_eq_true rfl⟩) (fun r_14 u_15 H locs hw_13 hP hD hS => ?_)
  have hP : va_P D vwCl [(md, .inr (12, [.ref m0, .ref m1, .int 0, .ref m3, .ref m4, .ref m5, .ref m6, .ref m7, .ref m8, .ref m9, .ref m10, .ref m11, .ref m12, .ref m13, .ref m14, .ref m15, .ref m16, .int 0, .int 1, .int 0, .int 6, .int 0, .int 0, .int 0, .ref m24, .int 0, .ref m26, .int 0, .ref m28, .long 0, .ref m30, .ref m31, .int 0, .int 0, .int 0, .ref m35, .ref m36, .int 0, .ref m38, .int 0, .int 0, .ref m41, .ref m42, .ref m43, .ref m44, .ref m45, .ref m46, .ref m47, .ref m48]))] H := hP
  have hD : va_D A [(md, .inr (12, [.ref m0, .ref m1, .int 0, .ref m3, .ref m4, .ref m5, .ref m6, .ref m7, .ref m8, .ref m9, .ref m10, .ref m11, .ref m12, .ref m13, .ref m14, .ref m15, .ref m16, .int 0, .int 1, .int 0, .int 6, .int 0, .int 0, .int 0, .ref m24, .int 0, .ref m26, .int 0, .ref m28, .long 0, .ref m30, .ref m31, .int 0, .int 0, .int 0, .ref m35, .ref m36, .int 0, .ref m38, .int 0, .int 0, .ref m41, .ref m42, .ref m43, .ref m44, .ref m45, .ref m46, .ref m47, .ref m48]))] := hD
  refine W.widen (k := 0) (n := 0) (Nat.le_refl _) (Nat.le_refl _) ?_
  subst hw_13
  have hP9 := hP.sub (ws' := [(md, .inr (12, [.ref m0, .ref m1, .int 0, .ref m3, .ref m4, .ref m5, .ref m6, .ref m7, .ref m8, .ref m9, .ref m10, .ref m11, .ref m12, .ref m13, .ref m14, .ref m15, .ref m16, .int 0, .int 1, .int 0, .int 6, .int 0, .int 0, .int 0, .ref m24, .int 0, .ref m26, .int 0, .ref m28, .long 0, .ref m30, .ref m31, .int 0, .int 0, .int 0, .ref m35, .ref m36, .int 0, .ref m38, .int 0, .int 0, .ref m41, .ref m42, .ref m43, .ref m44, .ref m45, .ref m46, .ref m47, .ref m48]))]) [0] rfl
  have hD9 := hD.sub (ws' := [(md, .inr (12, [.ref m0, .ref m1, .int 0, .ref m3, .ref m4, .ref m5, .ref m6, .ref m7, .ref m8, .ref m9, .ref m10, .ref m11, .ref m12, .ref m13, .ref m14, .ref m15, .ref m16, .int 0, .int 1, .int 0, .int 6, .int 0, .int 0, .int 0, .ref m24, .int 0, .ref m26, .int 0, .ref m28, .long 0, .ref m30, .ref m31, .int 0, .int 0, .int 0, .ref m35, .ref m36, .int 0, .ref m38, .int 0, .int 0, .ref m41, .ref m42, .ref m43, .ref m44, .ref m45, .ref m46, .ref m47, .ref m48]))]) [0] (by decide) rfl
  exact W.zret (ty := .boolean) (v := 0) hx hb hr rfl (fun t ht hW => ⟨⟨_, (), rfl, rfl, by rw [ht]; exact hP9, hD9⟩, hS.F ht⟩) hS.2.2 dX12_clauseHere_142
set_option maxHeartbeats 4000000 in
set_option maxRecDepth 100000 in
theorem c_X12_see_14 (l : Launch) (D : va_G) (cy : Nat → ClassId) (sz : Nat) (md : Nat) (m0 : Nat) (m1 : Nat) (m3 : Nat) (m4 : Nat) (m5 : Nat) (m6 : Nat) (m7 : Nat) (m8 : Nat) (m9 : Nat) (m10 : Nat) (m11 : Nat) (m12 : Nat) (m13 : Nat) (m14 : Nat) (m15 : Nat) (m16 : Nat) (m24 : Nat) (m26 : Nat) (m28 : Nat) (m30 : Nat) (m31 : Nat) (m35 : Nat) (m36 : Nat) (m38 : Nat) (m41 : Nat) (m42 : Nat) (m43 : Nat) (m44 : Nat) (m45 : Nat) (m46 : Nat) (m47 : Nat) (m48 : Nat)  : Met l yX12_see (tl_w yX12_see cX12_see 1 (some .int)) ({ frames := 0, cells := 0, slots := 0, locals := 0 }) (va_Pc [.ref md] (tl_P D cy [(md, .inr (12, [.ref m0, .ref m1, .int 0, .ref m3, .ref m4, .ref m5, .ref m6, .ref m7, .ref m8, .ref m9, .ref m10, .ref m11, .ref m12, .ref m13, .ref m14, .ref m15, .ref m16, .int 0, .int 0, .int 0, .int 14, .int 0, .int 0, .int 0, .ref m24, .int 0, .ref m26, .int 0, .ref m28, .long 0, .ref m30, .ref m31, .int 0, .int 0, .int 0, .ref m35, .ref m36, .int 0, .ref m38, .int 0, .int 0, .ref m41, .ref m42, .ref m43, .ref m44, .ref m45, .ref m46, .ref m47, .ref m48]))] sz)) (vp_Si (fun r : Int32 => r = (-1))) 0 0 (fun _ => False) := by
  refine Met.ofW (cc := cX12_see) (maxL := 1) (ret := (some .int)) (by decide) rfl ?_
  intro p e s m args below meth c s₁ B hml hv
  obtain ⟨rfl, hsz, hP, hK, hD0, hN⟩ := hv
  have hx := B.exec
  have hb := B.bytes
  have hr := B.returns
  have hta := tl_hta (atoms_spec (ws := tl_w yX12_see cX12_see 1 (some .int)) B.pre)
  have hown : s.vm.findClass RX12 = some m.cls := findClass_of_methodNamed B.named
  have hlocks := B.notSynchronized
  subst hsz
  have hD := hD0
  have hP : va_P D vwCl [(md, .inr (12, [.ref m0, .ref m1, .int 0, .ref m3, .ref m4, .ref m5, .ref m6, .ref m7, .ref m8, .ref m9, .ref m10, .ref m11, .ref m12, .ref m13, .ref m14, .ref m15, .ref m16, .int 0, .int 0, .int 0, .int 14, .int 0, .int 0, .int 0, .ref m24, .int 0, .ref m26, .int 0, .ref m28, .long 0, .ref m30, .ref m31, .int 0, .int 0, .int 0, .ref m35, .ref m36, .int 0, .ref m38, .int 0, .int 0, .ref m41, .ref m42, .ref m43, .ref m44, .ref m45, .ref m46, .ref m47, .ref m48]))] s.heap := hP
  have hl := lv_entry ([.ref md]) (n := 1) (Nat.le_of_ble_eq_true rfl)
  rw [lg_entry_eq]
  generalize (lg_sl ([.ref md]) ++ List.replicate (1 - (lg_sl ([.ref md])).length) Slot.unset).toArray = ls at hl ⊢
  have hl : lv_has ls 1 [(0, .ref md)] := hl
  refine lv_aload_n hx hb dX12_see_0 rfl (lv_at hl 0 rfl) ?_
  refine va_get (D := D) (ci := 12) (v := .int 0) (C := RX12) (T := TX12) (N := 49) hx hb hta inlX12 hown hK hP 0 rfl rfl 17 (by decide) (hta _ wk_539) (fun _ h9 => h9) rfl dX12_see_1 ?_
  refine lv_aload_n hx hb dX12_see_4 rfl (lv_at hl 0 rfl) ?_
  refine va_get (D := D) (ci := 12) (v := .int 0) (C := RX12) (T := TX12) (N := 49) hx hb hta inlX12 hown hK hP 0 rfl rfl 2 (by decide) (hta _ wk_347) (fun _ h9 => h9) rfl dX12_see_5 ?_
  refine lv_icmp_ge (tgt := 38) hx hb dX12_see_8 (by decide) (fun _ => ?_) (fun c => absurd c (by decide))
  refine lv_aload_n hx hb dX12_see_38 rfl (lv_at hl 0 rfl) ?_
  refine va_get (D := D) (ci := 12) (v := .int 0) (C := RX12) (T := TX12) (N := 49) hx hb hta inlX12 hown hK hP 0 rfl rfl 17 (by decide) (hta _ wk_539) (fun _ h9 => h9) rfl dX12_see_39 ?_
  refine lv_aload_n hx hb dX12_see_42 rfl (lv_at hl 0 rfl) ?_
  refine va_get (D := D) (ci := 12) (v := .int 0) (C := RX12) (T := TX12) (N := 49) hx hb hta inlX12 hown hK hP 0 rfl rfl 2 (by decide) (hta _ wk_347) (fun _ h9 => h9) rfl dX12_see_43 ?_
  refine lv_icmp_ge (tgt := 65) hx hb dX12_see_46 (by decide) (fun _ => ?_) (fun c => absurd c (by decide))
  refine lv_iconst (v := (-1)) hx hb dX12_see_65 (by decide) ?_
  exact W.iret (v := (-1)) hx hb hr (fun t ht hW => ⟨_, rfl, rfl, ht⟩) (fun q h => by cases h) dX12_see_66
set_option maxHeartbeats 4000000 in
set_option maxRecDepth 100000 in
theorem c_X12_isLetter_14 (l : Launch) (D : va_G) (cy : Nat → ClassId) (sz : Nat) (md : Nat) (m0 : Nat) (m1 : Nat) (m3 : Nat) (m4 : Nat) (m5 : Nat) (m6 : Nat) (m7 : Nat) (m8 : Nat) (m9 : Nat) (m10 : Nat) (m11 : Nat) (m12 : Nat) (m13 : Nat) (m14 : Nat) (m15 : Nat) (m16 : Nat) (m24 : Nat) (m26 : Nat) (m28 : Nat) (m30 : Nat) (m31 : Nat) (m35 : Nat) (m36 : Nat) (m38 : Nat) (m41 : Nat) (m42 : Nat) (m43 : Nat) (m44 : Nat) (m45 : Nat) (m46 : Nat) (m47 : Nat) (m48 : Nat)  : Met l yX12_isLetter (tl_w yX12_isLetter cX12_isLetter 2 (some .boolean)) ({ frames := 0, cells := 0, slots := 0, locals := 0 }) (va_Pc [.ref md, .int 0] (tl_P D cy [(md, .inr (12, [.ref m0, .ref m1, .int 0, .ref m3, .ref m4, .ref m5, .ref m6, .ref m7, .ref m8, .ref m9, .ref m10, .ref m11, .ref m12, .ref m13, .ref m14, .ref m15, .ref m16, .int 0, .int 0, .int 0, .int 14, .int 0, .int 0, .int 0, .ref m24, .int 0, .ref m26, .int 0, .ref m28, .long 0, .ref m30, .ref m31, .int 0, .int 0, .int 0, .ref m35, .ref m36, .int 0, .ref m38, .int 0, .int 0, .ref m41, .ref m42, .ref m43, .ref m44, .ref m45, .ref m46, .ref m47, .ref m48]))] sz)) (vp_Si (fun r : Int32 => r = 0)) 0 0 (fun _ => False) := by
  refine Met.ofW (cc := cX12_isLetter) (maxL := 2) (ret := (some .boolean)) (by decide) rfl ?_
  intro p e s m args below meth c s₁ B hml hv
  obtain ⟨rfl, hsz, hP, hK, hD0, hN⟩ := hv
  have hx := B.exec
  have hb := B.bytes
  have hr := B.returns
  have hta := tl_hta (atoms_spec (ws := tl_w yX12_isLetter cX12_isLetter 2 (some .boolean)) B.pre)
  have hown : s.vm.findClass RX12 = some m.cls := findClass_of_methodNamed B.named
  have hlocks := B.notSynchronized
  subst hsz
  have hD := hD0
  have hP : va_P D vwCl [(md, .inr (12, [.ref m0, .ref m1, .int 0, .ref m3, .ref m4, .ref m5, .ref m6, .ref m7, .ref m8, .ref m9, .ref m10, .ref m11, .ref m12, .ref m13, .ref m14, .ref m15, .ref m16, .int 0, .int 0, .int 0, .int 14, .int 0, .int 0, .int 0, .ref m24, .int 0, .ref m26, .int 0, .ref m28, .long 0, .ref m30, .ref m31, .int 0, .int 0, .int 0, .ref m35, .ref m36, .int 0, .ref m38, .int 0, .int 0, .ref m41, .ref m42, .ref m43, .ref m44, .ref m45, .ref m46, .ref m47, .ref m48]))] s.heap := hP
  have hl := lv_entry ([.ref md, .int 0]) (n := 2) (Nat.le_of_ble_eq_true rfl)
  rw [lg_entry_eq]
  generalize (lg_sl ([.ref md, .int 0]) ++ List.replicate (2 - (lg_sl ([.ref md, .int 0])).length) Slot.unset).toArray = ls at hl ⊢
  have hl : lv_has ls 2 [(0, .ref md), (1, .int 0)] := hl
  refine lv_iload_n hx hb dX12_isLetter_0 rfl (lv_at hl 1 rfl) ?_
  refine lv_aload_n hx hb dX12_isLetter_1 rfl (lv_at hl 0 rfl) ?_
  refine va_get (D := D) (ci := 12) (v := .int 0) (C := RX12) (T := TX12) (N := 49) hx hb hta inlX12 hown hK hP 0 rfl rfl 2 (by decide) (hta _ wk_347) (fun _ h9 => h9) rfl dX12_isLetter_2 ?_
  refine lv_icmp_ge (tgt := 34) hx hb dX12_isLetter_5 (by decide) (fun _ => ?_) (fun c => absurd c (by decide))
  refine lv_iconst (v := 0) hx hb dX12_isLetter_34 (by decide) ?_
  exact W.zret (ty := .boolean) (v := 0) hx hb hr rfl (fun t ht hW => ⟨_, rfl, rfl, ht⟩) (fun q h => by cases h) dX12_isLetter_35
set_option maxHeartbeats 4000000 in
set_option maxRecDepth 100000 in
theorem c_X12_isWord_14 (l : Launch) (D : va_G) (cy : Nat → ClassId) (sz : Nat) (md : Nat) (p0 : Int64) (m0 : Nat) (m1 : Nat) (m3 : Nat) (m4 : Nat) (m5 : Nat) (m6 : Nat) (m7 : Nat) (m8 : Nat) (m9 : Nat) (m10 : Nat) (m11 : Nat) (m12 : Nat) (m13 : Nat) (m14 : Nat) (m15 : Nat) (m16 : Nat) (m24 : Nat) (m26 : Nat) (m28 : Nat) (m30 : Nat) (m31 : Nat) (m35 : Nat) (m36 : Nat) (m38 : Nat) (m41 : Nat) (m42 : Nat) (m43 : Nat) (m44 : Nat) (m45 : Nat) (m46 : Nat) (m47 : Nat) (m48 : Nat)  : Met l yX12_isWord (tl_w yX12_isWord cX12_isWord 6 (some .boolean)) ({ frames := 1, cells := 0, slots := 0, locals := 21 }) (va_Pc [.ref md, .long p0] (tl_P D cy [(md, .inr (12, [.ref m0, .ref m1, .int 0, .ref m3, .ref m4, .ref m5, .ref m6, .ref m7, .ref m8, .ref m9, .ref m10, .ref m11, .ref m12, .ref m13, .ref m14, .ref m15, .ref m16, .int 0, .int 0, .int 0, .int 14, .int 0, .int 0, .int 0, .ref m24, .int 0, .ref m26, .int 0, .ref m28, .long 0, .ref m30, .ref m31, .int 0, .int 0, .int 0, .ref m35, .ref m36, .int 0, .ref m38, .int 0, .int 0, .ref m41, .ref m42, .ref m43, .ref m44, .ref m45, .ref m46, .ref m47, .ref m48]))] sz)) (vp_Si (fun r : Int32 => r = 0)) 0 0 (fun _ => False) := by
  refine Met.ofW (cc := cX12_isWord) (maxL := 6) (ret := (some .boolean)) (by decide) rfl ?_
  intro p e s m args below meth c s₁ B hml hv
  obtain ⟨rfl, hsz, hP, hK, hD0, hN⟩ := hv
  have hx := B.exec
  have hb := B.bytes
  have hr := B.returns
  have hta := tl_hta (atoms_spec (ws := tl_w yX12_isWord cX12_isWord 6 (some .boolean)) B.pre)
  have hown : s.vm.findClass RX12 = some m.cls := findClass_of_methodNamed B.named
  have hlocks := B.notSynchronized
  subst hsz
  have hD := hD0
  have hP : va_P D vwCl [(md, .inr (12, [.ref m0, .ref m1, .int 0, .ref m3, .ref m4, .ref m5, .ref m6, .ref m7, .ref m8, .ref m9, .ref m10, .ref m11, .ref m12, .ref m13, .ref m14, .ref m15, .ref m16, .int 0, .int 0, .int 0, .int 14, .int 0, .int 0, .int 0, .ref m24, .int 0, .ref m26, .int 0, .ref m28, .long 0, .ref m30, .ref m31, .int 0, .int 0, .int 0, .ref m35, .ref m36, .int 0, .ref m38, .int 0, .int 0, .ref m41, .ref m42, .ref m43, .ref m44, .ref m45, .ref m46, .ref m47, .ref m48]))] s.heap := hP
  have hl := lv_entry ([.ref md, .long p0]) (n := 6) (Nat.le_of_ble_eq_true rfl)
  rw [lg_entry_eq]
  generalize (lg_sl ([.ref md, .long p0]) ++ List.replicate (6 - (lg_sl ([.ref md, .long p0])).length) Slot.unset).toArray = ls at hl ⊢
  have hl : lv_has ls 6 [(0, .ref md), (1, .long p0)] := hl
  refine lv_aload_n hx hb dX12_isWord_0 rfl (lv_at hl 0 rfl) ?_
  refine tl_si (tl_rV (As := []) (rest := []) ⟨hx, hb, hml, hown, hta⟩ hK hN hP hD (ci := 12) rfl 0 rfl lk_X12_167 (c_X12_see_14 l D cy s.heap.size md m0 m1 m3 m4 m5 m6 m7 m8 m9 m10 m11 m12 m13 m14 m15 m16 m24 m26 m28 m30 m31 m35 m36 m38 m41 m42 m43 m44 m45 m46 m47 m48 ) rfl rfl ⟨Nat.le_of_ble_eq_true rfl, Nat.le_of_ble_eq_true rfl⟩ rfl hl.1 rfl (Nat.le_of_ble_eq_true rfl) dX12_isWord_1 ⟨Nat.le_of_ble_eq_true rfl, Nat.le_of_ble_eq_true rfl⟩) (fun r_2 hw_1 => ?_)
  subst hw_1
  refine lv_pop hx hb dX12_isWord_4 rfl ?_
  refine lv_lconst (v := 0) hx hb dX12_isWord_5 (by decide) ?_
  refine lv_lstore_n (lv' := [(3, .long 0), (0, .ref md), (1, .long p0)]) hx hb dX12_isWord_6 rfl hl (by decide) rfl (fun ls hl => ?_)
  refine lv_iconst (v := 0) hx hb dX12_isWord_7 (by decide) ?_
  refine lv_istore (lv' := [(5, .int 0), (3, .long 0), (0, .ref md), (1, .long p0)]) hx hb dX12_isWord_8 hl (by decide) rfl (fun ls hl => ?_)
  refine lv_aload_n hx hb dX12_isWord_10 rfl (lv_at hl 2 rfl) ?_
  refine lv_aload_n hx hb dX12_isWord_11 rfl (lv_at hl 2 rfl) ?_
  refine va_get (D := D) (ci := 12) (v := .int 0) (C := RX12) (T := TX12) (N := 49) hx hb hta inlX12 hown hK hP 0 rfl rfl 17 (by decide) (hta _ wk_539) (fun _ h9 => h9) rfl dX12_isWord_12 ?_
  refine lv_iload hx hb dX12_isWord_15 (lv_at hl 0 rfl) ?_
  refine lv_iadd hx hb dX12_isWord_17 ?_
  refine lv_topi (fun z_3 ez_3 => ?_)
  obtain rfl : z_3 = (0 : Int32) := ez_3.trans (by decide)
  refine tl_si (tl_rV (As := [.int 0]) (rest := []) ⟨hx, hb, hml, hown, hta⟩ hK hN hP hD (ci := 12) rfl 0 rfl lk_X12_171 (c_X12_isLetter_14 l D cy s.heap.size md m0 m1 m3 m4 m5 m6 m7 m8 m9 m10 m11 m12 m13 m14 m15 m16 m24 m26 m28 m30 m31 m35 m36 m38 m41 m42 m43 m44 m45 m46 m47 m48 ) rfl rfl ⟨Nat.le_of_ble_eq_true rfl, Nat.le_of_ble_eq_true rfl⟩ rfl hl.1 rfl (Nat.le_of_ble_eq_true rfl) dX12_isWord_18 ⟨Nat.le_of_ble_eq_true rfl, Nat.le_of_ble_eq_true rfl⟩) (fun r_5 hw_4 => ?_)
  subst hw_4
  refine lv_if_eq (tgt := 56) hx hb dX12_isWord_21 (by decide) (fun _ => ?_) (fun c => absurd c (by decide))
  refine lv_iload hx hb dX12_isWord_56 (lv_at hl 0 rfl) ?_
  refine lv_if_le (tgt := 78) hx hb dX12_isWord_58 (by decide) (fun _ => ?_) (fun c => absurd c (by decide))
  refine lv_iconst (v := 0) hx hb dX12_isWord_78 (by decide) ?_
  exact W.zret (ty := .boolean) (v := 0) hx hb hr rfl (fun t ht hW => ⟨_, rfl, rfl, ht⟩) (fun q h => by cases h) dX12_isWord_79
set_option maxHeartbeats 4000000 in
set_option maxRecDepth 100000 in
theorem c_X12_kindOf_14 (l : Launch) (D : va_G) (cy : Nat → ClassId) (sz : Nat) (md : Nat) (m0 : Nat) (m1 : Nat) (m3 : Nat) (m4 : Nat) (m5 : Nat) (m6 : Nat) (m7 : Nat) (m8 : Nat) (m9 : Nat) (m10 : Nat) (m11 : Nat) (m12 : Nat) (m13 : Nat) (m14 : Nat) (m15 : Nat) (m16 : Nat) (m24 : Nat) (m26 : Nat) (m28 : Nat) (m30 : Nat) (m31 : Nat) (m35 : Nat) (m36 : Nat) (m38 : Nat) (m41 : Nat) (m42 : Nat) (m43 : Nat) (m44 : Nat) (m45 : Nat) (m46 : Nat) (m47 : Nat) (m48 : Nat)  : Met l yX12_kindOf (tl_w yX12_kindOf cX12_kindOf 2 (some .int)) ({ frames := 0, cells := 0, slots := 0, locals := 0 }) (va_Pc [.ref md, .int 14] (tl_P D cy [(md, .inr (12, [.ref m0, .ref m1, .int 0, .ref m3, .ref m4, .ref m5, .ref m6, .ref m7, .ref m8, .ref m9, .ref m10, .ref m11, .ref m12, .ref m13, .ref m14, .ref m15, .ref m16, .int 0, .int 0, .int 0, .int 14, .int 0, .int 0, .int 0, .ref m24, .int 0, .ref m26, .int 0, .ref m28, .long 0, .ref m30, .ref m31, .int 0, .int 0, .int 0, .ref m35, .ref m36, .int 0, .ref m38, .int 0, .int 0, .ref m41, .ref m42, .ref m43, .ref m44, .ref m45, .ref m46, .ref m47, .ref m48]))] sz)) (vp_Si (fun r : Int32 => r = 2)) 0 0 (fun _ => False) := by
  refine Met.ofW (cc := cX12_kindOf) (maxL := 2) (ret := (some .int)) (by decide) rfl ?_
  intro p e s m args below meth c s₁ B hml hv
  obtain ⟨rfl, hsz, hP, hK, hD0, hN⟩ := hv
  have hx := B.exec
  have hb := B.bytes
  have hr := B.returns
  have hta := tl_hta (atoms_spec (ws := tl_w yX12_kindOf cX12_kindOf 2 (some .int)) B.pre)
  have hown : s.vm.findClass RX12 = some m.cls := findClass_of_methodNamed B.named
  have hlocks := B.notSynchronized
  subst hsz
  have hD := hD0
  have hP : va_P D vwCl [(md, .inr (12, [.ref m0, .ref m1, .int 0, .ref m3, .ref m4, .ref m5, .ref m6, .ref m7, .ref m8, .ref m9, .ref m10, .ref m11, .ref m12, .ref m13, .ref m14, .ref m15, .ref m16, .int 0, .int 0, .int 0, .int 14, .int 0, .int 0, .int 0, .ref m24, .int 0, .ref m26, .int 0, .ref m28, .long 0, .ref m30, .ref m31, .int 0, .int 0, .int 0, .ref m35, .ref m36, .int 0, .ref m38, .int 0, .int 0, .ref m41, .ref m42, .ref m43, .ref m44, .ref m45, .ref m46, .ref m47, .ref m48]))] s.heap := hP
  have hl := lv_entry ([.ref md, .int 14]) (n := 2) (Nat.le_of_ble_eq_true rfl)
  rw [lg_entry_eq]
  generalize (lg_sl ([.ref md, .int 14]) ++ List.replicate (2 - (lg_sl ([.ref md, .int 14])).length) Slot.unset).toArray = ls at hl ⊢
  have hl : lv_has ls 2 [(0, .ref md), (1, .int 14)] := hl
  refine lv_iload_n hx hb dX12_kindOf_0 rfl (lv_at hl 1 rfl) ?_
  refine lv_bipush (v := 6) hx hb dX12_kindOf_1 (by decide) ?_
  refine lv_icmp_ge (tgt := 10) hx hb dX12_kindOf_3 (by decide) (fun _ => ?_) (fun c => absurd c (by decide))
  refine lv_iload_n hx hb dX12_kindOf_10 rfl (lv_at hl 1 rfl) ?_
  refine lv_bipush (v := 14) hx hb dX12_kindOf_11 (by decide) ?_
  refine lv_icmp_ge (tgt := 20) hx hb dX12_kindOf_13 (by decide) (fun _ => ?_) (fun c => absurd c (by decide))
  refine lv_iconst (v := 2) hx hb dX12_kindOf_20 (by decide) ?_
  exact W.iret (v := 2) hx hb hr (fun t ht hW => ⟨_, rfl, rfl, ht⟩) (fun q h => by cases h) dX12_kindOf_21
set_option maxHeartbeats 4000000 in
set_option maxRecDepth 100000 in
theorem c_X12_fails_14 (l : Launch) (D : va_G) (cy : Nat → ClassId) (sz : Nat) (md : Nat) (m0 : Nat) (m1 : Nat) (m3 : Nat) (m4 : Nat) (m5 : Nat) (m6 : Nat) (m7 : Nat) (m8 : Nat) (m9 : Nat) (m10 : Nat) (m11 : Nat) (m12 : Nat) (m13 : Nat) (m14 : Nat) (m15 : Nat) (m16 : Nat) (m24 : Nat) (m26 : Nat) (m28 : Nat) (m30 : Nat) (m31 : Nat) (m35 : Nat) (m36 : Nat) (m38 : Nat) (m41 : Nat) (m42 : Nat) (m43 : Nat) (m44 : Nat) (m45 : Nat) (m46 : Nat) (m47 : Nat) (m48 : Nat)  : Met l yX12_fails (tl_w yX12_fails cX12_fails 3 (some .boolean)) ({ frames := 0, cells := 0, slots := 0, locals := 0 }) (va_Pc [.ref md, .int 0, .int 0] (tl_P D cy [(md, .inr (12, [.ref m0, .ref m1, .int 0, .ref m3, .ref m4, .ref m5, .ref m6, .ref m7, .ref m8, .ref m9, .ref m10, .ref m11, .ref m12, .ref m13, .ref m14, .ref m15, .ref m16, .int 0, .int 0, .int 0, .int 14, .int 0, .int 0, .int 0, .ref m24, .int 0, .ref m26, .int 0, .ref m28, .long 0, .ref m30, .ref m31, .int 0, .int 0, .int 0, .ref m35, .ref m36, .int 0, .ref m38, .int 0, .int 0, .ref m41, .ref m42, .ref m43, .ref m44, .ref m45, .ref m46, .ref m47, .ref m48]))] sz)) (va_Qi (fun (r : Int32) (u : Unit) => r = 0) (tl_B D (va_A [(md, .inr (12, [.ref m0, .ref m1, .int 0, .ref m3, .ref m4, .ref m5, .ref m6, .ref m7, .ref m8, .ref m9, .ref m10, .ref m11, .ref m12, .ref m13, .ref m14, .ref m15, .ref m16, .int 0, .int 0, .int 0, .int 14, .int 0, .int 0, .int 0, .ref m24, .int 0, .ref m26, .int 0, .ref m28, .long 0, .ref m30, .ref m31, .int 0, .int 0, .int 0, .ref m35, .ref m36, .int 0, .ref m38, .int 0, .int 0, .ref m41, .ref m42, .ref m43, .ref m44, .ref m45, .ref m46, .ref m47, .ref m48]))] sz) (fun u : Unit => [(md, .inr (12, [.ref m0, .ref m1, .int 0, .ref m3, .ref m4, .ref m5, .ref m6, .ref m7, .ref m8, .ref m9, .ref m10, .ref m11, .ref m12, .ref m13, .ref m14, .ref m15, .ref m16, .int 0, .int 1, .int 0, .int 14, .int 0, .int 0, .int 0, .ref m24, .int 0, .ref m26, .int 0, .ref m28, .long 0, .ref m30, .ref m31, .int 0, .int 0, .int 0, .ref m35, .ref m36, .int 0, .ref m38, .int 0, .int 0, .ref m41, .ref m42, .ref m43, .ref m44, .ref m45, .ref m46, .ref m47, .ref m48]))])) (va_A [(md, .inr (12, [.ref m0, .ref m1, .int 0, .ref m3, .ref m4, .ref m5, .ref m6, .ref m7, .ref m8, .ref m9, .ref m10, .ref m11, .ref m12, .ref m13, .ref m14, .ref m15, .ref m16, .int 0, .int 0, .int 0, .int 14, .int 0, .int 0, .int 0, .ref m24, .int 0, .ref m26, .int 0, .ref m28, .long 0, .ref m30, .ref m31, .int 0, .int 0, .int 0, .ref m35, .ref m36, .int 0, .ref m38, .int 0, .int 0, .ref m41, .ref m42, .ref m43, .ref m44, .ref m45, .ref m46, .ref m47, .ref m48]))] sz)) 0 0 (va_A [(md, .inr (12, [.ref m0, .ref m1, .int 0, .ref m3, .ref m4, .ref m5, .ref m6, .ref m7, .ref m8, .ref m9, .ref m10, .ref m11, .ref m12, .ref m13, .ref m14, .ref m15, .ref m16, .int 0, .int 0, .int 0, .int 14, .int 0, .int 0, .int 0, .ref m24, .int 0, .ref m26, .int 0, .ref m28, .long 0, .ref m30, .ref m31, .int 0, .int 0, .int 0, .ref m35, .ref m36, .int 0, .ref m38, .int 0, .int 0, .ref m41, .ref m42, .ref m43, .ref m44, .ref m45, .ref m46, .ref m47, .ref m48]))] sz) := by
  refine Met.ofW (cc := cX12_fails) (maxL := 3) (ret := (some .boolean)) (by decide) rfl ?_
  intro p e s m args below meth c s₁ B hml hv
  obtain ⟨rfl, hsz, hP, hK, hD0, hN⟩ := hv
  have hx := B.exec
  have hb := B.bytes
  have hr := B.returns
  have hta := tl_hta (atoms_spec (ws := tl_w yX12_fails cX12_fails 3 (some .boolean)) B.pre)
  have hown : s.vm.findClass RX12 = some m.cls := findClass_of_methodNamed B.named
  have hlocks := B.notSynchronized
  subst hsz
  have hD := hD0.self (sz := s.heap.size)
  generalize hAe : va_A [(md, .inr (12, [.ref m0, .ref m1, .int 0, .ref m3, .ref m4, .ref m5, .ref m6, .ref m7, .ref m8, .ref m9, .ref m10, .ref m11, .ref m12, .ref m13, .ref m14, .ref m15, .ref m16, .int 0, .int 0, .int 0, .int 14, .int 0, .int 0, .int 0, .ref m24, .int 0, .ref m26, .int 0, .ref m28, .long 0, .ref m30, .ref m31, .int 0, .int 0, .int 0, .ref m35, .ref m36, .int 0, .ref m38, .int 0, .int 0, .ref m41, .ref m42, .ref m43, .ref m44, .ref m45, .ref m46, .ref m47, .ref m48]))] s.heap.size = A at hD ⊢
  have hA : ∀ q : Nat, s.heap.size ≤ q → A q := fun q h => by rw [← hAe]; exact Or.inr h
  have hS : va_S A s.heap s.heap [] := va_S.rf
  have hP : va_P D vwCl [(md, .inr (12, [.ref m0, .ref m1, .int 0, .ref m3, .ref m4, .ref m5, .ref m6, .ref m7, .ref m8, .ref m9, .ref m10, .ref m11, .ref m12, .ref m13, .ref m14, .ref m15, .ref m16, .int 0, .int 0, .int 0, .int 14, .int 0, .int 0, .int 0, .ref m24, .int 0, .ref m26, .int 0, .ref m28, .long 0, .ref m30, .ref m31, .int 0, .int 0, .int 0, .ref m35, .ref m36, .int 0, .ref m38, .int 0, .int 0, .ref m41, .ref m42, .ref m43, .ref m44, .ref m45, .ref m46, .ref m47, .ref m48]))] s.heap := hP
  have hl := lv_entry ([.ref md, .int 0, .int 0]) (n := 3) (Nat.le_of_ble_eq_true rfl)
  rw [lg_entry_eq]
  generalize (lg_sl ([.ref md, .int 0, .int 0]) ++ List.replicate (3 - (lg_sl ([.ref md, .int 0, .int 0])).length) Slot.unset).toArray = ls at hl ⊢
  have hl : lv_has ls 3 [(0, .ref md), (1, .int 0), (2, .int 0)] := hl
  refine lv_aload_n hx hb dX12_fails_0 rfl (lv_at hl 0 rfl) ?_
  refine va_get (D := D) (ci := 12) (v := .int 0) (C := RX12) (T := TX12) (N := 49) hx hb hta inlX12 hown hK hP 0 rfl rfl 18 (by decide) (hta _ wk_540) (fun _ h9 => h9) rfl dX12_fails_1 ?_
  refine lv_if_ne (tgt := 19) hx hb dX12_fails_4 (by decide) (fun c => absurd c (by decide)) (fun _ => ?_)
  refine lv_aload_n hx hb dX12_fails_7 rfl (lv_at hl 0 rfl) ?_
  refine lv_iconst (v := 1) hx hb dX12_fails_8 (by decide) ?_
  refine lv_bipush (v := 8) hx hb dX12_fails_9 (by decide) ?_
  refine lv_iload_n hx hb dX12_fails_11 rfl (lv_at hl 2 rfl) ?_
  refine lv_imul hx hb dX12_fails_12 ?_
  refine lv_topi (fun z_1 ez_1 => ?_)
  obtain rfl : z_1 = (0 : Int32) := ez_1.trans (by decide)
  refine lv_iadd hx hb dX12_fails_13 ?_
  refine lv_topi (fun z_2 ez_2 => ?_)
  obtain rfl : z_2 = (1 : Int32) := ez_2.trans (by decide)
  refine lv_iload_n hx hb dX12_fails_14 rfl (lv_at hl 1 rfl) ?_
  refine lv_iadd hx hb dX12_fails_15 ?_
  refine lv_topi (fun z_3 ez_3 => ?_)
  obtain rfl : z_3 = (1 : Int32) := ez_3.trans (by decide)
  refine va_put (D := D) (ci := 12) (v := .int 1) (ty := tyX12 18) (C := RX12) (T := TX12) (N := 49) hx hb hta inlX12 tyX12 tyX12_ok nmX12 hown hK hP hD hS 0 rfl rfl 18 (by decide) (hta _ wk_540) (fun _ h9 => h9) rfl (tyX12_ok 18 (by decide)) rfl rfl (Nat.le_of_ble_eq_true rfl) dX12_fails_16 (fun H locs hP hD hS => ?_)
  have hP : va_P D vwCl [(md, .inr (12, [.ref m0, .ref m1, .int 0, .ref m3, .ref m4, .ref m5, .ref m6, .ref m7, .ref m8, .ref m9, .ref m10, .ref m11, .ref m12, .ref m13, .ref m14, .ref m15, .ref m16, .int 0, .int 1, .int 0, .int 14, .int 0, .int 0, .int 0, .ref m24, .int 0, .ref m26, .int 0, .ref m28, .long 0, .ref m30, .ref m31, .int 0, .int 0, .int 0, .ref m35, .ref m36, .int 0, .ref m38, .int 0, .int 0, .ref m41, .ref m42, .ref m43, .ref m44, .ref m45, .ref m46, .ref m47, .ref m48]))] H := hP
  have hD : va_D A [(md, .inr (12, [.ref m0, .ref m1, .int 0, .ref m3, .ref m4, .ref m5, .ref m6, .ref m7, .ref m8, .ref m9, .ref m10, .ref m11, .ref m12, .ref m13, .ref m14, .ref m15, .ref m16, .int 0, .int 1, .int 0, .int 14, .int 0, .int 0, .int 0, .ref m24, .int 0, .ref m26, .int 0, .ref m28, .long 0, .ref m30, .ref m31, .int 0, .int 0, .int 0, .ref m35, .ref m36, .int 0, .ref m38, .int 0, .int 0, .ref m41, .ref m42, .ref m43, .ref m44, .ref m45, .ref m46, .ref m47, .ref m48]))] := hD
  refine lv_iconst (v := 0) hx hb dX12_fails_19 (by decide) ?_
  have hP9 := hP.sub (ws' := [(md, .inr (12, [.ref m0, .ref m1, .int 0, .ref m3, .ref m4, .ref m5, .ref m6, .ref m7, .ref m8, .ref m9, .ref m10, .ref m11, .ref m12, .ref m13, .ref m14, .ref m15, .ref m16, .int 0, .int 1, .int 0, .int 14, .int 0, .int 0, .int 0, .ref m24, .int 0, .ref m26, .int 0, .ref m28, .long 0, .ref m30, .ref m31, .int 0, .int 0, .int 0, .ref m35, .ref m36, .int 0, .ref m38, .int 0, .int 0, .ref m41, .ref m42, .ref m43, .ref m44, .ref m45, .ref m46, .ref m47, .ref m48]))]) [0] rfl
  have hD9 := hD.sub (ws' := [(md, .inr (12, [.ref m0, .ref m1, .int 0, .ref m3, .ref m4, .ref m5, .ref m6, .ref m7, .ref m8, .ref m9, .ref m10, .ref m11, .ref m12, .ref m13, .ref m14, .ref m15, .ref m16, .int 0, .int 1, .int 0, .int 14, .int 0, .int 0, .int 0, .ref m24, .int 0, .ref m26, .int 0, .ref m28, .long 0, .ref m30, .ref m31, .int 0, .int 0, .int 0, .ref m35, .ref m36, .int 0, .ref m38, .int 0, .int 0, .ref m41, .ref m42, .ref m43, .ref m44, .ref m45, .ref m46, .ref m47, .ref m48]))]) [0] (by decide) rfl
  exact W.zret (ty := .boolean) (v := 0) hx hb hr rfl (fun t ht hW => ⟨⟨_, (), rfl, rfl, by rw [ht]; exact hP9, hD9⟩, hS.F ht⟩) hS.2.2 dX12_fails_20
set_option maxHeartbeats 4000000 in
set_option maxRecDepth 100000 in
theorem c_X12_clauseHere_14 (l : Launch) (D : va_G) (cy : Nat → ClassId) (sz : Nat) (md : Nat) (m0 : Nat) (m1 : Nat) (m3 : Nat) (m4 : Nat) (m5 : Nat) (m6 : Nat) (m7 : Nat) (m8 : Nat) (m9 : Nat) (m10 : Nat) (m11 : Nat) (m12 : Nat) (m13 : Nat) (m14 : Nat) (m15 : Nat) (m16 : Nat) (m24 : Nat) (m26 : Nat) (m28 : Nat) (m30 : Nat) (m31 : Nat) (m35 : Nat) (m36 : Nat) (m38 : Nat) (m41 : Nat) (m42 : Nat) (m43 : Nat) (m44 : Nat) (m45 : Nat) (m46 : Nat) (m47 : Nat) (m48 : Nat)  : Met l yX12_clauseHere (tl_w yX12_clauseHere cX12_clauseHere 4 (some .boolean)) ({ frames := 2, cells := 0, slots := 0, locals := 46 }) (va_Pc [.ref md] (tl_P D cy [(md, .inr (12, [.ref m0, .ref m1, .int 0, .ref m3, .ref m4, .ref m5, .ref m6, .ref m7, .ref m8, .ref m9, .ref m10, .ref m11, .ref m12, .ref m13, .ref m14, .ref m15, .ref m16, .int 0, .int 0, .int 0, .int 14, .int 0, .int 0, .int 0, .ref m24, .int 0, .ref m26, .int 0, .ref m28, .long 0, .ref m30, .ref m31, .int 0, .int 0, .int 0, .ref m35, .ref m36, .int 0, .ref m38, .int 0, .int 0, .ref m41, .ref m42, .ref m43, .ref m44, .ref m45, .ref m46, .ref m47, .ref m48]))] sz)) (va_Qi (fun (r : Int32) (u : Unit) => r = 0) (tl_B D (va_A [(md, .inr (12, [.ref m0, .ref m1, .int 0, .ref m3, .ref m4, .ref m5, .ref m6, .ref m7, .ref m8, .ref m9, .ref m10, .ref m11, .ref m12, .ref m13, .ref m14, .ref m15, .ref m16, .int 0, .int 0, .int 0, .int 14, .int 0, .int 0, .int 0, .ref m24, .int 0, .ref m26, .int 0, .ref m28, .long 0, .ref m30, .ref m31, .int 0, .int 0, .int 0, .ref m35, .ref m36, .int 0, .ref m38, .int 0, .int 0, .ref m41, .ref m42, .ref m43, .ref m44, .ref m45, .ref m46, .ref m47, .ref m48]))] sz) (fun u : Unit => [(md, .inr (12, [.ref m0, .ref m1, .int 0, .ref m3, .ref m4, .ref m5, .ref m6, .ref m7, .ref m8, .ref m9, .ref m10, .ref m11, .ref m12, .ref m13, .ref m14, .ref m15, .ref m16, .int 0, .int 1, .int 0, .int 14, .int 0, .int 0, .int 0, .ref m24, .int 0, .ref m26, .int 0, .ref m28, .long 0, .ref m30, .ref m31, .int 0, .int 0, .int 0, .ref m35, .ref m36, .int 0, .ref m38, .int 0, .int 0, .ref m41, .ref m42, .ref m43, .ref m44, .ref m45, .ref m46, .ref m47, .ref m48]))])) (va_A [(md, .inr (12, [.ref m0, .ref m1, .int 0, .ref m3, .ref m4, .ref m5, .ref m6, .ref m7, .ref m8, .ref m9, .ref m10, .ref m11, .ref m12, .ref m13, .ref m14, .ref m15, .ref m16, .int 0, .int 0, .int 0, .int 14, .int 0, .int 0, .int 0, .ref m24, .int 0, .ref m26, .int 0, .ref m28, .long 0, .ref m30, .ref m31, .int 0, .int 0, .int 0, .ref m35, .ref m36, .int 0, .ref m38, .int 0, .int 0, .ref m41, .ref m42, .ref m43, .ref m44, .ref m45, .ref m46, .ref m47, .ref m48]))] sz)) 0 0 (va_A [(md, .inr (12, [.ref m0, .ref m1, .int 0, .ref m3, .ref m4, .ref m5, .ref m6, .ref m7, .ref m8, .ref m9, .ref m10, .ref m11, .ref m12, .ref m13, .ref m14, .ref m15, .ref m16, .int 0, .int 0, .int 0, .int 14, .int 0, .int 0, .int 0, .ref m24, .int 0, .ref m26, .int 0, .ref m28, .long 0, .ref m30, .ref m31, .int 0, .int 0, .int 0, .ref m35, .ref m36, .int 0, .ref m38, .int 0, .int 0, .ref m41, .ref m42, .ref m43, .ref m44, .ref m45, .ref m46, .ref m47, .ref m48]))] sz) := by
  refine Met.ofW (cc := cX12_clauseHere) (maxL := 4) (ret := (some .boolean)) (by decide) rfl ?_
  intro p e s m args below meth c s₁ B hml hv
  obtain ⟨rfl, hsz, hP, hK, hD0, hN⟩ := hv
  have hx := B.exec
  have hb := B.bytes
  have hr := B.returns
  have hta := tl_hta (atoms_spec (ws := tl_w yX12_clauseHere cX12_clauseHere 4 (some .boolean)) B.pre)
  have hown : s.vm.findClass RX12 = some m.cls := findClass_of_methodNamed B.named
  have hlocks := B.notSynchronized
  subst hsz
  have hD := hD0.self (sz := s.heap.size)
  generalize hAe : va_A [(md, .inr (12, [.ref m0, .ref m1, .int 0, .ref m3, .ref m4, .ref m5, .ref m6, .ref m7, .ref m8, .ref m9, .ref m10, .ref m11, .ref m12, .ref m13, .ref m14, .ref m15, .ref m16, .int 0, .int 0, .int 0, .int 14, .int 0, .int 0, .int 0, .ref m24, .int 0, .ref m26, .int 0, .ref m28, .long 0, .ref m30, .ref m31, .int 0, .int 0, .int 0, .ref m35, .ref m36, .int 0, .ref m38, .int 0, .int 0, .ref m41, .ref m42, .ref m43, .ref m44, .ref m45, .ref m46, .ref m47, .ref m48]))] s.heap.size = A at hD ⊢
  have hA : ∀ q : Nat, s.heap.size ≤ q → A q := fun q h => by rw [← hAe]; exact Or.inr h
  have hS : va_S A s.heap s.heap [] := va_S.rf
  have hP : va_P D vwCl [(md, .inr (12, [.ref m0, .ref m1, .int 0, .ref m3, .ref m4, .ref m5, .ref m6, .ref m7, .ref m8, .ref m9, .ref m10, .ref m11, .ref m12, .ref m13, .ref m14, .ref m15, .ref m16, .int 0, .int 0, .int 0, .int 14, .int 0, .int 0, .int 0, .ref m24, .int 0, .ref m26, .int 0, .ref m28, .long 0, .ref m30, .ref m31, .int 0, .int 0, .int 0, .ref m35, .ref m36, .int 0, .ref m38, .int 0, .int 0, .ref m41, .ref m42, .ref m43, .ref m44, .ref m45, .ref m46, .ref m47, .ref m48]))] s.heap := hP
  have hl := lv_entry ([.ref md]) (n := 4) (Nat.le_of_ble_eq_true rfl)
  rw [lg_entry_eq]
  generalize (lg_sl ([.ref md]) ++ List.replicate (4 - (lg_sl ([.ref md])).length) Slot.unset).toArray = ls at hl ⊢
  have hl : lv_has ls 4 [(0, .ref md)] := hl
  refine lv_aload_n hx hb dX12_clauseHere_0 rfl (lv_at hl 0 rfl) ?_
  refine tl_si (tl_rV (As := []) (rest := []) ⟨hx, hb, hml, hown, hta⟩ hK hN hP hD (ci := 12) rfl 0 rfl lk_X12_167 (c_X12_see_14 l D cy s.heap.size md m0 m1 m3 m4 m5 m6 m7 m8 m9 m10 m11 m12 m13 m14 m15 m16 m24 m26 m28 m30 m31 m35 m36 m38 m41 m42 m43 m44 m45 m46 m47 m48 ) rfl rfl ⟨Nat.le_of_ble_eq_true rfl, Nat.le_of_ble_eq_true rfl⟩ rfl hl.1 rfl (Nat.le_of_ble_eq_true rfl) dX12_clauseHere_1 ⟨Nat.le_of_ble_eq_true rfl, Nat.le_of_ble_eq_true rfl⟩) (fun r_2 hw_1 => ?_)
  subst hw_1
  refine lv_pop hx hb dX12_clauseHere_4 rfl ?_
  refine lv_aload_n hx hb dX12_clauseHere_5 rfl (lv_at hl 0 rfl) ?_
  refine va_get (D := D) (ci := 12) (v := .int 0) (C := RX12) (T := TX12) (N := 49) hx hb hta inlX12 hown hK hP 0 rfl rfl 17 (by decide) (hta _ wk_539) (fun _ h9 => h9) rfl dX12_clauseHere_6 ?_
  refine lv_istore_n (lv' := [(1, .int 0), (0, .ref md)]) hx hb dX12_clauseHere_9 rfl hl (by decide) rfl (fun ls hl => ?_)
  refine lv_aload_n hx hb dX12_clauseHere_10 rfl (lv_at hl 1 rfl) ?_
  refine lv_aload_n hx hb dX12_clauseHere_11 rfl (lv_at hl 1 rfl) ?_
  refine va_get (D := D) (ci := 12) (v := .int 14) (C := RX12) (T := TX12) (N := 49) hx hb hta inlX12 hown hK hP 0 rfl rfl 20 (by decide) (hta _ wk_537) (fun _ h9 => h9) rfl dX12_clauseHere_12 ?_
  refine tl_si (tl_rV (As := [.int 14]) (rest := []) ⟨hx, hb, hml, hown, hta⟩ hK hN hP hD (ci := 12) rfl 0 rfl lk_X12_194 (c_X12_kindOf_14 l D cy s.heap.size md m0 m1 m3 m4 m5 m6 m7 m8 m9 m10 m11 m12 m13 m14 m15 m16 m24 m26 m28 m30 m31 m35 m36 m38 m41 m42 m43 m44 m45 m46 m47 m48 ) rfl rfl ⟨Nat.le_of_ble_eq_true rfl, Nat.le_of_ble_eq_true rfl⟩ rfl hl.1 rfl (Nat.le_of_ble_eq_true rfl) dX12_clauseHere_15 ⟨Nat.le_of_ble_eq_true rfl, Nat.le_of_ble_eq_true rfl⟩) (fun r_4 hw_3 => ?_)
  subst hw_3
  refine lv_istore_n (lv' := [(2, .int 2), (1, .int 0), (0, .ref md)]) hx hb dX12_clauseHere_18 rfl hl (by decide) rfl (fun ls hl => ?_)
  refine lv_iload_n hx hb dX12_clauseHere_19 rfl (lv_at hl 0 rfl) ?_
  refine lv_if_ne (tgt := 71) hx hb dX12_clauseHere_20 (by decide) (fun _ => ?_) (fun c => absurd c (by decide))
  refine lv_iload_n hx hb dX12_clauseHere_71 rfl (lv_at hl 0 rfl) ?_
  refine lv_iconst (v := 1) hx hb dX12_clauseHere_72 (by decide) ?_
  refine lv_icmp_ne (tgt := 124) hx hb dX12_clauseHere_73 (by decide) (fun _ => ?_) (fun c => absurd c (by decide))
  refine lv_aload_n hx hb dX12_clauseHere_124 rfl (lv_at hl 2 rfl) ?_
  refine lv_ldc2 (v := 444150998387) hx hb hown (hta _ wk_560) dX12_clauseHere_125 ?_
  refine tl_si (tl_rV (As := [.long 444150998387]) (rest := []) ⟨hx, hb, hml, hown, hta⟩ hK hN hP hD (ci := 12) rfl 0 rfl lk_X12_174 (c_X12_isWord_14 l D cy s.heap.size md 444150998387 m0 m1 m3 m4 m5 m6 m7 m8 m9 m10 m11 m12 m13 m14 m15 m16 m24 m26 m28 m30 m31 m35 m36 m38 m41 m42 m43 m44 m45 m46 m47 m48 ) rfl rfl ⟨Nat.le_of_ble_eq_true rfl, Nat.le_of_ble_eq_true rfl⟩ rfl hl.1 rfl (Nat.le_of_ble_eq_true rfl) dX12_clauseHere_128 ⟨Nat.le_of_ble_eq_true rfl, Nat.le_of_ble_eq_true rfl⟩) (fun r_6 hw_5 => ?_)
  subst hw_5
  refine lv_istore_n (lv' := [(3, .int 0), (2, .int 2), (1, .int 0), (0, .ref md)]) hx hb dX12_clauseHere_131 rfl hl (by decide) rfl (fun ls hl => ?_)
  refine lv_iload_n hx hb dX12_clauseHere_132 rfl (lv_at hl 0 rfl) ?_
  refine lv_if_ne (tgt := 143) hx hb dX12_clauseHere_133 (by decide) (fun c => absurd c (by decide)) (fun _ => ?_)
  refine lv_aload_n hx hb dX12_clauseHere_136 rfl (lv_at hl 3 rfl) ?_
  refine lv_iconst (v := 0) hx hb dX12_clauseHere_137 (by decide) ?_
  refine lv_iload_n hx hb dX12_clauseHere_138 rfl (lv_at hl 2 rfl) ?_
  refine tl_ci (wr := []) _ _ hP hD hS hA [0] [] rfl rfl (by decide) (by decide) (tl_rV (As := [.int 0, .int 0]) (rest := []) ⟨hx, hb, hml, hown, hta⟩ hK hN hP hD (ci := 12) rfl 0 rfl lk_X12_184 (c_X12_fails_14 l D cy s.heap.size md m0 m1 m3 m4 m5 m6 m7 m8 m9 m10 m11 m12 m13 m14 m15 m16 m24 m26 m28 m30 m31 m35 m36 m38 m41 m42 m43 m44 m45 m46 m47 m48 ) rfl rfl ⟨Nat.le_of_ble_eq_true rfl, Nat.le_of_ble_eq_true rfl⟩ rfl hl.1 rfl (Nat.le_of_ble_eq_true rfl) dX12_clauseHere_139 ⟨Nat.le_of_ble_eq_true rfl, Nat.le_of_ble_eq_true rfl⟩) (fun r_8 u_9 H locs hw_7 hP hD hS => ?_)
  have hP : va_P D vwCl [(md, .inr (12, [.ref m0, .ref m1, .int 0, .ref m3, .ref m4, .ref m5, .ref m6, .ref m7, .ref m8, .ref m9, .ref m10, .ref m11, .ref m12, .ref m13, .ref m14, .ref m15, .ref m16, .int 0, .int 1, .int 0, .int 14, .int 0, .int 0, .int 0, .ref m24, .int 0, .ref m26, .int 0, .ref m28, .long 0, .ref m30, .ref m31, .int 0, .int 0, .int 0, .ref m35, .ref m36, .int 0, .ref m38, .int 0, .int 0, .ref m41, .ref m42, .ref m43, .ref m44, .ref m45, .ref m46, .ref m47, .ref m48]))] H := hP
  have hD : va_D A [(md, .inr (12, [.ref m0, .ref m1, .int 0, .ref m3, .ref m4, .ref m5, .ref m6, .ref m7, .ref m8, .ref m9, .ref m10, .ref m11, .ref m12, .ref m13, .ref m14, .ref m15, .ref m16, .int 0, .int 1, .int 0, .int 14, .int 0, .int 0, .int 0, .ref m24, .int 0, .ref m26, .int 0, .ref m28, .long 0, .ref m30, .ref m31, .int 0, .int 0, .int 0, .ref m35, .ref m36, .int 0, .ref m38, .int 0, .int 0, .ref m41, .ref m42, .ref m43, .ref m44, .ref m45, .ref m46, .ref m47, .ref m48]))] := hD
  refine W.widen (k := 0) (n := 0) (Nat.le_refl _) (Nat.le_refl _) ?_
  subst hw_7
  have hP9 := hP.sub (ws' := [(md, .inr (12, [.ref m0, .ref m1, .int 0, .ref m3, .ref m4, .ref m5, .ref m6, .ref m7, .ref m8, .ref m9, .ref m10, .ref m11, .ref m12, .ref m13, .ref m14, .ref m15, .ref m16, .int 0, .int 1, .int 0, .int 14, .int 0, .int 0, .int 0, .ref m24, .int 0, .ref m26, .int 0, .ref m28, .long 0, .ref m30, .ref m31, .int 0, .int 0, .int 0, .ref m35, .ref m36, .int 0, .ref m38, .int 0, .int 0, .ref m41, .ref m42, .ref m43, .ref m44, .ref m45, .ref m46, .ref m47, .ref m48]))]) [0] rfl
  have hD9 := hD.sub (ws' := [(md, .inr (12, [.ref m0, .ref m1, .int 0, .ref m3, .ref m4, .ref m5, .ref m6, .ref m7, .ref m8, .ref m9, .ref m10, .ref m11, .ref m12, .ref m13, .ref m14, .ref m15, .ref m16, .int 0, .int 1, .int 0, .int 14, .int 0, .int 0, .int 0, .ref m24, .int 0, .ref m26, .int 0, .ref m28, .long 0, .ref m30, .ref m31, .int 0, .int 0, .int 0, .ref m35, .ref m36, .int 0, .ref m38, .int 0, .int 0, .ref m41, .ref m42, .ref m43, .ref m44, .ref m45, .ref m46, .ref m47, .ref m48]))]) [0] (by decide) rfl
  exact W.zret (ty := .boolean) (v := 0) hx hb hr rfl (fun t ht hW => ⟨⟨_, (), rfl, rfl, by rw [ht]; exact hP9, hD9⟩, hS.F ht⟩) hS.2.2 dX12_clauseHere_142
set_option maxHeartbeats 4000000 in
set_option maxRecDepth 100000 in
theorem c_X12_mostOf_0 (l : Launch) (D : va_G) (cy : Nat → ClassId) (sz : Nat)   : Met l yX12_mostOf (tl_w yX12_mostOf cX12_mostOf 1 (some .int)) ({ frames := 0, cells := 0, slots := 0, locals := 0 }) (va_Pc [.int 0] (tl_P D cy [] sz)) (vp_Si (fun r : Int32 => r = 6)) 0 0 (fun _ => False) := by
  refine Met.ofW (cc := cX12_mostOf) (maxL := 1) (ret := (some .int)) (by decide) rfl ?_
  intro p e s m args below meth c s₁ B hml hv
  obtain ⟨rfl, hsz, hP, hK, hD0, hN⟩ := hv
  have hx := B.exec
  have hb := B.bytes
  have hr := B.returns
  have hta := tl_hta (atoms_spec (ws := tl_w yX12_mostOf cX12_mostOf 1 (some .int)) B.pre)
  have hown : s.vm.findClass RX12 = some m.cls := findClass_of_methodNamed B.named
  have hlocks := B.notSynchronized
  subst hsz
  have hD := hD0
  have hP : va_P D vwCl [] s.heap := hP
  have hl := lv_entry ([.int 0]) (n := 1) (Nat.le_of_ble_eq_true rfl)
  rw [lg_entry_eq]
  generalize (lg_sl ([.int 0]) ++ List.replicate (1 - (lg_sl ([.int 0])).length) Slot.unset).toArray = ls at hl ⊢
  have hl : lv_has ls 1 [(0, .int 0)] := hl
  refine lv_iload_n hx hb dX12_mostOf_0 rfl (lv_at hl 0 rfl) ?_
  refine lv_if_ne (tgt := 9) hx hb dX12_mostOf_1 (by decide) (fun c => absurd c (by decide)) (fun _ => ?_)
  refine lv_bipush (v := 6) hx hb dX12_mostOf_4 (by decide) ?_
  refine lv_goto (tgt := 21) hx hb dX12_mostOf_6 (by decide) ?_
  exact W.iret (v := 6) hx hb hr (fun t ht hW => ⟨_, rfl, rfl, ht⟩) (fun q h => by cases h) dX12_mostOf_21
set_option maxHeartbeats 4000000 in
set_option maxRecDepth 100000 in
theorem c_X12_firstOf_0 (l : Launch) (D : va_G) (cy : Nat → ClassId) (sz : Nat)   : Met l yX12_firstOf (tl_w yX12_firstOf cX12_firstOf 1 (some .int)) ({ frames := 0, cells := 0, slots := 0, locals := 0 }) (va_Pc [.int 0] (tl_P D cy [] sz)) (vp_Si (fun r : Int32 => r = 0)) 0 0 (fun _ => False) := by
  refine Met.ofW (cc := cX12_firstOf) (maxL := 1) (ret := (some .int)) (by decide) rfl ?_
  intro p e s m args below meth c s₁ B hml hv
  obtain ⟨rfl, hsz, hP, hK, hD0, hN⟩ := hv
  have hx := B.exec
  have hb := B.bytes
  have hr := B.returns
  have hta := tl_hta (atoms_spec (ws := tl_w yX12_firstOf cX12_firstOf 1 (some .int)) B.pre)
  have hown : s.vm.findClass RX12 = some m.cls := findClass_of_methodNamed B.named
  have hlocks := B.notSynchronized
  subst hsz
  have hD := hD0
  have hP : va_P D vwCl [] s.heap := hP
  have hl := lv_entry ([.int 0]) (n := 1) (Nat.le_of_ble_eq_true rfl)
  rw [lg_entry_eq]
  generalize (lg_sl ([.int 0]) ++ List.replicate (1 - (lg_sl ([.int 0])).length) Slot.unset).toArray = ls at hl ⊢
  have hl : lv_has ls 1 [(0, .int 0)] := hl
  refine lv_iload_n hx hb dX12_firstOf_0 rfl (lv_at hl 0 rfl) ?_
  refine lv_if_ne (tgt := 8) hx hb dX12_firstOf_1 (by decide) (fun c => absurd c (by decide)) (fun _ => ?_)
  refine lv_iconst (v := 0) hx hb dX12_firstOf_4 (by decide) ?_
  refine lv_goto (tgt := 20) hx hb dX12_firstOf_5 (by decide) ?_
  exact W.iret (v := 0) hx hb hr (fun t ht hW => ⟨_, rfl, rfl, ht⟩) (fun q h => by cases h) dX12_firstOf_20
set_option maxHeartbeats 4000000 in
set_option maxRecDepth 100000 in
theorem c_X12_mostOf_1 (l : Launch) (D : va_G) (cy : Nat → ClassId) (sz : Nat)   : Met l yX12_mostOf (tl_w yX12_mostOf cX12_mostOf 1 (some .int)) ({ frames := 0, cells := 0, slots := 0, locals := 0 }) (va_Pc [.int 1] (tl_P D cy [] sz)) (vp_Si (fun r : Int32 => r = 8)) 0 0 (fun _ => False) := by
  refine Met.ofW (cc := cX12_mostOf) (maxL := 1) (ret := (some .int)) (by decide) rfl ?_
  intro p e s m args below meth c s₁ B hml hv
  obtain ⟨rfl, hsz, hP, hK, hD0, hN⟩ := hv
  have hx := B.exec
  have hb := B.bytes
  have hr := B.returns
  have hta := tl_hta (atoms_spec (ws := tl_w yX12_mostOf cX12_mostOf 1 (some .int)) B.pre)
  have hown : s.vm.findClass RX12 = some m.cls := findClass_of_methodNamed B.named
  have hlocks := B.notSynchronized
  subst hsz
  have hD := hD0
  have hP : va_P D vwCl [] s.heap := hP
  have hl := lv_entry ([.int 1]) (n := 1) (Nat.le_of_ble_eq_true rfl)
  rw [lg_entry_eq]
  generalize (lg_sl ([.int 1]) ++ List.replicate (1 - (lg_sl ([.int 1])).length) Slot.unset).toArray = ls at hl ⊢
  have hl : lv_has ls 1 [(0, .int 1)] := hl
  refine lv_iload_n hx hb dX12_mostOf_0 rfl (lv_at hl 0 rfl) ?_
  refine lv_if_ne (tgt := 9) hx hb dX12_mostOf_1 (by decide) (fun _ => ?_) (fun c => absurd c (by decide))
  refine lv_iload_n hx hb dX12_mostOf_9 rfl (lv_at hl 0 rfl) ?_
  refine lv_iconst (v := 1) hx hb dX12_mostOf_10 (by decide) ?_
  refine lv_icmp_ne (tgt := 19) hx hb dX12_mostOf_11 (by decide) (fun c => absurd c (by decide)) (fun _ => ?_)
  refine lv_bipush (v := 8) hx hb dX12_mostOf_14 (by decide) ?_
  refine lv_goto (tgt := 21) hx hb dX12_mostOf_16 (by decide) ?_
  exact W.iret (v := 8) hx hb hr (fun t ht hW => ⟨_, rfl, rfl, ht⟩) (fun q h => by cases h) dX12_mostOf_21
set_option maxHeartbeats 4000000 in
set_option maxRecDepth 100000 in
theorem c_X12_firstOf_1 (l : Launch) (D : va_G) (cy : Nat → ClassId) (sz : Nat)   : Met l yX12_firstOf (tl_w yX12_firstOf cX12_firstOf 1 (some .int)) ({ frames := 0, cells := 0, slots := 0, locals := 0 }) (va_Pc [.int 1] (tl_P D cy [] sz)) (vp_Si (fun r : Int32 => r = 6)) 0 0 (fun _ => False) := by
  refine Met.ofW (cc := cX12_firstOf) (maxL := 1) (ret := (some .int)) (by decide) rfl ?_
  intro p e s m args below meth c s₁ B hml hv
  obtain ⟨rfl, hsz, hP, hK, hD0, hN⟩ := hv
  have hx := B.exec
  have hb := B.bytes
  have hr := B.returns
  have hta := tl_hta (atoms_spec (ws := tl_w yX12_firstOf cX12_firstOf 1 (some .int)) B.pre)
  have hown : s.vm.findClass RX12 = some m.cls := findClass_of_methodNamed B.named
  have hlocks := B.notSynchronized
  subst hsz
  have hD := hD0
  have hP : va_P D vwCl [] s.heap := hP
  have hl := lv_entry ([.int 1]) (n := 1) (Nat.le_of_ble_eq_true rfl)
  rw [lg_entry_eq]
  generalize (lg_sl ([.int 1]) ++ List.replicate (1 - (lg_sl ([.int 1])).length) Slot.unset).toArray = ls at hl ⊢
  have hl : lv_has ls 1 [(0, .int 1)] := hl
  refine lv_iload_n hx hb dX12_firstOf_0 rfl (lv_at hl 0 rfl) ?_
  refine lv_if_ne (tgt := 8) hx hb dX12_firstOf_1 (by decide) (fun _ => ?_) (fun c => absurd c (by decide))
  refine lv_iload_n hx hb dX12_firstOf_8 rfl (lv_at hl 0 rfl) ?_
  refine lv_iconst (v := 1) hx hb dX12_firstOf_9 (by decide) ?_
  refine lv_icmp_ne (tgt := 18) hx hb dX12_firstOf_10 (by decide) (fun c => absurd c (by decide)) (fun _ => ?_)
  refine lv_bipush (v := 6) hx hb dX12_firstOf_13 (by decide) ?_
  refine lv_goto (tgt := 20) hx hb dX12_firstOf_15 (by decide) ?_
  exact W.iret (v := 6) hx hb hr (fun t ht hW => ⟨_, rfl, rfl, ht⟩) (fun q h => by cases h) dX12_firstOf_20
set_option maxHeartbeats 4000000 in
set_option maxRecDepth 100000 in
theorem c_X12_mostOf_2 (l : Launch) (D : va_G) (cy : Nat → ClassId) (sz : Nat)   : Met l yX12_mostOf (tl_w yX12_mostOf cX12_mostOf 1 (some .int)) ({ frames := 0, cells := 0, slots := 0, locals := 0 }) (va_Pc [.int 2] (tl_P D cy [] sz)) (vp_Si (fun r : Int32 => r = 8)) 0 0 (fun _ => False) := by
  refine Met.ofW (cc := cX12_mostOf) (maxL := 1) (ret := (some .int)) (by decide) rfl ?_
  intro p e s m args below meth c s₁ B hml hv
  obtain ⟨rfl, hsz, hP, hK, hD0, hN⟩ := hv
  have hx := B.exec
  have hb := B.bytes
  have hr := B.returns
  have hta := tl_hta (atoms_spec (ws := tl_w yX12_mostOf cX12_mostOf 1 (some .int)) B.pre)
  have hown : s.vm.findClass RX12 = some m.cls := findClass_of_methodNamed B.named
  have hlocks := B.notSynchronized
  subst hsz
  have hD := hD0
  have hP : va_P D vwCl [] s.heap := hP
  have hl := lv_entry ([.int 2]) (n := 1) (Nat.le_of_ble_eq_true rfl)
  rw [lg_entry_eq]
  generalize (lg_sl ([.int 2]) ++ List.replicate (1 - (lg_sl ([.int 2])).length) Slot.unset).toArray = ls at hl ⊢
  have hl : lv_has ls 1 [(0, .int 2)] := hl
  refine lv_iload_n hx hb dX12_mostOf_0 rfl (lv_at hl 0 rfl) ?_
  refine lv_if_ne (tgt := 9) hx hb dX12_mostOf_1 (by decide) (fun _ => ?_) (fun c => absurd c (by decide))
  refine lv_iload_n hx hb dX12_mostOf_9 rfl (lv_at hl 0 rfl) ?_
  refine lv_iconst (v := 1) hx hb dX12_mostOf_10 (by decide) ?_
  refine lv_icmp_ne (tgt := 19) hx hb dX12_mostOf_11 (by decide) (fun _ => ?_) (fun c => absurd c (by decide))
  refine lv_bipush (v := 8) hx hb dX12_mostOf_19 (by decide) ?_
  exact W.iret (v := 8) hx hb hr (fun t ht hW => ⟨_, rfl, rfl, ht⟩) (fun q h => by cases h) dX12_mostOf_21
set_option maxHeartbeats 4000000 in
set_option maxRecDepth 100000 in
theorem c_X12_firstOf_2 (l : Launch) (D : va_G) (cy : Nat → ClassId) (sz : Nat)   : Met l yX12_firstOf (tl_w yX12_firstOf cX12_firstOf 1 (some .int)) ({ frames := 0, cells := 0, slots := 0, locals := 0 }) (va_Pc [.int 2] (tl_P D cy [] sz)) (vp_Si (fun r : Int32 => r = 14)) 0 0 (fun _ => False) := by
  refine Met.ofW (cc := cX12_firstOf) (maxL := 1) (ret := (some .int)) (by decide) rfl ?_
  intro p e s m args below meth c s₁ B hml hv
  obtain ⟨rfl, hsz, hP, hK, hD0, hN⟩ := hv
  have hx := B.exec
  have hb := B.bytes
  have hr := B.returns
  have hta := tl_hta (atoms_spec (ws := tl_w yX12_firstOf cX12_firstOf 1 (some .int)) B.pre)
  have hown : s.vm.findClass RX12 = some m.cls := findClass_of_methodNamed B.named
  have hlocks := B.notSynchronized
  subst hsz
  have hD := hD0
  have hP : va_P D vwCl [] s.heap := hP
  have hl := lv_entry ([.int 2]) (n := 1) (Nat.le_of_ble_eq_true rfl)
  rw [lg_entry_eq]
  generalize (lg_sl ([.int 2]) ++ List.replicate (1 - (lg_sl ([.int 2])).length) Slot.unset).toArray = ls at hl ⊢
  have hl : lv_has ls 1 [(0, .int 2)] := hl
  refine lv_iload_n hx hb dX12_firstOf_0 rfl (lv_at hl 0 rfl) ?_
  refine lv_if_ne (tgt := 8) hx hb dX12_firstOf_1 (by decide) (fun _ => ?_) (fun c => absurd c (by decide))
  refine lv_iload_n hx hb dX12_firstOf_8 rfl (lv_at hl 0 rfl) ?_
  refine lv_iconst (v := 1) hx hb dX12_firstOf_9 (by decide) ?_
  refine lv_icmp_ne (tgt := 18) hx hb dX12_firstOf_10 (by decide) (fun _ => ?_) (fun c => absurd c (by decide))
  refine lv_bipush (v := 14) hx hb dX12_firstOf_18 (by decide) ?_
  exact W.iret (v := 14) hx hb hr (fun t ht hW => ⟨_, rfl, rfl, ht⟩) (fun q h => by cases h) dX12_firstOf_20
set_option maxHeartbeats 4000000 in
set_option maxRecDepth 100000 in
theorem c_X12_text_0 (l : Launch) (D : va_G) (cy : Nat → ClassId) (sz : Nat) (md : Nat) (m0 : Nat) (m1 : Nat) (m3 : Nat) (m4 : Nat) (m5 : Nat) (m6 : Nat) (m7 : Nat) (m8 : Nat) (m9 : Nat) (m10 : Nat) (m11 : Nat) (m12 : Nat) (m13 : Nat) (m14 : Nat) (m15 : Nat) (m16 : Nat) (m24 : Nat) (m26 : Nat) (m28 : Nat) (m30 : Nat) (m31 : Nat) (m35 : Nat) (m36 : Nat) (m38 : Nat) (m41 : Nat) (m42 : Nat) (m43 : Nat) (m44 : Nat) (m45 : Nat) (m46 : Nat) (m47 : Nat) (m48 : Nat)  : Met l yX12_text (tl_w yX12_text cX12_text 3 (some .int)) ({ frames := 6, cells := 0, slots := 0, locals := 260 }) (va_Pc [.ref md, .int 0] (tl_P D cy [(md, .inr (12, [.ref m0, .ref m1, .int 0, .ref m3, .ref m4, .ref m5, .ref m6, .ref m7, .ref m8, .ref m9, .ref m10, .ref m11, .ref m12, .ref m13, .ref m14, .ref m15, .ref m16, .int 0, .int 0, .int 0, .int 0, .int 0, .int 0, .int 0, .ref m24, .int 0, .ref m26, .int 0, .ref m28, .long 0, .ref m30, .ref m31, .int 0, .int 0, .int 0, .ref m35, .ref m36, .int 0, .ref m38, .int 0, .int 0, .ref m41, .ref m42, .ref m43, .ref m44, .ref m45, .ref m46, .ref m47, .ref m48])), (m3, .inl (cy 0, 3, .inl (fun _ => 0))), (m5, .inl (cy 0, 22, .inl (fun _ => 0))), (m7, .inl (cy 0, 22, .inl (fun _ => 0))), (m9, .inl (cy 0, 6, .inl (fun _ => 0))), (m10, .inl (cy 0, 22, .inl (fun _ => 0))), (m12, .inl (cy 0, 22, .inl (fun _ => 0))), (m13, .inl (cy 0, 22, .inl (fun _ => 0))), (m14, .inl (cy 0, 22, .inl (fun _ => 0))), (m16, .inl (cy 0, 22, .inl (fun _ => 0)))] sz)) (va_Qi (fun (r : Int32) (u : Unit) => tl_E r (0 ≤ (0 : Int32).toInt ∧ (0 : Int32).toInt ≤ 2) (-3) (-1)) (tl_B D (va_A [(md, .inr (12, [.ref m0, .ref m1, .int 0, .ref m3, .ref m4, .ref m5, .ref m6, .ref m7, .ref m8, .ref m9, .ref m10, .ref m11, .ref m12, .ref m13, .ref m14, .ref m15, .ref m16, .int 0, .int 0, .int 0, .int 0, .int 0, .int 0, .int 0, .ref m24, .int 0, .ref m26, .int 0, .ref m28, .long 0, .ref m30, .ref m31, .int 0, .int 0, .int 0, .ref m35, .ref m36, .int 0, .ref m38, .int 0, .int 0, .ref m41, .ref m42, .ref m43, .ref m44, .ref m45, .ref m46, .ref m47, .ref m48])), (m3, .inl (cy 0, 3, .inl (fun _ => 0))), (m5, .inl (cy 0, 22, .inl (fun _ => 0))), (m7, .inl (cy 0, 22, .inl (fun _ => 0))), (m9, .inl (cy 0, 6, .inl (fun _ => 0))), (m10, .inl (cy 0, 22, .inl (fun _ => 0))), (m12, .inl (cy 0, 22, .inl (fun _ => 0))), (m13, .inl (cy 0, 22, .inl (fun _ => 0))), (m14, .inl (cy 0, 22, .inl (fun _ => 0))), (m16, .inl (cy 0, 22, .inl (fun _ => 0)))] sz) (fun u : Unit => [])) (va_A [(md, .inr (12, [.ref m0, .ref m1, .int 0, .ref m3, .ref m4, .ref m5, .ref m6, .ref m7, .ref m8, .ref m9, .ref m10, .ref m11, .ref m12, .ref m13, .ref m14, .ref m15, .ref m16, .int 0, .int 0, .int 0, .int 0, .int 0, .int 0, .int 0, .ref m24, .int 0, .ref m26, .int 0, .ref m28, .long 0, .ref m30, .ref m31, .int 0, .int 0, .int 0, .ref m35, .ref m36, .int 0, .ref m38, .int 0, .int 0, .ref m41, .ref m42, .ref m43, .ref m44, .ref m45, .ref m46, .ref m47, .ref m48])), (m3, .inl (cy 0, 3, .inl (fun _ => 0))), (m5, .inl (cy 0, 22, .inl (fun _ => 0))), (m7, .inl (cy 0, 22, .inl (fun _ => 0))), (m9, .inl (cy 0, 6, .inl (fun _ => 0))), (m10, .inl (cy 0, 22, .inl (fun _ => 0))), (m12, .inl (cy 0, 22, .inl (fun _ => 0))), (m13, .inl (cy 0, 22, .inl (fun _ => 0))), (m14, .inl (cy 0, 22, .inl (fun _ => 0))), (m16, .inl (cy 0, 22, .inl (fun _ => 0)))] sz)) 0 0 (va_A [(md, .inr (12, [.ref m0, .ref m1, .int 0, .ref m3, .ref m4, .ref m5, .ref m6, .ref m7, .ref m8, .ref m9, .ref m10, .ref m11, .ref m12, .ref m13, .ref m14, .ref m15, .ref m16, .int 0, .int 0, .int 0, .int 0, .int 0, .int 0, .int 0, .ref m24, .int 0, .ref m26, .int 0, .ref m28, .long 0, .ref m30, .ref m31, .int 0, .int 0, .int 0, .ref m35, .ref m36, .int 0, .ref m38, .int 0, .int 0, .ref m41, .ref m42, .ref m43, .ref m44, .ref m45, .ref m46, .ref m47, .ref m48])), (m3, .inl (cy 0, 3, .inl (fun _ => 0))), (m5, .inl (cy 0, 22, .inl (fun _ => 0))), (m7, .inl (cy 0, 22, .inl (fun _ => 0))), (m9, .inl (cy 0, 6, .inl (fun _ => 0))), (m10, .inl (cy 0, 22, .inl (fun _ => 0))), (m12, .inl (cy 0, 22, .inl (fun _ => 0))), (m13, .inl (cy 0, 22, .inl (fun _ => 0))), (m14, .inl (cy 0, 22, .inl (fun _ => 0))), (m16, .inl (cy 0, 22, .inl (fun _ => 0)))] sz) := by
  refine Met.ofW (cc := cX12_text) (maxL := 3) (ret := (some .int)) (by decide) rfl ?_
  intro p e s m args below meth c s₁ B hml hv
  obtain ⟨rfl, hsz, hP, hK, hD0, hN⟩ := hv
  have hx := B.exec
  have hb := B.bytes
  have hr := B.returns
  have hta := tl_hta (atoms_spec (ws := tl_w yX12_text cX12_text 3 (some .int)) B.pre)
  have hown : s.vm.findClass RX12 = some m.cls := findClass_of_methodNamed B.named
  have hlocks := B.notSynchronized
  subst hsz
  have hD := hD0.self (sz := s.heap.size)
  generalize hAe : va_A [(md, .inr (12, [.ref m0, .ref m1, .int 0, .ref m3, .ref m4, .ref m5, .ref m6, .ref m7, .ref m8, .ref m9, .ref m10, .ref m11, .ref m12, .ref m13, .ref m14, .ref m15, .ref m16, .int 0, .int 0, .int 0, .int 0, .int 0, .int 0, .int 0, .ref m24, .int 0, .ref m26, .int 0, .ref m28, .long 0, .ref m30, .ref m31, .int 0, .int 0, .int 0, .ref m35, .ref m36, .int 0, .ref m38, .int 0, .int 0, .ref m41, .ref m42, .ref m43, .ref m44, .ref m45, .ref m46, .ref m47, .ref m48])), (m3, .inl (cy 0, 3, .inl (fun _ => 0))), (m5, .inl (cy 0, 22, .inl (fun _ => 0))), (m7, .inl (cy 0, 22, .inl (fun _ => 0))), (m9, .inl (cy 0, 6, .inl (fun _ => 0))), (m10, .inl (cy 0, 22, .inl (fun _ => 0))), (m12, .inl (cy 0, 22, .inl (fun _ => 0))), (m13, .inl (cy 0, 22, .inl (fun _ => 0))), (m14, .inl (cy 0, 22, .inl (fun _ => 0))), (m16, .inl (cy 0, 22, .inl (fun _ => 0)))] s.heap.size = A at hD ⊢
  have hA : ∀ q : Nat, s.heap.size ≤ q → A q := fun q h => by rw [← hAe]; exact Or.inr h
  have hS : va_S A s.heap s.heap [] := va_S.rf
  have hP : va_P D vwCl [(md, .inr (12, [.ref m0, .ref m1, .int 0, .ref m3, .ref m4, .ref m5, .ref m6, .ref m7, .ref m8, .ref m9, .ref m10, .ref m11, .ref m12, .ref m13, .ref m14, .ref m15, .ref m16, .int 0, .int 0, .int 0, .int 0, .int 0, .int 0, .int 0, .ref m24, .int 0, .ref m26, .int 0, .ref m28, .long 0, .ref m30, .ref m31, .int 0, .int 0, .int 0, .ref m35, .ref m36, .int 0, .ref m38, .int 0, .int 0, .ref m41, .ref m42, .ref m43, .ref m44, .ref m45, .ref m46, .ref m47, .ref m48])), (m3, .inl (cy 0, 3, .inl (fun _ => 0))), (m5, .inl (cy 0, 22, .inl (fun _ => 0))), (m7, .inl (cy 0, 22, .inl (fun _ => 0))), (m9, .inl (cy 0, 6, .inl (fun _ => 0))), (m10, .inl (cy 0, 22, .inl (fun _ => 0))), (m12, .inl (cy 0, 22, .inl (fun _ => 0))), (m13, .inl (cy 0, 22, .inl (fun _ => 0))), (m14, .inl (cy 0, 22, .inl (fun _ => 0))), (m16, .inl (cy 0, 22, .inl (fun _ => 0)))] s.heap := hP
  have hl := lv_entry ([.ref md, .int 0]) (n := 3) (Nat.le_of_ble_eq_true rfl)
  rw [lg_entry_eq]
  generalize (lg_sl ([.ref md, .int 0]) ++ List.replicate (3 - (lg_sl ([.ref md, .int 0])).length) Slot.unset).toArray = ls at hl ⊢
  have hl : lv_has ls 3 [(0, .ref md), (1, .int 0)] := hl
  refine lv_iload_n hx hb dX12_text_0 rfl (lv_at hl 1 rfl) ?_
  refine lv_i2l (v := 0) hx hb dX12_text_1 (by first | rfl | decide) ?_
  refine lv_lconst (v := 0) hx hb dX12_text_2 (by decide) ?_
  refine lv_ldc2 (v := 2) hx hb hown (hta _ wk_536) dX12_text_3 ?_
  have hPc := hP.sub (ws' := []) [] rfl
  have hDc := hD.sub (ws' := []) [] (by decide) rfl
  refine tl_si (tl_rS (As := [.long 0, .long 0, .long 2]) (rest := []) ⟨hx, hb, hml, hown, hta⟩ hK hN hPc hDc lk_X12_112 (c_X12_in l D cy s.heap.size 0 0 2 ) rfl rfl ⟨Nat.le_of_ble_eq_true rfl, Nat.le_of_ble_eq_true rfl⟩ rfl hl.1 rfl (Nat.le_of_ble_eq_true rfl) dX12_text_6 ⟨Nat.le_of_ble_eq_true rfl, Nat.le_of_ble_eq_true rfl⟩) (fun r_2 hw_1 => ?_)
  have hw_1 : tl_E r_2 ((0 : Int) ≤ (0 : Int) ∧ (0 : Int) ≤ (2 : Int)) 1 0 := hw_1
  refine lv_if_eq (tgt := 25) hx hb dX12_text_9 (by decide) (fun c_3 => ?_) (fun c_3 => ?_)
  · have c_3 := hw_1.f c_3
    exfalso; omega
  · have c_3 := hw_1.t c_3
    refine lv_aload_n hx hb dX12_text_12 rfl (lv_at hl 0 rfl) ?_
    refine va_get (D := D) (ci := 12) (v := .ref m3) (C := RX12) (T := TX12) (N := 49) hx hb hta inlX12 hown hK hP 0 rfl rfl 3 (by decide) (hta _ wk_152) (fun _ h9 => h9) rfl dX12_text_13 ?_
    refine lv_iload_n hx hb dX12_text_16 rfl (lv_at hl 1 rfl) ?_
    refine va_iald (D := D) hx hb hK hP 1 0 rfl rfl (tl_in (by decide) (by decide)) dX12_text_17 ?_
    refine W.eq (g2 := F0 m 18 ls ([.int 0])) rfl ?_
    refine lv_iload_n hx hb dX12_text_18 rfl (lv_at hl 1 rfl) ?_
    have hPc := hP.sub (ws' := []) [] rfl
    have hDc := hD.sub (ws' := []) [] (by decide) rfl
    refine tl_si (tl_rS (As := [.int 0]) (rest := [.int 0]) ⟨hx, hb, hml, hown, hta⟩ hK hN hPc hDc lk_X12_324 (c_X12_mostOf_0 l D cy s.heap.size  ) rfl rfl ⟨Nat.le_of_ble_eq_true rfl, Nat.le_of_ble_eq_true rfl⟩ rfl hl.1 rfl (Nat.le_of_ble_eq_true rfl) dX12_text_19 ⟨Nat.le_of_ble_eq_true rfl, Nat.le_of_ble_eq_true rfl⟩) (fun r_5 hw_4 => ?_)
    subst hw_4
    refine lv_icmp_ne (tgt := 27) hx hb dX12_text_22 (by decide) (fun _ => ?_) (fun c => absurd c (by decide))
    refine lv_aload_n hx hb dX12_text_27 rfl (lv_at hl 0 rfl) ?_
    refine lv_iload_n hx hb dX12_text_28 rfl (lv_at hl 1 rfl) ?_
    have hPc := hP.sub (ws' := []) [] rfl
    have hDc := hD.sub (ws' := []) [] (by decide) rfl
    refine tl_si (tl_rS (As := [.int 0]) (rest := [.ref md]) ⟨hx, hb, hml, hown, hta⟩ hK hN hPc hDc lk_X12_327 (c_X12_firstOf_0 l D cy s.heap.size  ) rfl rfl ⟨Nat.le_of_ble_eq_true rfl, Nat.le_of_ble_eq_true rfl⟩ rfl hl.1 rfl (Nat.le_of_ble_eq_true rfl) dX12_text_29 ⟨Nat.le_of_ble_eq_true rfl, Nat.le_of_ble_eq_true rfl⟩) (fun r_7 hw_6 => ?_)
    subst hw_6
    refine lv_aload_n hx hb dX12_text_32 rfl (lv_at hl 0 rfl) ?_
    refine va_get (D := D) (ci := 12) (v := .ref m3) (C := RX12) (T := TX12) (N := 49) hx hb hta inlX12 hown hK hP 0 rfl rfl 3 (by decide) (hta _ wk_152) (fun _ h9 => h9) rfl dX12_text_33 ?_
    refine lv_iload_n hx hb dX12_text_36 rfl (lv_at hl 1 rfl) ?_
    refine va_iald (D := D) hx hb hK hP 1 0 rfl rfl (tl_in (by decide) (by decide)) dX12_text_37 ?_
    refine W.eq (g2 := F0 m 38 ls ([.int 0, .int 0, .ref md])) rfl ?_
    refine lv_iadd hx hb dX12_text_38 ?_
    refine lv_topi (fun z_8 ez_8 => ?_)
    obtain rfl : z_8 = (0 : Int32) := ez_8.trans (by decide)
    refine va_put (D := D) (ci := 12) (v := .int 0) (ty := tyX12 20) (C := RX12) (T := TX12) (N := 49) hx hb hta inlX12 tyX12 tyX12_ok nmX12 hown hK hP hD hS 0 rfl rfl 20 (by decide) (hta _ wk_537) (fun _ h9 => h9) rfl (tyX12_ok 20 (by decide)) rfl rfl (Nat.le_of_ble_eq_true rfl) dX12_text_39 (fun H locs hP hD hS => ?_)
    have hP : va_P D vwCl [(md, .inr (12, [.ref m0, .ref m1, .int 0, .ref m3, .ref m4, .ref m5, .ref m6, .ref m7, .ref m8, .ref m9, .ref m10, .ref m11, .ref m12, .ref m13, .ref m14, .ref m15, .ref m16, .int 0, .int 0, .int 0, .int 0, .int 0, .int 0, .int 0, .ref m24, .int 0, .ref m26, .int 0, .ref m28, .long 0, .ref m30, .ref m31, .int 0, .int 0, .int 0, .ref m35, .ref m36, .int 0, .ref m38, .int 0, .int 0, .ref m41, .ref m42, .ref m43, .ref m44, .ref m45, .ref m46, .ref m47, .ref m48])), (m3, .inl (cy 0, 3, .inl (fun _ => 0))), (m5, .inl (cy 0, 22, .inl (fun _ => 0))), (m7, .inl (cy 0, 22, .inl (fun _ => 0))), (m9, .inl (cy 0, 6, .inl (fun _ => 0))), (m10, .inl (cy 0, 22, .inl (fun _ => 0))), (m12, .inl (cy 0, 22, .inl (fun _ => 0))), (m13, .inl (cy 0, 22, .inl (fun _ => 0))), (m14, .inl (cy 0, 22, .inl (fun _ => 0))), (m16, .inl (cy 0, 22, .inl (fun _ => 0)))] H := hP
    have hD : va_D A [(md, .inr (12, [.ref m0, .ref m1, .int 0, .ref m3, .ref m4, .ref m5, .ref m6, .ref m7, .ref m8, .ref m9, .ref m10, .ref m11, .ref m12, .ref m13, .ref m14, .ref m15, .ref m16, .int 0, .int 0, .int 0, .int 0, .int 0, .int 0, .int 0, .ref m24, .int 0, .ref m26, .int 0, .ref m28, .long 0, .ref m30, .ref m31, .int 0, .int 0, .int 0, .ref m35, .ref m36, .int 0, .ref m38, .int 0, .int 0, .ref m41, .ref m42, .ref m43, .ref m44, .ref m45, .ref m46, .ref m47, .ref m48])), (m3, .inl (cy 0, 3, .inl (fun _ => 0))), (m5, .inl (cy 0, 22, .inl (fun _ => 0))), (m7, .inl (cy 0, 22, .inl (fun _ => 0))), (m9, .inl (cy 0, 6, .inl (fun _ => 0))), (m10, .inl (cy 0, 22, .inl (fun _ => 0))), (m12, .inl (cy 0, 22, .inl (fun _ => 0))), (m13, .inl (cy 0, 22, .inl (fun _ => 0))), (m14, .inl (cy 0, 22, .inl (fun _ => 0))), (m16, .inl (cy 0, 22, .inl (fun _ => 0)))] := hD
    refine lv_aload_n hx hb dX12_text_42 rfl (lv_at hl 0 rfl) ?_
    refine va_get (D := D) (ci := 12) (v := .ref m5) (C := RX12) (T := TX12) (N := 49) hx hb hta inlX12 hown hK hP 0 rfl rfl 5 (by decide) (hta _ wk_154) (fun _ h9 => h9) rfl dX12_text_43 ?_
    refine lv_aload_n hx hb dX12_text_46 rfl (lv_at hl 0 rfl) ?_
    refine va_get (D := D) (ci := 12) (v := .int 0) (C := RX12) (T := TX12) (N := 49) hx hb hta inlX12 hown hK hP 0 rfl rfl 20 (by decide) (hta _ wk_537) (fun _ h9 => h9) rfl dX12_text_47 ?_
    refine lv_iconst (v := 0) hx hb dX12_text_50 (by decide) ?_
    refine va_iast (D := D) hx hb hK hP hD hS 2 0 rfl rfl (tl_in (by decide) (by decide)) dX12_text_51 (fun H locs hP hD hS => ?_)
    have hP : va_P D vwCl [(md, .inr (12, [.ref m0, .ref m1, .int 0, .ref m3, .ref m4, .ref m5, .ref m6, .ref m7, .ref m8, .ref m9, .ref m10, .ref m11, .ref m12, .ref m13, .ref m14, .ref m15, .ref m16, .int 0, .int 0, .int 0, .int 0, .int 0, .int 0, .int 0, .ref m24, .int 0, .ref m26, .int 0, .ref m28, .long 0, .ref m30, .ref m31, .int 0, .int 0, .int 0, .ref m35, .ref m36, .int 0, .ref m38, .int 0, .int 0, .ref m41, .ref m42, .ref m43, .ref m44, .ref m45, .ref m46, .ref m47, .ref m48])), (m3, .inl (cy 0, 3, .inl (fun _ => 0))), (m5, .inl (cy 0, 22, .inl (upd (fun _ => 0) (0 : Int32).toNatClampNeg 0))), (m7, .inl (cy 0, 22, .inl (fun _ => 0))), (m9, .inl (cy 0, 6, .inl (fun _ => 0))), (m10, .inl (cy 0, 22, .inl (fun _ => 0))), (m12, .inl (cy 0, 22, .inl (fun _ => 0))), (m13, .inl (cy 0, 22, .inl (fun _ => 0))), (m14, .inl (cy 0, 22, .inl (fun _ => 0))), (m16, .inl (cy 0, 22, .inl (fun _ => 0)))] H := hP
    have hD : va_D A [(md, .inr (12, [.ref m0, .ref m1, .int 0, .ref m3, .ref m4, .ref m5, .ref m6, .ref m7, .ref m8, .ref m9, .ref m10, .ref m11, .ref m12, .ref m13, .ref m14, .ref m15, .ref m16, .int 0, .int 0, .int 0, .int 0, .int 0, .int 0, .int 0, .ref m24, .int 0, .ref m26, .int 0, .ref m28, .long 0, .ref m30, .ref m31, .int 0, .int 0, .int 0, .ref m35, .ref m36, .int 0, .ref m38, .int 0, .int 0, .ref m41, .ref m42, .ref m43, .ref m44, .ref m45, .ref m46, .ref m47, .ref m48])), (m3, .inl (cy 0, 3, .inl (fun _ => 0))), (m5, .inl (cy 0, 22, .inl (upd (fun _ => 0) (0 : Int32).toNatClampNeg 0))), (m7, .inl (cy 0, 22, .inl (fun _ => 0))), (m9, .inl (cy 0, 6, .inl (fun _ => 0))), (m10, .inl (cy 0, 22, .inl (fun _ => 0))), (m12, .inl (cy 0, 22, .inl (fun _ => 0))), (m13, .inl (cy 0, 22, .inl (fun _ => 0))), (m14, .inl (cy 0, 22, .inl (fun _ => 0))), (m16, .inl (cy 0, 22, .inl (fun _ => 0)))] := hD
    generalize (upd (fun _ => 0) (0 : Int32).toNatClampNeg 0) = f_9 at hP hD
    refine lv_aload_n hx hb dX12_text_52 rfl (lv_at hl 0 rfl) ?_
    refine va_get (D := D) (ci := 12) (v := .ref m7) (C := RX12) (T := TX12) (N := 49) hx hb hta inlX12 hown hK hP 0 rfl rfl 7 (by decide) (hta _ wk_156) (fun _ h9 => h9) rfl dX12_text_53 ?_
    refine lv_aload_n hx hb dX12_text_56 rfl (lv_at hl 0 rfl) ?_
    refine va_get (D := D) (ci := 12) (v := .int 0) (C := RX12) (T := TX12) (N := 49) hx hb hta inlX12 hown hK hP 0 rfl rfl 20 (by decide) (hta _ wk_537) (fun _ h9 => h9) rfl dX12_text_57 ?_
    refine lv_iconst (v := 0) hx hb dX12_text_60 (by decide) ?_
    refine va_iast (D := D) hx hb hK hP hD hS 3 0 rfl rfl (tl_in (by decide) (by decide)) dX12_text_61 (fun H locs hP hD hS => ?_)
    have hP : va_P D vwCl [(md, .inr (12, [.ref m0, .ref m1, .int 0, .ref m3, .ref m4, .ref m5, .ref m6, .ref m7, .ref m8, .ref m9, .ref m10, .ref m11, .ref m12, .ref m13, .ref m14, .ref m15, .ref m16, .int 0, .int 0, .int 0, .int 0, .int 0, .int 0, .int 0, .ref m24, .int 0, .ref m26, .int 0, .ref m28, .long 0, .ref m30, .ref m31, .int 0, .int 0, .int 0, .ref m35, .ref m36, .int 0, .ref m38, .int 0, .int 0, .ref m41, .ref m42, .ref m43, .ref m44, .ref m45, .ref m46, .ref m47, .ref m48])), (m3, .inl (cy 0, 3, .inl (fun _ => 0))), (m5, .inl (cy 0, 22, .inl f_9)), (m7, .inl (cy 0, 22, .inl (upd (fun _ => 0) (0 : Int32).toNatClampNeg 0))), (m9, .inl (cy 0, 6, .inl (fun _ => 0))), (m10, .inl (cy 0, 22, .inl (fun _ => 0))), (m12, .inl (cy 0, 22, .inl (fun _ => 0))), (m13, .inl (cy 0, 22, .inl (fun _ => 0))), (m14, .inl (cy 0, 22, .inl (fun _ => 0))), (m16, .inl (cy 0, 22, .inl (fun _ => 0)))] H := hP
    have hD : va_D A [(md, .inr (12, [.ref m0, .ref m1, .int 0, .ref m3, .ref m4, .ref m5, .ref m6, .ref m7, .ref m8, .ref m9, .ref m10, .ref m11, .ref m12, .ref m13, .ref m14, .ref m15, .ref m16, .int 0, .int 0, .int 0, .int 0, .int 0, .int 0, .int 0, .ref m24, .int 0, .ref m26, .int 0, .ref m28, .long 0, .ref m30, .ref m31, .int 0, .int 0, .int 0, .ref m35, .ref m36, .int 0, .ref m38, .int 0, .int 0, .ref m41, .ref m42, .ref m43, .ref m44, .ref m45, .ref m46, .ref m47, .ref m48])), (m3, .inl (cy 0, 3, .inl (fun _ => 0))), (m5, .inl (cy 0, 22, .inl f_9)), (m7, .inl (cy 0, 22, .inl (upd (fun _ => 0) (0 : Int32).toNatClampNeg 0))), (m9, .inl (cy 0, 6, .inl (fun _ => 0))), (m10, .inl (cy 0, 22, .inl (fun _ => 0))), (m12, .inl (cy 0, 22, .inl (fun _ => 0))), (m13, .inl (cy 0, 22, .inl (fun _ => 0))), (m14, .inl (cy 0, 22, .inl (fun _ => 0))), (m16, .inl (cy 0, 22, .inl (fun _ => 0)))] := hD
    generalize (upd (fun _ => 0) (0 : Int32).toNatClampNeg 0) = f_10 at hP hD
    refine lv_iload_n hx hb dX12_text_62 rfl (lv_at hl 1 rfl) ?_
    refine lv_if_ne (tgt := 76) hx hb dX12_text_63 (by decide) (fun c => absurd c (by decide)) (fun _ => ?_)
    refine lv_aload_n hx hb dX12_text_66 rfl (lv_at hl 0 rfl) ?_
    refine va_get (D := D) (ci := 12) (v := .ref m9) (C := RX12) (T := TX12) (N := 49) hx hb hta inlX12 hown hK hP 0 rfl rfl 9 (by decide) (hta _ wk_158) (fun _ h9 => h9) rfl dX12_text_67 ?_
    refine lv_aload_n hx hb dX12_text_70 rfl (lv_at hl 0 rfl) ?_
    refine va_get (D := D) (ci := 12) (v := .int 0) (C := RX12) (T := TX12) (N := 49) hx hb hta inlX12 hown hK hP 0 rfl rfl 20 (by decide) (hta _ wk_537) (fun _ h9 => h9) rfl dX12_text_71 ?_
    refine lv_iconst (v := 0) hx hb dX12_text_74 (by decide) ?_
    refine va_iast (D := D) hx hb hK hP hD hS 4 0 rfl rfl (tl_in (by decide) (by decide)) dX12_text_75 (fun H locs hP hD hS => ?_)
    have hP : va_P D vwCl [(md, .inr (12, [.ref m0, .ref m1, .int 0, .ref m3, .ref m4, .ref m5, .ref m6, .ref m7, .ref m8, .ref m9, .ref m10, .ref m11, .ref m12, .ref m13, .ref m14, .ref m15, .ref m16, .int 0, .int 0, .int 0, .int 0, .int 0, .int 0, .int 0, .ref m24, .int 0, .ref m26, .int 0, .ref m28, .long 0, .ref m30, .ref m31, .int 0, .int 0, .int 0, .ref m35, .ref m36, .int 0, .ref m38, .int 0, .int 0, .ref m41, .ref m42, .ref m43, .ref m44, .ref m45, .ref m46, .ref m47, .ref m48])), (m3, .inl (cy 0, 3, .inl (fun _ => 0))), (m5, .inl (cy 0, 22, .inl f_9)), (m7, .inl (cy 0, 22, .inl f_10)), (m9, .inl (cy 0, 6, .inl (upd (fun _ => 0) (0 : Int32).toNatClampNeg 0))), (m10, .inl (cy 0, 22, .inl (fun _ => 0))), (m12, .inl (cy 0, 22, .inl (fun _ => 0))), (m13, .inl (cy 0, 22, .inl (fun _ => 0))), (m14, .inl (cy 0, 22, .inl (fun _ => 0))), (m16, .inl (cy 0, 22, .inl (fun _ => 0)))] H := hP
    have hD : va_D A [(md, .inr (12, [.ref m0, .ref m1, .int 0, .ref m3, .ref m4, .ref m5, .ref m6, .ref m7, .ref m8, .ref m9, .ref m10, .ref m11, .ref m12, .ref m13, .ref m14, .ref m15, .ref m16, .int 0, .int 0, .int 0, .int 0, .int 0, .int 0, .int 0, .ref m24, .int 0, .ref m26, .int 0, .ref m28, .long 0, .ref m30, .ref m31, .int 0, .int 0, .int 0, .ref m35, .ref m36, .int 0, .ref m38, .int 0, .int 0, .ref m41, .ref m42, .ref m43, .ref m44, .ref m45, .ref m46, .ref m47, .ref m48])), (m3, .inl (cy 0, 3, .inl (fun _ => 0))), (m5, .inl (cy 0, 22, .inl f_9)), (m7, .inl (cy 0, 22, .inl f_10)), (m9, .inl (cy 0, 6, .inl (upd (fun _ => 0) (0 : Int32).toNatClampNeg 0))), (m10, .inl (cy 0, 22, .inl (fun _ => 0))), (m12, .inl (cy 0, 22, .inl (fun _ => 0))), (m13, .inl (cy 0, 22, .inl (fun _ => 0))), (m14, .inl (cy 0, 22, .inl (fun _ => 0))), (m16, .inl (cy 0, 22, .inl (fun _ => 0)))] := hD
    generalize (upd (fun _ => 0) (0 : Int32).toNatClampNeg 0) = f_11 at hP hD
    refine lv_aload_n hx hb dX12_text_76 rfl (lv_at hl 0 rfl) ?_
    refine va_get (D := D) (ci := 12) (v := .ref m10) (C := RX12) (T := TX12) (N := 49) hx hb hta inlX12 hown hK hP 0 rfl rfl 10 (by decide) (hta _ wk_159) (fun _ h9 => h9) rfl dX12_text_77 ?_
    refine lv_aload_n hx hb dX12_text_80 rfl (lv_at hl 0 rfl) ?_
    refine va_get (D := D) (ci := 12) (v := .int 0) (C := RX12) (T := TX12) (N := 49) hx hb hta inlX12 hown hK hP 0 rfl rfl 20 (by decide) (hta _ wk_537) (fun _ h9 => h9) rfl dX12_text_81 ?_
    refine lv_iconst (v := (-1)) hx hb dX12_text_84 (by decide) ?_
    refine va_iast (D := D) hx hb hK hP hD hS 5 0 rfl rfl (tl_in (by decide) (by decide)) dX12_text_85 (fun H locs hP hD hS => ?_)
    have hP : va_P D vwCl [(md, .inr (12, [.ref m0, .ref m1, .int 0, .ref m3, .ref m4, .ref m5, .ref m6, .ref m7, .ref m8, .ref m9, .ref m10, .ref m11, .ref m12, .ref m13, .ref m14, .ref m15, .ref m16, .int 0, .int 0, .int 0, .int 0, .int 0, .int 0, .int 0, .ref m24, .int 0, .ref m26, .int 0, .ref m28, .long 0, .ref m30, .ref m31, .int 0, .int 0, .int 0, .ref m35, .ref m36, .int 0, .ref m38, .int 0, .int 0, .ref m41, .ref m42, .ref m43, .ref m44, .ref m45, .ref m46, .ref m47, .ref m48])), (m3, .inl (cy 0, 3, .inl (fun _ => 0))), (m5, .inl (cy 0, 22, .inl f_9)), (m7, .inl (cy 0, 22, .inl f_10)), (m9, .inl (cy 0, 6, .inl f_11)), (m10, .inl (cy 0, 22, .inl (upd (fun _ => 0) (0 : Int32).toNatClampNeg (-1)))), (m12, .inl (cy 0, 22, .inl (fun _ => 0))), (m13, .inl (cy 0, 22, .inl (fun _ => 0))), (m14, .inl (cy 0, 22, .inl (fun _ => 0))), (m16, .inl (cy 0, 22, .inl (fun _ => 0)))] H := hP
    have hD : va_D A [(md, .inr (12, [.ref m0, .ref m1, .int 0, .ref m3, .ref m4, .ref m5, .ref m6, .ref m7, .ref m8, .ref m9, .ref m10, .ref m11, .ref m12, .ref m13, .ref m14, .ref m15, .ref m16, .int 0, .int 0, .int 0, .int 0, .int 0, .int 0, .int 0, .ref m24, .int 0, .ref m26, .int 0, .ref m28, .long 0, .ref m30, .ref m31, .int 0, .int 0, .int 0, .ref m35, .ref m36, .int 0, .ref m38, .int 0, .int 0, .ref m41, .ref m42, .ref m43, .ref m44, .ref m45, .ref m46, .ref m47, .ref m48])), (m3, .inl (cy 0, 3, .inl (fun _ => 0))), (m5, .inl (cy 0, 22, .inl f_9)), (m7, .inl (cy 0, 22, .inl f_10)), (m9, .inl (cy 0, 6, .inl f_11)), (m10, .inl (cy 0, 22, .inl (upd (fun _ => 0) (0 : Int32).toNatClampNeg (-1)))), (m12, .inl (cy 0, 22, .inl (fun _ => 0))), (m13, .inl (cy 0, 22, .inl (fun _ => 0))), (m14, .inl (cy 0, 22, .inl (fun _ => 0))), (m16, .inl (cy 0, 22, .inl (fun _ => 0)))] := hD
    generalize (upd (fun _ => 0) (0 : Int32).toNatClampNeg (-1)) = f_12 at hP hD
    refine lv_aload_n hx hb dX12_text_86 rfl (lv_at hl 0 rfl) ?_
    refine va_get (D := D) (ci := 12) (v := .ref m12) (C := RX12) (T := TX12) (N := 49) hx hb hta inlX12 hown hK hP 0 rfl rfl 12 (by decide) (hta _ wk_161) (fun _ h9 => h9) rfl dX12_text_87 ?_
    refine lv_aload_n hx hb dX12_text_90 rfl (lv_at hl 0 rfl) ?_
    refine va_get (D := D) (ci := 12) (v := .int 0) (C := RX12) (T := TX12) (N := 49) hx hb hta inlX12 hown hK hP 0 rfl rfl 20 (by decide) (hta _ wk_537) (fun _ h9 => h9) rfl dX12_text_91 ?_
    refine lv_iconst (v := (-1)) hx hb dX12_text_94 (by decide) ?_
    refine va_iast (D := D) hx hb hK hP hD hS 6 0 rfl rfl (tl_in (by decide) (by decide)) dX12_text_95 (fun H locs hP hD hS => ?_)
    have hP : va_P D vwCl [(md, .inr (12, [.ref m0, .ref m1, .int 0, .ref m3, .ref m4, .ref m5, .ref m6, .ref m7, .ref m8, .ref m9, .ref m10, .ref m11, .ref m12, .ref m13, .ref m14, .ref m15, .ref m16, .int 0, .int 0, .int 0, .int 0, .int 0, .int 0, .int 0, .ref m24, .int 0, .ref m26, .int 0, .ref m28, .long 0, .ref m30, .ref m31, .int 0, .int 0, .int 0, .ref m35, .ref m36, .int 0, .ref m38, .int 0, .int 0, .ref m41, .ref m42, .ref m43, .ref m44, .ref m45, .ref m46, .ref m47, .ref m48])), (m3, .inl (cy 0, 3, .inl (fun _ => 0))), (m5, .inl (cy 0, 22, .inl f_9)), (m7, .inl (cy 0, 22, .inl f_10)), (m9, .inl (cy 0, 6, .inl f_11)), (m10, .inl (cy 0, 22, .inl f_12)), (m12, .inl (cy 0, 22, .inl (upd (fun _ => 0) (0 : Int32).toNatClampNeg (-1)))), (m13, .inl (cy 0, 22, .inl (fun _ => 0))), (m14, .inl (cy 0, 22, .inl (fun _ => 0))), (m16, .inl (cy 0, 22, .inl (fun _ => 0)))] H := hP
    have hD : va_D A [(md, .inr (12, [.ref m0, .ref m1, .int 0, .ref m3, .ref m4, .ref m5, .ref m6, .ref m7, .ref m8, .ref m9, .ref m10, .ref m11, .ref m12, .ref m13, .ref m14, .ref m15, .ref m16, .int 0, .int 0, .int 0, .int 0, .int 0, .int 0, .int 0, .ref m24, .int 0, .ref m26, .int 0, .ref m28, .long 0, .ref m30, .ref m31, .int 0, .int 0, .int 0, .ref m35, .ref m36, .int 0, .ref m38, .int 0, .int 0, .ref m41, .ref m42, .ref m43, .ref m44, .ref m45, .ref m46, .ref m47, .ref m48])), (m3, .inl (cy 0, 3, .inl (fun _ => 0))), (m5, .inl (cy 0, 22, .inl f_9)), (m7, .inl (cy 0, 22, .inl f_10)), (m9, .inl (cy 0, 6, .inl f_11)), (m10, .inl (cy 0, 22, .inl f_12)), (m12, .inl (cy 0, 22, .inl (upd (fun _ => 0) (0 : Int32).toNatClampNeg (-1)))), (m13, .inl (cy 0, 22, .inl (fun _ => 0))), (m14, .inl (cy 0, 22, .inl (fun _ => 0))), (m16, .inl (cy 0, 22, .inl (fun _ => 0)))] := hD
    generalize (upd (fun _ => 0) (0 : Int32).toNatClampNeg (-1)) = f_13 at hP hD
    refine lv_aload_n hx hb dX12_text_96 rfl (lv_at hl 0 rfl) ?_
    refine va_get (D := D) (ci := 12) (v := .ref m13) (C := RX12) (T := TX12) (N := 49) hx hb hta inlX12 hown hK hP 0 rfl rfl 13 (by decide) (hta _ wk_162) (fun _ h9 => h9) rfl dX12_text_97 ?_
    refine lv_aload_n hx hb dX12_text_100 rfl (lv_at hl 0 rfl) ?_
    refine va_get (D := D) (ci := 12) (v := .int 0) (C := RX12) (T := TX12) (N := 49) hx hb hta inlX12 hown hK hP 0 rfl rfl 20 (by decide) (hta _ wk_537) (fun _ h9 => h9) rfl dX12_text_101 ?_
    refine lv_iconst (v := (-1)) hx hb dX12_text_104 (by decide) ?_
    refine va_iast (D := D) hx hb hK hP hD hS 7 0 rfl rfl (tl_in (by decide) (by decide)) dX12_text_105 (fun H locs hP hD hS => ?_)
    have hP : va_P D vwCl [(md, .inr (12, [.ref m0, .ref m1, .int 0, .ref m3, .ref m4, .ref m5, .ref m6, .ref m7, .ref m8, .ref m9, .ref m10, .ref m11, .ref m12, .ref m13, .ref m14, .ref m15, .ref m16, .int 0, .int 0, .int 0, .int 0, .int 0, .int 0, .int 0, .ref m24, .int 0, .ref m26, .int 0, .ref m28, .long 0, .ref m30, .ref m31, .int 0, .int 0, .int 0, .ref m35, .ref m36, .int 0, .ref m38, .int 0, .int 0, .ref m41, .ref m42, .ref m43, .ref m44, .ref m45, .ref m46, .ref m47, .ref m48])), (m3, .inl (cy 0, 3, .inl (fun _ => 0))), (m5, .inl (cy 0, 22, .inl f_9)), (m7, .inl (cy 0, 22, .inl f_10)), (m9, .inl (cy 0, 6, .inl f_11)), (m10, .inl (cy 0, 22, .inl f_12)), (m12, .inl (cy 0, 22, .inl f_13)), (m13, .inl (cy 0, 22, .inl (upd (fun _ => 0) (0 : Int32).toNatClampNeg (-1)))), (m14, .inl (cy 0, 22, .inl (fun _ => 0))), (m16, .inl (cy 0, 22, .inl (fun _ => 0)))] H := hP
    have hD : va_D A [(md, .inr (12, [.ref m0, .ref m1, .int 0, .ref m3, .ref m4, .ref m5, .ref m6, .ref m7, .ref m8, .ref m9, .ref m10, .ref m11, .ref m12, .ref m13, .ref m14, .ref m15, .ref m16, .int 0, .int 0, .int 0, .int 0, .int 0, .int 0, .int 0, .ref m24, .int 0, .ref m26, .int 0, .ref m28, .long 0, .ref m30, .ref m31, .int 0, .int 0, .int 0, .ref m35, .ref m36, .int 0, .ref m38, .int 0, .int 0, .ref m41, .ref m42, .ref m43, .ref m44, .ref m45, .ref m46, .ref m47, .ref m48])), (m3, .inl (cy 0, 3, .inl (fun _ => 0))), (m5, .inl (cy 0, 22, .inl f_9)), (m7, .inl (cy 0, 22, .inl f_10)), (m9, .inl (cy 0, 6, .inl f_11)), (m10, .inl (cy 0, 22, .inl f_12)), (m12, .inl (cy 0, 22, .inl f_13)), (m13, .inl (cy 0, 22, .inl (upd (fun _ => 0) (0 : Int32).toNatClampNeg (-1)))), (m14, .inl (cy 0, 22, .inl (fun _ => 0))), (m16, .inl (cy 0, 22, .inl (fun _ => 0)))] := hD
    generalize (upd (fun _ => 0) (0 : Int32).toNatClampNeg (-1)) = f_14 at hP hD
    refine lv_aload_n hx hb dX12_text_106 rfl (lv_at hl 0 rfl) ?_
    refine va_get (D := D) (ci := 12) (v := .ref m14) (C := RX12) (T := TX12) (N := 49) hx hb hta inlX12 hown hK hP 0 rfl rfl 14 (by decide) (hta _ wk_163) (fun _ h9 => h9) rfl dX12_text_107 ?_
    refine lv_aload_n hx hb dX12_text_110 rfl (lv_at hl 0 rfl) ?_
    refine va_get (D := D) (ci := 12) (v := .int 0) (C := RX12) (T := TX12) (N := 49) hx hb hta inlX12 hown hK hP 0 rfl rfl 20 (by decide) (hta _ wk_537) (fun _ h9 => h9) rfl dX12_text_111 ?_
    refine lv_iconst (v := (-1)) hx hb dX12_text_114 (by decide) ?_
    refine va_iast (D := D) hx hb hK hP hD hS 8 0 rfl rfl (tl_in (by decide) (by decide)) dX12_text_115 (fun H locs hP hD hS => ?_)
    have hP : va_P D vwCl [(md, .inr (12, [.ref m0, .ref m1, .int 0, .ref m3, .ref m4, .ref m5, .ref m6, .ref m7, .ref m8, .ref m9, .ref m10, .ref m11, .ref m12, .ref m13, .ref m14, .ref m15, .ref m16, .int 0, .int 0, .int 0, .int 0, .int 0, .int 0, .int 0, .ref m24, .int 0, .ref m26, .int 0, .ref m28, .long 0, .ref m30, .ref m31, .int 0, .int 0, .int 0, .ref m35, .ref m36, .int 0, .ref m38, .int 0, .int 0, .ref m41, .ref m42, .ref m43, .ref m44, .ref m45, .ref m46, .ref m47, .ref m48])), (m3, .inl (cy 0, 3, .inl (fun _ => 0))), (m5, .inl (cy 0, 22, .inl f_9)), (m7, .inl (cy 0, 22, .inl f_10)), (m9, .inl (cy 0, 6, .inl f_11)), (m10, .inl (cy 0, 22, .inl f_12)), (m12, .inl (cy 0, 22, .inl f_13)), (m13, .inl (cy 0, 22, .inl f_14)), (m14, .inl (cy 0, 22, .inl (upd (fun _ => 0) (0 : Int32).toNatClampNeg (-1)))), (m16, .inl (cy 0, 22, .inl (fun _ => 0)))] H := hP
    have hD : va_D A [(md, .inr (12, [.ref m0, .ref m1, .int 0, .ref m3, .ref m4, .ref m5, .ref m6, .ref m7, .ref m8, .ref m9, .ref m10, .ref m11, .ref m12, .ref m13, .ref m14, .ref m15, .ref m16, .int 0, .int 0, .int 0, .int 0, .int 0, .int 0, .int 0, .ref m24, .int 0, .ref m26, .int 0, .ref m28, .long 0, .ref m30, .ref m31, .int 0, .int 0, .int 0, .ref m35, .ref m36, .int 0, .ref m38, .int 0, .int 0, .ref m41, .ref m42, .ref m43, .ref m44, .ref m45, .ref m46, .ref m47, .ref m48])), (m3, .inl (cy 0, 3, .inl (fun _ => 0))), (m5, .inl (cy 0, 22, .inl f_9)), (m7, .inl (cy 0, 22, .inl f_10)), (m9, .inl (cy 0, 6, .inl f_11)), (m10, .inl (cy 0, 22, .inl f_12)), (m12, .inl (cy 0, 22, .inl f_13)), (m13, .inl (cy 0, 22, .inl f_14)), (m14, .inl (cy 0, 22, .inl (upd (fun _ => 0) (0 : Int32).toNatClampNeg (-1)))), (m16, .inl (cy 0, 22, .inl (fun _ => 0)))] := hD
    generalize (upd (fun _ => 0) (0 : Int32).toNatClampNeg (-1)) = f_15 at hP hD
    refine lv_aload_n hx hb dX12_text_116 rfl (lv_at hl 0 rfl) ?_
    refine va_get (D := D) (ci := 12) (v := .ref m16) (C := RX12) (T := TX12) (N := 49) hx hb hta inlX12 hown hK hP 0 rfl rfl 16 (by decide) (hta _ wk_165) (fun _ h9 => h9) rfl dX12_text_117 ?_
    refine lv_aload_n hx hb dX12_text_120 rfl (lv_at hl 0 rfl) ?_
    refine va_get (D := D) (ci := 12) (v := .int 0) (C := RX12) (T := TX12) (N := 49) hx hb hta inlX12 hown hK hP 0 rfl rfl 20 (by decide) (hta _ wk_537) (fun _ h9 => h9) rfl dX12_text_121 ?_
    refine lv_iconst (v := (-1)) hx hb dX12_text_124 (by decide) ?_
    refine va_iast (D := D) hx hb hK hP hD hS 9 0 rfl rfl (tl_in (by decide) (by decide)) dX12_text_125 (fun H locs hP hD hS => ?_)
    have hP : va_P D vwCl [(md, .inr (12, [.ref m0, .ref m1, .int 0, .ref m3, .ref m4, .ref m5, .ref m6, .ref m7, .ref m8, .ref m9, .ref m10, .ref m11, .ref m12, .ref m13, .ref m14, .ref m15, .ref m16, .int 0, .int 0, .int 0, .int 0, .int 0, .int 0, .int 0, .ref m24, .int 0, .ref m26, .int 0, .ref m28, .long 0, .ref m30, .ref m31, .int 0, .int 0, .int 0, .ref m35, .ref m36, .int 0, .ref m38, .int 0, .int 0, .ref m41, .ref m42, .ref m43, .ref m44, .ref m45, .ref m46, .ref m47, .ref m48])), (m3, .inl (cy 0, 3, .inl (fun _ => 0))), (m5, .inl (cy 0, 22, .inl f_9)), (m7, .inl (cy 0, 22, .inl f_10)), (m9, .inl (cy 0, 6, .inl f_11)), (m10, .inl (cy 0, 22, .inl f_12)), (m12, .inl (cy 0, 22, .inl f_13)), (m13, .inl (cy 0, 22, .inl f_14)), (m14, .inl (cy 0, 22, .inl f_15)), (m16, .inl (cy 0, 22, .inl (upd (fun _ => 0) (0 : Int32).toNatClampNeg (-1))))] H := hP
    have hD : va_D A [(md, .inr (12, [.ref m0, .ref m1, .int 0, .ref m3, .ref m4, .ref m5, .ref m6, .ref m7, .ref m8, .ref m9, .ref m10, .ref m11, .ref m12, .ref m13, .ref m14, .ref m15, .ref m16, .int 0, .int 0, .int 0, .int 0, .int 0, .int 0, .int 0, .ref m24, .int 0, .ref m26, .int 0, .ref m28, .long 0, .ref m30, .ref m31, .int 0, .int 0, .int 0, .ref m35, .ref m36, .int 0, .ref m38, .int 0, .int 0, .ref m41, .ref m42, .ref m43, .ref m44, .ref m45, .ref m46, .ref m47, .ref m48])), (m3, .inl (cy 0, 3, .inl (fun _ => 0))), (m5, .inl (cy 0, 22, .inl f_9)), (m7, .inl (cy 0, 22, .inl f_10)), (m9, .inl (cy 0, 6, .inl f_11)), (m10, .inl (cy 0, 22, .inl f_12)), (m12, .inl (cy 0, 22, .inl f_13)), (m13, .inl (cy 0, 22, .inl f_14)), (m14, .inl (cy 0, 22, .inl f_15)), (m16, .inl (cy 0, 22, .inl (upd (fun _ => 0) (0 : Int32).toNatClampNeg (-1))))] := hD
    generalize (upd (fun _ => 0) (0 : Int32).toNatClampNeg (-1)) = f_16 at hP hD
    refine lv_aload_n hx hb dX12_text_126 rfl (lv_at hl 0 rfl) ?_
    refine lv_iconst (v := 0) hx hb dX12_text_127 (by decide) ?_
    refine va_put (D := D) (ci := 12) (v := .int 0) (ty := tyX12 23) (C := RX12) (T := TX12) (N := 49) hx hb hta inlX12 tyX12 tyX12_ok nmX12 hown hK hP hD hS 0 rfl rfl 23 (by decide) (hta _ wk_538) (fun _ h9 => h9) rfl (tyX12_ok 23 (by decide)) rfl rfl (Nat.le_of_ble_eq_true rfl) dX12_text_128 (fun H locs hP hD hS => ?_)
    have hP : va_P D vwCl [(md, .inr (12, [.ref m0, .ref m1, .int 0, .ref m3, .ref m4, .ref m5, .ref m6, .ref m7, .ref m8, .ref m9, .ref m10, .ref m11, .ref m12, .ref m13, .ref m14, .ref m15, .ref m16, .int 0, .int 0, .int 0, .int 0, .int 0, .int 0, .int 0, .ref m24, .int 0, .ref m26, .int 0, .ref m28, .long 0, .ref m30, .ref m31, .int 0, .int 0, .int 0, .ref m35, .ref m36, .int 0, .ref m38, .int 0, .int 0, .ref m41, .ref m42, .ref m43, .ref m44, .ref m45, .ref m46, .ref m47, .ref m48])), (m3, .inl (cy 0, 3, .inl (fun _ => 0))), (m5, .inl (cy 0, 22, .inl f_9)), (m7, .inl (cy 0, 22, .inl f_10)), (m9, .inl (cy 0, 6, .inl f_11)), (m10, .inl (cy 0, 22, .inl f_12)), (m12, .inl (cy 0, 22, .inl f_13)), (m13, .inl (cy 0, 22, .inl f_14)), (m14, .inl (cy 0, 22, .inl f_15)), (m16, .inl (cy 0, 22, .inl f_16))] H := hP
    have hD : va_D A [(md, .inr (12, [.ref m0, .ref m1, .int 0, .ref m3, .ref m4, .ref m5, .ref m6, .ref m7, .ref m8, .ref m9, .ref m10, .ref m11, .ref m12, .ref m13, .ref m14, .ref m15, .ref m16, .int 0, .int 0, .int 0, .int 0, .int 0, .int 0, .int 0, .ref m24, .int 0, .ref m26, .int 0, .ref m28, .long 0, .ref m30, .ref m31, .int 0, .int 0, .int 0, .ref m35, .ref m36, .int 0, .ref m38, .int 0, .int 0, .ref m41, .ref m42, .ref m43, .ref m44, .ref m45, .ref m46, .ref m47, .ref m48])), (m3, .inl (cy 0, 3, .inl (fun _ => 0))), (m5, .inl (cy 0, 22, .inl f_9)), (m7, .inl (cy 0, 22, .inl f_10)), (m9, .inl (cy 0, 6, .inl f_11)), (m10, .inl (cy 0, 22, .inl f_12)), (m12, .inl (cy 0, 22, .inl f_13)), (m13, .inl (cy 0, 22, .inl f_14)), (m14, .inl (cy 0, 22, .inl f_15)), (m16, .inl (cy 0, 22, .inl f_16))] := hD
    refine lv_aload_n hx hb dX12_text_131 rfl (lv_at hl 0 rfl) ?_
    refine lv_iconst (v := 0) hx hb dX12_text_132 (by decide) ?_
    refine va_put (D := D) (ci := 12) (v := .int 0) (ty := tyX12 17) (C := RX12) (T := TX12) (N := 49) hx hb hta inlX12 tyX12 tyX12_ok nmX12 hown hK hP hD hS 0 rfl rfl 17 (by decide) (hta _ wk_539) (fun _ h9 => h9) rfl (tyX12_ok 17 (by decide)) rfl rfl (Nat.le_of_ble_eq_true rfl) dX12_text_133 (fun H locs hP hD hS => ?_)
    have hP : va_P D vwCl [(md, .inr (12, [.ref m0, .ref m1, .int 0, .ref m3, .ref m4, .ref m5, .ref m6, .ref m7, .ref m8, .ref m9, .ref m10, .ref m11, .ref m12, .ref m13, .ref m14, .ref m15, .ref m16, .int 0, .int 0, .int 0, .int 0, .int 0, .int 0, .int 0, .ref m24, .int 0, .ref m26, .int 0, .ref m28, .long 0, .ref m30, .ref m31, .int 0, .int 0, .int 0, .ref m35, .ref m36, .int 0, .ref m38, .int 0, .int 0, .ref m41, .ref m42, .ref m43, .ref m44, .ref m45, .ref m46, .ref m47, .ref m48])), (m3, .inl (cy 0, 3, .inl (fun _ => 0))), (m5, .inl (cy 0, 22, .inl f_9)), (m7, .inl (cy 0, 22, .inl f_10)), (m9, .inl (cy 0, 6, .inl f_11)), (m10, .inl (cy 0, 22, .inl f_12)), (m12, .inl (cy 0, 22, .inl f_13)), (m13, .inl (cy 0, 22, .inl f_14)), (m14, .inl (cy 0, 22, .inl f_15)), (m16, .inl (cy 0, 22, .inl f_16))] H := hP
    have hD : va_D A [(md, .inr (12, [.ref m0, .ref m1, .int 0, .ref m3, .ref m4, .ref m5, .ref m6, .ref m7, .ref m8, .ref m9, .ref m10, .ref m11, .ref m12, .ref m13, .ref m14, .ref m15, .ref m16, .int 0, .int 0, .int 0, .int 0, .int 0, .int 0, .int 0, .ref m24, .int 0, .ref m26, .int 0, .ref m28, .long 0, .ref m30, .ref m31, .int 0, .int 0, .int 0, .ref m35, .ref m36, .int 0, .ref m38, .int 0, .int 0, .ref m41, .ref m42, .ref m43, .ref m44, .ref m45, .ref m46, .ref m47, .ref m48])), (m3, .inl (cy 0, 3, .inl (fun _ => 0))), (m5, .inl (cy 0, 22, .inl f_9)), (m7, .inl (cy 0, 22, .inl f_10)), (m9, .inl (cy 0, 6, .inl f_11)), (m10, .inl (cy 0, 22, .inl f_12)), (m12, .inl (cy 0, 22, .inl f_13)), (m13, .inl (cy 0, 22, .inl f_14)), (m14, .inl (cy 0, 22, .inl f_15)), (m16, .inl (cy 0, 22, .inl f_16))] := hD
    refine lv_aload_n hx hb dX12_text_136 rfl (lv_at hl 0 rfl) ?_
    refine lv_iconst (v := 0) hx hb dX12_text_137 (by decide) ?_
    refine va_put (D := D) (ci := 12) (v := .int 0) (ty := tyX12 18) (C := RX12) (T := TX12) (N := 49) hx hb hta inlX12 tyX12 tyX12_ok nmX12 hown hK hP hD hS 0 rfl rfl 18 (by decide) (hta _ wk_540) (fun _ h9 => h9) rfl (tyX12_ok 18 (by decide)) rfl rfl (Nat.le_of_ble_eq_true rfl) dX12_text_138 (fun H locs hP hD hS => ?_)
    have hP : va_P D vwCl [(md, .inr (12, [.ref m0, .ref m1, .int 0, .ref m3, .ref m4, .ref m5, .ref m6, .ref m7, .ref m8, .ref m9, .ref m10, .ref m11, .ref m12, .ref m13, .ref m14, .ref m15, .ref m16, .int 0, .int 0, .int 0, .int 0, .int 0, .int 0, .int 0, .ref m24, .int 0, .ref m26, .int 0, .ref m28, .long 0, .ref m30, .ref m31, .int 0, .int 0, .int 0, .ref m35, .ref m36, .int 0, .ref m38, .int 0, .int 0, .ref m41, .ref m42, .ref m43, .ref m44, .ref m45, .ref m46, .ref m47, .ref m48])), (m3, .inl (cy 0, 3, .inl (fun _ => 0))), (m5, .inl (cy 0, 22, .inl f_9)), (m7, .inl (cy 0, 22, .inl f_10)), (m9, .inl (cy 0, 6, .inl f_11)), (m10, .inl (cy 0, 22, .inl f_12)), (m12, .inl (cy 0, 22, .inl f_13)), (m13, .inl (cy 0, 22, .inl f_14)), (m14, .inl (cy 0, 22, .inl f_15)), (m16, .inl (cy 0, 22, .inl f_16))] H := hP
    have hD : va_D A [(md, .inr (12, [.ref m0, .ref m1, .int 0, .ref m3, .ref m4, .ref m5, .ref m6, .ref m7, .ref m8, .ref m9, .ref m10, .ref m11, .ref m12, .ref m13, .ref m14, .ref m15, .ref m16, .int 0, .int 0, .int 0, .int 0, .int 0, .int 0, .int 0, .ref m24, .int 0, .ref m26, .int 0, .ref m28, .long 0, .ref m30, .ref m31, .int 0, .int 0, .int 0, .ref m35, .ref m36, .int 0, .ref m38, .int 0, .int 0, .ref m41, .ref m42, .ref m43, .ref m44, .ref m45, .ref m46, .ref m47, .ref m48])), (m3, .inl (cy 0, 3, .inl (fun _ => 0))), (m5, .inl (cy 0, 22, .inl f_9)), (m7, .inl (cy 0, 22, .inl f_10)), (m9, .inl (cy 0, 6, .inl f_11)), (m10, .inl (cy 0, 22, .inl f_12)), (m12, .inl (cy 0, 22, .inl f_13)), (m13, .inl (cy 0, 22, .inl f_14)), (m14, .inl (cy 0, 22, .inl f_15)), (m16, .inl (cy 0, 22, .inl f_16))] := hD
    refine lv_aload_n hx hb dX12_text_141 rfl (lv_at hl 0 rfl) ?_
    refine lv_iconst (v := 0) hx hb dX12_text_142 (by decide) ?_
    refine va_put (D := D) (ci := 12) (v := .int 0) (ty := tyX12 21) (C := RX12) (T := TX12) (N := 49) hx hb hta inlX12 tyX12 tyX12_ok nmX12 hown hK hP hD hS 0 rfl rfl 21 (by decide) (hta _ wk_541) (fun _ h9 => h9) rfl (tyX12_ok 21 (by decide)) rfl rfl (Nat.le_of_ble_eq_true rfl) dX12_text_143 (fun H locs hP hD hS => ?_)
    have hP : va_P D vwCl [(md, .inr (12, [.ref m0, .ref m1, .int 0, .ref m3, .ref m4, .ref m5, .ref m6, .ref m7, .ref m8, .ref m9, .ref m10, .ref m11, .ref m12, .ref m13, .ref m14, .ref m15, .ref m16, .int 0, .int 0, .int 0, .int 0, .int 0, .int 0, .int 0, .ref m24, .int 0, .ref m26, .int 0, .ref m28, .long 0, .ref m30, .ref m31, .int 0, .int 0, .int 0, .ref m35, .ref m36, .int 0, .ref m38, .int 0, .int 0, .ref m41, .ref m42, .ref m43, .ref m44, .ref m45, .ref m46, .ref m47, .ref m48])), (m3, .inl (cy 0, 3, .inl (fun _ => 0))), (m5, .inl (cy 0, 22, .inl f_9)), (m7, .inl (cy 0, 22, .inl f_10)), (m9, .inl (cy 0, 6, .inl f_11)), (m10, .inl (cy 0, 22, .inl f_12)), (m12, .inl (cy 0, 22, .inl f_13)), (m13, .inl (cy 0, 22, .inl f_14)), (m14, .inl (cy 0, 22, .inl f_15)), (m16, .inl (cy 0, 22, .inl f_16))] H := hP
    have hD : va_D A [(md, .inr (12, [.ref m0, .ref m1, .int 0, .ref m3, .ref m4, .ref m5, .ref m6, .ref m7, .ref m8, .ref m9, .ref m10, .ref m11, .ref m12, .ref m13, .ref m14, .ref m15, .ref m16, .int 0, .int 0, .int 0, .int 0, .int 0, .int 0, .int 0, .ref m24, .int 0, .ref m26, .int 0, .ref m28, .long 0, .ref m30, .ref m31, .int 0, .int 0, .int 0, .ref m35, .ref m36, .int 0, .ref m38, .int 0, .int 0, .ref m41, .ref m42, .ref m43, .ref m44, .ref m45, .ref m46, .ref m47, .ref m48])), (m3, .inl (cy 0, 3, .inl (fun _ => 0))), (m5, .inl (cy 0, 22, .inl f_9)), (m7, .inl (cy 0, 22, .inl f_10)), (m9, .inl (cy 0, 6, .inl f_11)), (m10, .inl (cy 0, 22, .inl f_12)), (m12, .inl (cy 0, 22, .inl f_13)), (m13, .inl (cy 0, 22, .inl f_14)), (m14, .inl (cy 0, 22, .inl f_15)), (m16, .inl (cy 0, 22, .inl f_16))] := hD
    refine lv_aload_n hx hb dX12_text_146 rfl (lv_at hl 0 rfl) ?_
    have hPc := hP.sub (ws' := [(md, .inr (12, [.ref m0, .ref m1, .int 0, .ref m3, .ref m4, .ref m5, .ref m6, .ref m7, .ref m8, .ref m9, .ref m10, .ref m11, .ref m12, .ref m13, .ref m14, .ref m15, .ref m16, .int 0, .int 0, .int 0, .int 0, .int 0, .int 0, .int 0, .ref m24, .int 0, .ref m26, .int 0, .ref m28, .long 0, .ref m30, .ref m31, .int 0, .int 0, .int 0, .ref m35, .ref m36, .int 0, .ref m38, .int 0, .int 0, .ref m41, .ref m42, .ref m43, .ref m44, .ref m45, .ref m46, .ref m47, .ref m48]))]) [0] rfl
    have hDc := hD.sub (ws' := [(md, .inr (12, [.ref m0, .ref m1, .int 0, .ref m3, .ref m4, .ref m5, .ref m6, .ref m7, .ref m8, .ref m9, .ref m10, .ref m11, .ref m12, .ref m13, .ref m14, .ref m15, .ref m16, .int 0, .int 0, .int 0, .int 0, .int 0, .int 0, .int 0, .ref m24, .int 0, .ref m26, .int 0, .ref m28, .long 0, .ref m30, .ref m31, .int 0, .int 0, .int 0, .ref m35, .ref m36, .int 0, .ref m38, .int 0, .int 0, .ref m41, .ref m42, .ref m43, .ref m44, .ref m45, .ref m46, .ref m47, .ref m48]))]) [0] (by decide) rfl
    refine tl_ci (wr := [(m3, .inl (cy 0, 3, .inl (fun _ => 0))), (m5, .inl (cy 0, 22, .inl f_9)), (m7, .inl (cy 0, 22, .inl f_10)), (m9, .inl (cy 0, 6, .inl f_11)), (m10, .inl (cy 0, 22, .inl f_12)), (m12, .inl (cy 0, 22, .inl f_13)), (m13, .inl (cy 0, 22, .inl f_14)), (m14, .inl (cy 0, 22, .inl f_15)), (m16, .inl (cy 0, 22, .inl f_16))]) _ _ hP hD hS hA [0] [1, 2, 3, 4, 5, 6, 7, 8, 9] rfl rfl (by decide) (by decide) (tl_rV (As := []) (rest := []) ⟨hx, hb, hml, hown, hta⟩ hK hN hPc hDc (ci := 12) rfl 0 rfl lk_X12_330 (c_X12_clauseHere_0 l D cy H.size md m0 m1 m3 m4 m5 m6 m7 m8 m9 m10 m11 m12 m13 m14 m15 m16 m24 m26 m28 m30 m31 m35 m36 m38 m41 m42 m43 m44 m45 m46 m47 m48 ) rfl rfl ⟨Nat.le_of_ble_eq_true rfl, Nat.le_of_ble_eq_true rfl⟩ rfl hl.1 rfl (Nat.le_of_ble_eq_true rfl) dX12_text_147 ⟨Nat.le_of_ble_eq_true rfl, Nat.le_of_ble_eq_true rfl⟩) (fun r_18 u_19 H locs hw_17 hP hD hS => ?_)
    have hP : va_P D vwCl [(m3, .inl (cy 0, 3, .inl (fun _ => 0))), (m5, .inl (cy 0, 22, .inl f_9)), (m7, .inl (cy 0, 22, .inl f_10)), (m9, .inl (cy 0, 6, .inl f_11)), (m10, .inl (cy 0, 22, .inl f_12)), (m12, .inl (cy 0, 22, .inl f_13)), (m13, .inl (cy 0, 22, .inl f_14)), (m14, .inl (cy 0, 22, .inl f_15)), (m16, .inl (cy 0, 22, .inl f_16)), (md, .inr (12, [.ref m0, .ref m1, .int 0, .ref m3, .ref m4, .ref m5, .ref m6, .ref m7, .ref m8, .ref m9, .ref m10, .ref m11, .ref m12, .ref m13, .ref m14, .ref m15, .ref m16, .int 0, .int 1, .int 0, .int 0, .int 0, .int 0, .int 0, .ref m24, .int 0, .ref m26, .int 0, .ref m28, .long 0, .ref m30, .ref m31, .int 0, .int 0, .int 0, .ref m35, .ref m36, .int 0, .ref m38, .int 0, .int 0, .ref m41, .ref m42, .ref m43, .ref m44, .ref m45, .ref m46, .ref m47, .ref m48]))] H := hP
    have hD : va_D A [(m3, .inl (cy 0, 3, .inl (fun _ => 0))), (m5, .inl (cy 0, 22, .inl f_9)), (m7, .inl (cy 0, 22, .inl f_10)), (m9, .inl (cy 0, 6, .inl f_11)), (m10, .inl (cy 0, 22, .inl f_12)), (m12, .inl (cy 0, 22, .inl f_13)), (m13, .inl (cy 0, 22, .inl f_14)), (m14, .inl (cy 0, 22, .inl f_15)), (m16, .inl (cy 0, 22, .inl f_16)), (md, .inr (12, [.ref m0, .ref m1, .int 0, .ref m3, .ref m4, .ref m5, .ref m6, .ref m7, .ref m8, .ref m9, .ref m10, .ref m11, .ref m12, .ref m13, .ref m14, .ref m15, .ref m16, .int 0, .int 1, .int 0, .int 0, .int 0, .int 0, .int 0, .ref m24, .int 0, .ref m26, .int 0, .ref m28, .long 0, .ref m30, .ref m31, .int 0, .int 0, .int 0, .ref m35, .ref m36, .int 0, .ref m38, .int 0, .int 0, .ref m41, .ref m42, .ref m43, .ref m44, .ref m45, .ref m46, .ref m47, .ref m48]))] := hD
    refine W.widen (k := 0) (n := 0) (Nat.le_refl _) (Nat.le_refl _) ?_
    subst hw_17
    refine lv_istore_n (lv' := [(2, .int 0), (0, .ref md), (1, .int 0)]) hx hb dX12_text_150 rfl hl (by decide) rfl (fun ls hl => ?_)
    refine lv_iload_n hx hb dX12_text_151 rfl (lv_at hl 0 rfl) ?_
    refine lv_if_eq (tgt := 182) hx hb dX12_text_152 (by decide) (fun _ => ?_) (fun c => absurd c (by decide))
    refine lv_iload_n hx hb dX12_text_182 rfl (lv_at hl 0 rfl) ?_
    refine lv_if_eq (tgt := 204) hx hb dX12_text_183 (by decide) (fun _ => ?_) (fun c => absurd c (by decide))
    refine lv_aload_n hx hb dX12_text_204 rfl (lv_at hl 1 rfl) ?_
    refine lv_iconst (v := 0) hx hb dX12_text_205 (by decide) ?_
    refine va_put (D := D) (ci := 12) (v := .int 0) (ty := tyX12 2) (C := RX12) (T := TX12) (N := 49) hx hb hta inlX12 tyX12 tyX12_ok nmX12 hown hK hP hD hS 9 rfl rfl 2 (by decide) (hta _ wk_347) (fun _ h9 => h9) rfl (tyX12_ok 2 (by decide)) rfl rfl (Nat.le_of_ble_eq_true rfl) dX12_text_206 (fun H locs hP hD hS => ?_)
    have hP : va_P D vwCl [(m3, .inl (cy 0, 3, .inl (fun _ => 0))), (m5, .inl (cy 0, 22, .inl f_9)), (m7, .inl (cy 0, 22, .inl f_10)), (m9, .inl (cy 0, 6, .inl f_11)), (m10, .inl (cy 0, 22, .inl f_12)), (m12, .inl (cy 0, 22, .inl f_13)), (m13, .inl (cy 0, 22, .inl f_14)), (m14, .inl (cy 0, 22, .inl f_15)), (m16, .inl (cy 0, 22, .inl f_16)), (md, .inr (12, [.ref m0, .ref m1, .int 0, .ref m3, .ref m4, .ref m5, .ref m6, .ref m7, .ref m8, .ref m9, .ref m10, .ref m11, .ref m12, .ref m13, .ref m14, .ref m15, .ref m16, .int 0, .int 1, .int 0, .int 0, .int 0, .int 0, .int 0, .ref m24, .int 0, .ref m26, .int 0, .ref m28, .long 0, .ref m30, .ref m31, .int 0, .int 0, .int 0, .ref m35, .ref m36, .int 0, .ref m38, .int 0, .int 0, .ref m41, .ref m42, .ref m43, .ref m44, .ref m45, .ref m46, .ref m47, .ref m48]))] H := hP
    have hD : va_D A [(m3, .inl (cy 0, 3, .inl (fun _ => 0))), (m5, .inl (cy 0, 22, .inl f_9)), (m7, .inl (cy 0, 22, .inl f_10)), (m9, .inl (cy 0, 6, .inl f_11)), (m10, .inl (cy 0, 22, .inl f_12)), (m12, .inl (cy 0, 22, .inl f_13)), (m13, .inl (cy 0, 22, .inl f_14)), (m14, .inl (cy 0, 22, .inl f_15)), (m16, .inl (cy 0, 22, .inl f_16)), (md, .inr (12, [.ref m0, .ref m1, .int 0, .ref m3, .ref m4, .ref m5, .ref m6, .ref m7, .ref m8, .ref m9, .ref m10, .ref m11, .ref m12, .ref m13, .ref m14, .ref m15, .ref m16, .int 0, .int 1, .int 0, .int 0, .int 0, .int 0, .int 0, .ref m24, .int 0, .ref m26, .int 0, .ref m28, .long 0, .ref m30, .ref m31, .int 0, .int 0, .int 0, .ref m35, .ref m36, .int 0, .ref m38, .int 0, .int 0, .ref m41, .ref m42, .ref m43, .ref m44, .ref m45, .ref m46, .ref m47, .ref m48]))] := hD
    refine lv_aload_n hx hb dX12_text_209 rfl (lv_at hl 1 rfl) ?_
    refine va_get (D := D) (ci := 12) (v := .int 1) (C := RX12) (T := TX12) (N := 49) hx hb hta inlX12 hown hK hP 9 rfl rfl 18 (by decide) (hta _ wk_540) (fun _ h9 => h9) rfl dX12_text_210 ?_
    refine lv_if_le (tgt := 224) hx hb dX12_text_213 (by decide) (fun c => absurd c (by decide)) (fun _ => ?_)
    refine lv_bipush (v := (-2)) hx hb dX12_text_216 (by decide) ?_
    refine lv_aload_n hx hb dX12_text_218 rfl (lv_at hl 1 rfl) ?_
    refine va_get (D := D) (ci := 12) (v := .int 1) (C := RX12) (T := TX12) (N := 49) hx hb hta inlX12 hown hK hP 9 rfl rfl 18 (by decide) (hta _ wk_540) (fun _ h9 => h9) rfl dX12_text_219 ?_
    refine lv_isub hx hb dX12_text_222 ?_
    refine lv_topi (fun z_20 ez_20 => ?_)
    obtain rfl : z_20 = ((-3) : Int32) := ez_20.trans (by decide)
    have hP9 := hP.sub (ws' := []) [] rfl
    have hD9 := hD.sub (ws' := []) [] (by decide) rfl
    exact W.iret (v := (-3)) hx hb hr (fun t ht hW => ⟨⟨_, (), rfl, (Or.inl ⟨by decide, rfl⟩), by rw [ht]; exact hP9, hD9⟩, hS.F ht⟩) hS.2.2 dX12_text_223
set_option maxHeartbeats 4000000 in
set_option maxRecDepth 100000 in
theorem c_X12_text_1 (l : Launch) (D : va_G) (cy : Nat → ClassId) (sz : Nat) (md : Nat) (m0 : Nat) (m1 : Nat) (m3 : Nat) (m4 : Nat) (m5 : Nat) (m6 : Nat) (m7 : Nat) (m8 : Nat) (m9 : Nat) (m10 : Nat) (m11 : Nat) (m12 : Nat) (m13 : Nat) (m14 : Nat) (m15 : Nat) (m16 : Nat) (m24 : Nat) (m26 : Nat) (m28 : Nat) (m30 : Nat) (m31 : Nat) (m35 : Nat) (m36 : Nat) (m38 : Nat) (m41 : Nat) (m42 : Nat) (m43 : Nat) (m44 : Nat) (m45 : Nat) (m46 : Nat) (m47 : Nat) (m48 : Nat)  : Met l yX12_text (tl_w yX12_text cX12_text 3 (some .int)) ({ frames := 6, cells := 0, slots := 0, locals := 260 }) (va_Pc [.ref md, .int 1] (tl_P D cy [(md, .inr (12, [.ref m0, .ref m1, .int 0, .ref m3, .ref m4, .ref m5, .ref m6, .ref m7, .ref m8, .ref m9, .ref m10, .ref m11, .ref m12, .ref m13, .ref m14, .ref m15, .ref m16, .int 0, .int 0, .int 0, .int 0, .int 0, .int 0, .int 0, .ref m24, .int 0, .ref m26, .int 0, .ref m28, .long 0, .ref m30, .ref m31, .int 0, .int 0, .int 0, .ref m35, .ref m36, .int 0, .ref m38, .int 0, .int 0, .ref m41, .ref m42, .ref m43, .ref m44, .ref m45, .ref m46, .ref m47, .ref m48])), (m3, .inl (cy 0, 3, .inl (fun _ => 0))), (m5, .inl (cy 0, 22, .inl (fun _ => 0))), (m7, .inl (cy 0, 22, .inl (fun _ => 0))), (m9, .inl (cy 0, 6, .inl (fun _ => 0))), (m10, .inl (cy 0, 22, .inl (fun _ => 0))), (m12, .inl (cy 0, 22, .inl (fun _ => 0))), (m13, .inl (cy 0, 22, .inl (fun _ => 0))), (m14, .inl (cy 0, 22, .inl (fun _ => 0))), (m16, .inl (cy 0, 22, .inl (fun _ => 0)))] sz)) (va_Qi (fun (r : Int32) (u : Unit) => tl_E r (0 ≤ (1 : Int32).toInt ∧ (1 : Int32).toInt ≤ 2) (-3) (-1)) (tl_B D (va_A [(md, .inr (12, [.ref m0, .ref m1, .int 0, .ref m3, .ref m4, .ref m5, .ref m6, .ref m7, .ref m8, .ref m9, .ref m10, .ref m11, .ref m12, .ref m13, .ref m14, .ref m15, .ref m16, .int 0, .int 0, .int 0, .int 0, .int 0, .int 0, .int 0, .ref m24, .int 0, .ref m26, .int 0, .ref m28, .long 0, .ref m30, .ref m31, .int 0, .int 0, .int 0, .ref m35, .ref m36, .int 0, .ref m38, .int 0, .int 0, .ref m41, .ref m42, .ref m43, .ref m44, .ref m45, .ref m46, .ref m47, .ref m48])), (m3, .inl (cy 0, 3, .inl (fun _ => 0))), (m5, .inl (cy 0, 22, .inl (fun _ => 0))), (m7, .inl (cy 0, 22, .inl (fun _ => 0))), (m9, .inl (cy 0, 6, .inl (fun _ => 0))), (m10, .inl (cy 0, 22, .inl (fun _ => 0))), (m12, .inl (cy 0, 22, .inl (fun _ => 0))), (m13, .inl (cy 0, 22, .inl (fun _ => 0))), (m14, .inl (cy 0, 22, .inl (fun _ => 0))), (m16, .inl (cy 0, 22, .inl (fun _ => 0)))] sz) (fun u : Unit => [])) (va_A [(md, .inr (12, [.ref m0, .ref m1, .int 0, .ref m3, .ref m4, .ref m5, .ref m6, .ref m7, .ref m8, .ref m9, .ref m10, .ref m11, .ref m12, .ref m13, .ref m14, .ref m15, .ref m16, .int 0, .int 0, .int 0, .int 0, .int 0, .int 0, .int 0, .ref m24, .int 0, .ref m26, .int 0, .ref m28, .long 0, .ref m30, .ref m31, .int 0, .int 0, .int 0, .ref m35, .ref m36, .int 0, .ref m38, .int 0, .int 0, .ref m41, .ref m42, .ref m43, .ref m44, .ref m45, .ref m46, .ref m47, .ref m48])), (m3, .inl (cy 0, 3, .inl (fun _ => 0))), (m5, .inl (cy 0, 22, .inl (fun _ => 0))), (m7, .inl (cy 0, 22, .inl (fun _ => 0))), (m9, .inl (cy 0, 6, .inl (fun _ => 0))), (m10, .inl (cy 0, 22, .inl (fun _ => 0))), (m12, .inl (cy 0, 22, .inl (fun _ => 0))), (m13, .inl (cy 0, 22, .inl (fun _ => 0))), (m14, .inl (cy 0, 22, .inl (fun _ => 0))), (m16, .inl (cy 0, 22, .inl (fun _ => 0)))] sz)) 0 0 (va_A [(md, .inr (12, [.ref m0, .ref m1, .int 0, .ref m3, .ref m4, .ref m5, .ref m6, .ref m7, .ref m8, .ref m9, .ref m10, .ref m11, .ref m12, .ref m13, .ref m14, .ref m15, .ref m16, .int 0, .int 0, .int 0, .int 0, .int 0, .int 0, .int 0, .ref m24, .int 0, .ref m26, .int 0, .ref m28, .long 0, .ref m30, .ref m31, .int 0, .int 0, .int 0, .ref m35, .ref m36, .int 0, .ref m38, .int 0, .int 0, .ref m41, .ref m42, .ref m43, .ref m44, .ref m45, .ref m46, .ref m47, .ref m48])), (m3, .inl (cy 0, 3, .inl (fun _ => 0))), (m5, .inl (cy 0, 22, .inl (fun _ => 0))), (m7, .inl (cy 0, 22, .inl (fun _ => 0))), (m9, .inl (cy 0, 6, .inl (fun _ => 0))), (m10, .inl (cy 0, 22, .inl (fun _ => 0))), (m12, .inl (cy 0, 22, .inl (fun _ => 0))), (m13, .inl (cy 0, 22, .inl (fun _ => 0))), (m14, .inl (cy 0, 22, .inl (fun _ => 0))), (m16, .inl (cy 0, 22, .inl (fun _ => 0)))] sz) := by
  refine Met.ofW (cc := cX12_text) (maxL := 3) (ret := (some .int)) (by decide) rfl ?_
  intro p e s m args below meth c s₁ B hml hv
  obtain ⟨rfl, hsz, hP, hK, hD0, hN⟩ := hv
  have hx := B.exec
  have hb := B.bytes
  have hr := B.returns
  have hta := tl_hta (atoms_spec (ws := tl_w yX12_text cX12_text 3 (some .int)) B.pre)
  have hown : s.vm.findClass RX12 = some m.cls := findClass_of_methodNamed B.named
  have hlocks := B.notSynchronized
  subst hsz
  have hD := hD0.self (sz := s.heap.size)
  generalize hAe : va_A [(md, .inr (12, [.ref m0, .ref m1, .int 0, .ref m3, .ref m4, .ref m5, .ref m6, .ref m7, .ref m8, .ref m9, .ref m10, .ref m11, .ref m12, .ref m13, .ref m14, .ref m15, .ref m16, .int 0, .int 0, .int 0, .int 0, .int 0, .int 0, .int 0, .ref m24, .int 0, .ref m26, .int 0, .ref m28, .long 0, .ref m30, .ref m31, .int 0, .int 0, .int 0, .ref m35, .ref m36, .int 0, .ref m38, .int 0, .int 0, .ref m41, .ref m42, .ref m43, .ref m44, .ref m45, .ref m46, .ref m47, .ref m48])), (m3, .inl (cy 0, 3, .inl (fun _ => 0))), (m5, .inl (cy 0, 22, .inl (fun _ => 0))), (m7, .inl (cy 0, 22, .inl (fun _ => 0))), (m9, .inl (cy 0, 6, .inl (fun _ => 0))), (m10, .inl (cy 0, 22, .inl (fun _ => 0))), (m12, .inl (cy 0, 22, .inl (fun _ => 0))), (m13, .inl (cy 0, 22, .inl (fun _ => 0))), (m14, .inl (cy 0, 22, .inl (fun _ => 0))), (m16, .inl (cy 0, 22, .inl (fun _ => 0)))] s.heap.size = A at hD ⊢
  have hA : ∀ q : Nat, s.heap.size ≤ q → A q := fun q h => by rw [← hAe]; exact Or.inr h
  have hS : va_S A s.heap s.heap [] := va_S.rf
  have hP : va_P D vwCl [(md, .inr (12, [.ref m0, .ref m1, .int 0, .ref m3, .ref m4, .ref m5, .ref m6, .ref m7, .ref m8, .ref m9, .ref m10, .ref m11, .ref m12, .ref m13, .ref m14, .ref m15, .ref m16, .int 0, .int 0, .int 0, .int 0, .int 0, .int 0, .int 0, .ref m24, .int 0, .ref m26, .int 0, .ref m28, .long 0, .ref m30, .ref m31, .int 0, .int 0, .int 0, .ref m35, .ref m36, .int 0, .ref m38, .int 0, .int 0, .ref m41, .ref m42, .ref m43, .ref m44, .ref m45, .ref m46, .ref m47, .ref m48])), (m3, .inl (cy 0, 3, .inl (fun _ => 0))), (m5, .inl (cy 0, 22, .inl (fun _ => 0))), (m7, .inl (cy 0, 22, .inl (fun _ => 0))), (m9, .inl (cy 0, 6, .inl (fun _ => 0))), (m10, .inl (cy 0, 22, .inl (fun _ => 0))), (m12, .inl (cy 0, 22, .inl (fun _ => 0))), (m13, .inl (cy 0, 22, .inl (fun _ => 0))), (m14, .inl (cy 0, 22, .inl (fun _ => 0))), (m16, .inl (cy 0, 22, .inl (fun _ => 0)))] s.heap := hP
  have hl := lv_entry ([.ref md, .int 1]) (n := 3) (Nat.le_of_ble_eq_true rfl)
  rw [lg_entry_eq]
  generalize (lg_sl ([.ref md, .int 1]) ++ List.replicate (3 - (lg_sl ([.ref md, .int 1])).length) Slot.unset).toArray = ls at hl ⊢
  have hl : lv_has ls 3 [(0, .ref md), (1, .int 1)] := hl
  refine lv_iload_n hx hb dX12_text_0 rfl (lv_at hl 1 rfl) ?_
  refine lv_i2l (v := 1) hx hb dX12_text_1 (by first | rfl | decide) ?_
  refine lv_lconst (v := 0) hx hb dX12_text_2 (by decide) ?_
  refine lv_ldc2 (v := 2) hx hb hown (hta _ wk_536) dX12_text_3 ?_
  have hPc := hP.sub (ws' := []) [] rfl
  have hDc := hD.sub (ws' := []) [] (by decide) rfl
  refine tl_si (tl_rS (As := [.long 1, .long 0, .long 2]) (rest := []) ⟨hx, hb, hml, hown, hta⟩ hK hN hPc hDc lk_X12_112 (c_X12_in l D cy s.heap.size 1 0 2 ) rfl rfl ⟨Nat.le_of_ble_eq_true rfl, Nat.le_of_ble_eq_true rfl⟩ rfl hl.1 rfl (Nat.le_of_ble_eq_true rfl) dX12_text_6 ⟨Nat.le_of_ble_eq_true rfl, Nat.le_of_ble_eq_true rfl⟩) (fun r_2 hw_1 => ?_)
  have hw_1 : tl_E r_2 ((0 : Int) ≤ (1 : Int) ∧ (1 : Int) ≤ (2 : Int)) 1 0 := hw_1
  refine lv_if_eq (tgt := 25) hx hb dX12_text_9 (by decide) (fun c_3 => ?_) (fun c_3 => ?_)
  · have c_3 := hw_1.f c_3
    exfalso; omega
  · have c_3 := hw_1.t c_3
    refine lv_aload_n hx hb dX12_text_12 rfl (lv_at hl 0 rfl) ?_
    refine va_get (D := D) (ci := 12) (v := .ref m3) (C := RX12) (T := TX12) (N := 49) hx hb hta inlX12 hown hK hP 0 rfl rfl 3 (by decide) (hta _ wk_152) (fun _ h9 => h9) rfl dX12_text_13 ?_
    refine lv_iload_n hx hb dX12_text_16 rfl (lv_at hl 1 rfl) ?_
    refine va_iald (D := D) hx hb hK hP 1 0 rfl rfl (tl_in (by decide) (by decide)) dX12_text_17 ?_
    refine W.eq (g2 := F0 m 18 ls ([.int 0])) rfl ?_
    refine lv_iload_n hx hb dX12_text_18 rfl (lv_at hl 1 rfl) ?_
    have hPc := hP.sub (ws' := []) [] rfl
    have hDc := hD.sub (ws' := []) [] (by decide) rfl
    refine tl_si (tl_rS (As := [.int 1]) (rest := [.int 0]) ⟨hx, hb, hml, hown, hta⟩ hK hN hPc hDc lk_X12_324 (c_X12_mostOf_1 l D cy s.heap.size  ) rfl rfl ⟨Nat.le_of_ble_eq_true rfl, Nat.le_of_ble_eq_true rfl⟩ rfl hl.1 rfl (Nat.le_of_ble_eq_true rfl) dX12_text_19 ⟨Nat.le_of_ble_eq_true rfl, Nat.le_of_ble_eq_true rfl⟩) (fun r_5 hw_4 => ?_)
    subst hw_4
    refine lv_icmp_ne (tgt := 27) hx hb dX12_text_22 (by decide) (fun _ => ?_) (fun c => absurd c (by decide))
    refine lv_aload_n hx hb dX12_text_27 rfl (lv_at hl 0 rfl) ?_
    refine lv_iload_n hx hb dX12_text_28 rfl (lv_at hl 1 rfl) ?_
    have hPc := hP.sub (ws' := []) [] rfl
    have hDc := hD.sub (ws' := []) [] (by decide) rfl
    refine tl_si (tl_rS (As := [.int 1]) (rest := [.ref md]) ⟨hx, hb, hml, hown, hta⟩ hK hN hPc hDc lk_X12_327 (c_X12_firstOf_1 l D cy s.heap.size  ) rfl rfl ⟨Nat.le_of_ble_eq_true rfl, Nat.le_of_ble_eq_true rfl⟩ rfl hl.1 rfl (Nat.le_of_ble_eq_true rfl) dX12_text_29 ⟨Nat.le_of_ble_eq_true rfl, Nat.le_of_ble_eq_true rfl⟩) (fun r_7 hw_6 => ?_)
    subst hw_6
    refine lv_aload_n hx hb dX12_text_32 rfl (lv_at hl 0 rfl) ?_
    refine va_get (D := D) (ci := 12) (v := .ref m3) (C := RX12) (T := TX12) (N := 49) hx hb hta inlX12 hown hK hP 0 rfl rfl 3 (by decide) (hta _ wk_152) (fun _ h9 => h9) rfl dX12_text_33 ?_
    refine lv_iload_n hx hb dX12_text_36 rfl (lv_at hl 1 rfl) ?_
    refine va_iald (D := D) hx hb hK hP 1 0 rfl rfl (tl_in (by decide) (by decide)) dX12_text_37 ?_
    refine W.eq (g2 := F0 m 38 ls ([.int 0, .int 6, .ref md])) rfl ?_
    refine lv_iadd hx hb dX12_text_38 ?_
    refine lv_topi (fun z_8 ez_8 => ?_)
    obtain rfl : z_8 = (6 : Int32) := ez_8.trans (by decide)
    refine va_put (D := D) (ci := 12) (v := .int 6) (ty := tyX12 20) (C := RX12) (T := TX12) (N := 49) hx hb hta inlX12 tyX12 tyX12_ok nmX12 hown hK hP hD hS 0 rfl rfl 20 (by decide) (hta _ wk_537) (fun _ h9 => h9) rfl (tyX12_ok 20 (by decide)) rfl rfl (Nat.le_of_ble_eq_true rfl) dX12_text_39 (fun H locs hP hD hS => ?_)
    have hP : va_P D vwCl [(md, .inr (12, [.ref m0, .ref m1, .int 0, .ref m3, .ref m4, .ref m5, .ref m6, .ref m7, .ref m8, .ref m9, .ref m10, .ref m11, .ref m12, .ref m13, .ref m14, .ref m15, .ref m16, .int 0, .int 0, .int 0, .int 6, .int 0, .int 0, .int 0, .ref m24, .int 0, .ref m26, .int 0, .ref m28, .long 0, .ref m30, .ref m31, .int 0, .int 0, .int 0, .ref m35, .ref m36, .int 0, .ref m38, .int 0, .int 0, .ref m41, .ref m42, .ref m43, .ref m44, .ref m45, .ref m46, .ref m47, .ref m48])), (m3, .inl (cy 0, 3, .inl (fun _ => 0))), (m5, .inl (cy 0, 22, .inl (fun _ => 0))), (m7, .inl (cy 0, 22, .inl (fun _ => 0))), (m9, .inl (cy 0, 6, .inl (fun _ => 0))), (m10, .inl (cy 0, 22, .inl (fun _ => 0))), (m12, .inl (cy 0, 22, .inl (fun _ => 0))), (m13, .inl (cy 0, 22, .inl (fun _ => 0))), (m14, .inl (cy 0, 22, .inl (fun _ => 0))), (m16, .inl (cy 0, 22, .inl (fun _ => 0)))] H := hP
    have hD : va_D A [(md, .inr (12, [.ref m0, .ref m1, .int 0, .ref m3, .ref m4, .ref m5, .ref m6, .ref m7, .ref m8, .ref m9, .ref m10, .ref m11, .ref m12, .ref m13, .ref m14, .ref m15, .ref m16, .int 0, .int 0, .int 0, .int 6, .int 0, .int 0, .int 0, .ref m24, .int 0, .ref m26, .int 0, .ref m28, .long 0, .ref m30, .ref m31, .int 0, .int 0, .int 0, .ref m35, .ref m36, .int 0, .ref m38, .int 0, .int 0, .ref m41, .ref m42, .ref m43, .ref m44, .ref m45, .ref m46, .ref m47, .ref m48])), (m3, .inl (cy 0, 3, .inl (fun _ => 0))), (m5, .inl (cy 0, 22, .inl (fun _ => 0))), (m7, .inl (cy 0, 22, .inl (fun _ => 0))), (m9, .inl (cy 0, 6, .inl (fun _ => 0))), (m10, .inl (cy 0, 22, .inl (fun _ => 0))), (m12, .inl (cy 0, 22, .inl (fun _ => 0))), (m13, .inl (cy 0, 22, .inl (fun _ => 0))), (m14, .inl (cy 0, 22, .inl (fun _ => 0))), (m16, .inl (cy 0, 22, .inl (fun _ => 0)))] := hD
    refine lv_aload_n hx hb dX12_text_42 rfl (lv_at hl 0 rfl) ?_
    refine va_get (D := D) (ci := 12) (v := .ref m5) (C := RX12) (T := TX12) (N := 49) hx hb hta inlX12 hown hK hP 0 rfl rfl 5 (by decide) (hta _ wk_154) (fun _ h9 => h9) rfl dX12_text_43 ?_
    refine lv_aload_n hx hb dX12_text_46 rfl (lv_at hl 0 rfl) ?_
    refine va_get (D := D) (ci := 12) (v := .int 6) (C := RX12) (T := TX12) (N := 49) hx hb hta inlX12 hown hK hP 0 rfl rfl 20 (by decide) (hta _ wk_537) (fun _ h9 => h9) rfl dX12_text_47 ?_
    refine lv_iconst (v := 0) hx hb dX12_text_50 (by decide) ?_
    refine va_iast (D := D) hx hb hK hP hD hS 2 0 rfl rfl (tl_in (by decide) (by decide)) dX12_text_51 (fun H locs hP hD hS => ?_)
    have hP : va_P D vwCl [(md, .inr (12, [.ref m0, .ref m1, .int 0, .ref m3, .ref m4, .ref m5, .ref m6, .ref m7, .ref m8, .ref m9, .ref m10, .ref m11, .ref m12, .ref m13, .ref m14, .ref m15, .ref m16, .int 0, .int 0, .int 0, .int 6, .int 0, .int 0, .int 0, .ref m24, .int 0, .ref m26, .int 0, .ref m28, .long 0, .ref m30, .ref m31, .int 0, .int 0, .int 0, .ref m35, .ref m36, .int 0, .ref m38, .int 0, .int 0, .ref m41, .ref m42, .ref m43, .ref m44, .ref m45, .ref m46, .ref m47, .ref m48])), (m3, .inl (cy 0, 3, .inl (fun _ => 0))), (m5, .inl (cy 0, 22, .inl (upd (fun _ => 0) (6 : Int32).toNatClampNeg 0))), (m7, .inl (cy 0, 22, .inl (fun _ => 0))), (m9, .inl (cy 0, 6, .inl (fun _ => 0))), (m10, .inl (cy 0, 22, .inl (fun _ => 0))), (m12, .inl (cy 0, 22, .inl (fun _ => 0))), (m13, .inl (cy 0, 22, .inl (fun _ => 0))), (m14, .inl (cy 0, 22, .inl (fun _ => 0))), (m16, .inl (cy 0, 22, .inl (fun _ => 0)))] H := hP
    have hD : va_D A [(md, .inr (12, [.ref m0, .ref m1, .int 0, .ref m3, .ref m4, .ref m5, .ref m6, .ref m7, .ref m8, .ref m9, .ref m10, .ref m11, .ref m12, .ref m13, .ref m14, .ref m15, .ref m16, .int 0, .int 0, .int 0, .int 6, .int 0, .int 0, .int 0, .ref m24, .int 0, .ref m26, .int 0, .ref m28, .long 0, .ref m30, .ref m31, .int 0, .int 0, .int 0, .ref m35, .ref m36, .int 0, .ref m38, .int 0, .int 0, .ref m41, .ref m42, .ref m43, .ref m44, .ref m45, .ref m46, .ref m47, .ref m48])), (m3, .inl (cy 0, 3, .inl (fun _ => 0))), (m5, .inl (cy 0, 22, .inl (upd (fun _ => 0) (6 : Int32).toNatClampNeg 0))), (m7, .inl (cy 0, 22, .inl (fun _ => 0))), (m9, .inl (cy 0, 6, .inl (fun _ => 0))), (m10, .inl (cy 0, 22, .inl (fun _ => 0))), (m12, .inl (cy 0, 22, .inl (fun _ => 0))), (m13, .inl (cy 0, 22, .inl (fun _ => 0))), (m14, .inl (cy 0, 22, .inl (fun _ => 0))), (m16, .inl (cy 0, 22, .inl (fun _ => 0)))] := hD
    generalize (upd (fun _ => 0) (6 : Int32).toNatClampNeg 0) = f_9 at hP hD
    refine lv_aload_n hx hb dX12_text_52 rfl (lv_at hl 0 rfl) ?_
    refine va_get (D := D) (ci := 12) (v := .ref m7) (C := RX12) (T := TX12) (N := 49) hx hb hta inlX12 hown hK hP 0 rfl rfl 7 (by decide) (hta _ wk_156) (fun _ h9 => h9) rfl dX12_text_53 ?_
    refine lv_aload_n hx hb dX12_text_56 rfl (lv_at hl 0 rfl) ?_
    refine va_get (D := D) (ci := 12) (v := .int 6) (C := RX12) (T := TX12) (N := 49) hx hb hta inlX12 hown hK hP 0 rfl rfl 20 (by decide) (hta _ wk_537) (fun _ h9 => h9) rfl dX12_text_57 ?_
    refine lv_iconst (v := 0) hx hb dX12_text_60 (by decide) ?_
    refine va_iast (D := D) hx hb hK hP hD hS 3 0 rfl rfl (tl_in (by decide) (by decide)) dX12_text_61 (fun H locs hP hD hS => ?_)
    have hP : va_P D vwCl [(md, .inr (12, [.ref m0, .ref m1, .int 0, .ref m3, .ref m4, .ref m5, .ref m6, .ref m7, .ref m8, .ref m9, .ref m10, .ref m11, .ref m12, .ref m13, .ref m14, .ref m15, .ref m16, .int 0, .int 0, .int 0, .int 6, .int 0, .int 0, .int 0, .ref m24, .int 0, .ref m26, .int 0, .ref m28, .long 0, .ref m30, .ref m31, .int 0, .int 0, .int 0, .ref m35, .ref m36, .int 0, .ref m38, .int 0, .int 0, .ref m41, .ref m42, .ref m43, .ref m44, .ref m45, .ref m46, .ref m47, .ref m48])), (m3, .inl (cy 0, 3, .inl (fun _ => 0))), (m5, .inl (cy 0, 22, .inl f_9)), (m7, .inl (cy 0, 22, .inl (upd (fun _ => 0) (6 : Int32).toNatClampNeg 0))), (m9, .inl (cy 0, 6, .inl (fun _ => 0))), (m10, .inl (cy 0, 22, .inl (fun _ => 0))), (m12, .inl (cy 0, 22, .inl (fun _ => 0))), (m13, .inl (cy 0, 22, .inl (fun _ => 0))), (m14, .inl (cy 0, 22, .inl (fun _ => 0))), (m16, .inl (cy 0, 22, .inl (fun _ => 0)))] H := hP
    have hD : va_D A [(md, .inr (12, [.ref m0, .ref m1, .int 0, .ref m3, .ref m4, .ref m5, .ref m6, .ref m7, .ref m8, .ref m9, .ref m10, .ref m11, .ref m12, .ref m13, .ref m14, .ref m15, .ref m16, .int 0, .int 0, .int 0, .int 6, .int 0, .int 0, .int 0, .ref m24, .int 0, .ref m26, .int 0, .ref m28, .long 0, .ref m30, .ref m31, .int 0, .int 0, .int 0, .ref m35, .ref m36, .int 0, .ref m38, .int 0, .int 0, .ref m41, .ref m42, .ref m43, .ref m44, .ref m45, .ref m46, .ref m47, .ref m48])), (m3, .inl (cy 0, 3, .inl (fun _ => 0))), (m5, .inl (cy 0, 22, .inl f_9)), (m7, .inl (cy 0, 22, .inl (upd (fun _ => 0) (6 : Int32).toNatClampNeg 0))), (m9, .inl (cy 0, 6, .inl (fun _ => 0))), (m10, .inl (cy 0, 22, .inl (fun _ => 0))), (m12, .inl (cy 0, 22, .inl (fun _ => 0))), (m13, .inl (cy 0, 22, .inl (fun _ => 0))), (m14, .inl (cy 0, 22, .inl (fun _ => 0))), (m16, .inl (cy 0, 22, .inl (fun _ => 0)))] := hD
    generalize (upd (fun _ => 0) (6 : Int32).toNatClampNeg 0) = f_10 at hP hD
    refine lv_iload_n hx hb dX12_text_62 rfl (lv_at hl 1 rfl) ?_
    refine lv_if_ne (tgt := 76) hx hb dX12_text_63 (by decide) (fun _ => ?_) (fun c => absurd c (by decide))
    refine lv_aload_n hx hb dX12_text_76 rfl (lv_at hl 0 rfl) ?_
    refine va_get (D := D) (ci := 12) (v := .ref m10) (C := RX12) (T := TX12) (N := 49) hx hb hta inlX12 hown hK hP 0 rfl rfl 10 (by decide) (hta _ wk_159) (fun _ h9 => h9) rfl dX12_text_77 ?_
    refine lv_aload_n hx hb dX12_text_80 rfl (lv_at hl 0 rfl) ?_
    refine va_get (D := D) (ci := 12) (v := .int 6) (C := RX12) (T := TX12) (N := 49) hx hb hta inlX12 hown hK hP 0 rfl rfl 20 (by decide) (hta _ wk_537) (fun _ h9 => h9) rfl dX12_text_81 ?_
    refine lv_iconst (v := (-1)) hx hb dX12_text_84 (by decide) ?_
    refine va_iast (D := D) hx hb hK hP hD hS 5 0 rfl rfl (tl_in (by decide) (by decide)) dX12_text_85 (fun H locs hP hD hS => ?_)
    have hP : va_P D vwCl [(md, .inr (12, [.ref m0, .ref m1, .int 0, .ref m3, .ref m4, .ref m5, .ref m6, .ref m7, .ref m8, .ref m9, .ref m10, .ref m11, .ref m12, .ref m13, .ref m14, .ref m15, .ref m16, .int 0, .int 0, .int 0, .int 6, .int 0, .int 0, .int 0, .ref m24, .int 0, .ref m26, .int 0, .ref m28, .long 0, .ref m30, .ref m31, .int 0, .int 0, .int 0, .ref m35, .ref m36, .int 0, .ref m38, .int 0, .int 0, .ref m41, .ref m42, .ref m43, .ref m44, .ref m45, .ref m46, .ref m47, .ref m48])), (m3, .inl (cy 0, 3, .inl (fun _ => 0))), (m5, .inl (cy 0, 22, .inl f_9)), (m7, .inl (cy 0, 22, .inl f_10)), (m9, .inl (cy 0, 6, .inl (fun _ => 0))), (m10, .inl (cy 0, 22, .inl (upd (fun _ => 0) (6 : Int32).toNatClampNeg (-1)))), (m12, .inl (cy 0, 22, .inl (fun _ => 0))), (m13, .inl (cy 0, 22, .inl (fun _ => 0))), (m14, .inl (cy 0, 22, .inl (fun _ => 0))), (m16, .inl (cy 0, 22, .inl (fun _ => 0)))] H := hP
    have hD : va_D A [(md, .inr (12, [.ref m0, .ref m1, .int 0, .ref m3, .ref m4, .ref m5, .ref m6, .ref m7, .ref m8, .ref m9, .ref m10, .ref m11, .ref m12, .ref m13, .ref m14, .ref m15, .ref m16, .int 0, .int 0, .int 0, .int 6, .int 0, .int 0, .int 0, .ref m24, .int 0, .ref m26, .int 0, .ref m28, .long 0, .ref m30, .ref m31, .int 0, .int 0, .int 0, .ref m35, .ref m36, .int 0, .ref m38, .int 0, .int 0, .ref m41, .ref m42, .ref m43, .ref m44, .ref m45, .ref m46, .ref m47, .ref m48])), (m3, .inl (cy 0, 3, .inl (fun _ => 0))), (m5, .inl (cy 0, 22, .inl f_9)), (m7, .inl (cy 0, 22, .inl f_10)), (m9, .inl (cy 0, 6, .inl (fun _ => 0))), (m10, .inl (cy 0, 22, .inl (upd (fun _ => 0) (6 : Int32).toNatClampNeg (-1)))), (m12, .inl (cy 0, 22, .inl (fun _ => 0))), (m13, .inl (cy 0, 22, .inl (fun _ => 0))), (m14, .inl (cy 0, 22, .inl (fun _ => 0))), (m16, .inl (cy 0, 22, .inl (fun _ => 0)))] := hD
    generalize (upd (fun _ => 0) (6 : Int32).toNatClampNeg (-1)) = f_11 at hP hD
    refine lv_aload_n hx hb dX12_text_86 rfl (lv_at hl 0 rfl) ?_
    refine va_get (D := D) (ci := 12) (v := .ref m12) (C := RX12) (T := TX12) (N := 49) hx hb hta inlX12 hown hK hP 0 rfl rfl 12 (by decide) (hta _ wk_161) (fun _ h9 => h9) rfl dX12_text_87 ?_
    refine lv_aload_n hx hb dX12_text_90 rfl (lv_at hl 0 rfl) ?_
    refine va_get (D := D) (ci := 12) (v := .int 6) (C := RX12) (T := TX12) (N := 49) hx hb hta inlX12 hown hK hP 0 rfl rfl 20 (by decide) (hta _ wk_537) (fun _ h9 => h9) rfl dX12_text_91 ?_
    refine lv_iconst (v := (-1)) hx hb dX12_text_94 (by decide) ?_
    refine va_iast (D := D) hx hb hK hP hD hS 6 0 rfl rfl (tl_in (by decide) (by decide)) dX12_text_95 (fun H locs hP hD hS => ?_)
    have hP : va_P D vwCl [(md, .inr (12, [.ref m0, .ref m1, .int 0, .ref m3, .ref m4, .ref m5, .ref m6, .ref m7, .ref m8, .ref m9, .ref m10, .ref m11, .ref m12, .ref m13, .ref m14, .ref m15, .ref m16, .int 0, .int 0, .int 0, .int 6, .int 0, .int 0, .int 0, .ref m24, .int 0, .ref m26, .int 0, .ref m28, .long 0, .ref m30, .ref m31, .int 0, .int 0, .int 0, .ref m35, .ref m36, .int 0, .ref m38, .int 0, .int 0, .ref m41, .ref m42, .ref m43, .ref m44, .ref m45, .ref m46, .ref m47, .ref m48])), (m3, .inl (cy 0, 3, .inl (fun _ => 0))), (m5, .inl (cy 0, 22, .inl f_9)), (m7, .inl (cy 0, 22, .inl f_10)), (m9, .inl (cy 0, 6, .inl (fun _ => 0))), (m10, .inl (cy 0, 22, .inl f_11)), (m12, .inl (cy 0, 22, .inl (upd (fun _ => 0) (6 : Int32).toNatClampNeg (-1)))), (m13, .inl (cy 0, 22, .inl (fun _ => 0))), (m14, .inl (cy 0, 22, .inl (fun _ => 0))), (m16, .inl (cy 0, 22, .inl (fun _ => 0)))] H := hP
    have hD : va_D A [(md, .inr (12, [.ref m0, .ref m1, .int 0, .ref m3, .ref m4, .ref m5, .ref m6, .ref m7, .ref m8, .ref m9, .ref m10, .ref m11, .ref m12, .ref m13, .ref m14, .ref m15, .ref m16, .int 0, .int 0, .int 0, .int 6, .int 0, .int 0, .int 0, .ref m24, .int 0, .ref m26, .int 0, .ref m28, .long 0, .ref m30, .ref m31, .int 0, .int 0, .int 0, .ref m35, .ref m36, .int 0, .ref m38, .int 0, .int 0, .ref m41, .ref m42, .ref m43, .ref m44, .ref m45, .ref m46, .ref m47, .ref m48])), (m3, .inl (cy 0, 3, .inl (fun _ => 0))), (m5, .inl (cy 0, 22, .inl f_9)), (m7, .inl (cy 0, 22, .inl f_10)), (m9, .inl (cy 0, 6, .inl (fun _ => 0))), (m10, .inl (cy 0, 22, .inl f_11)), (m12, .inl (cy 0, 22, .inl (upd (fun _ => 0) (6 : Int32).toNatClampNeg (-1)))), (m13, .inl (cy 0, 22, .inl (fun _ => 0))), (m14, .inl (cy 0, 22, .inl (fun _ => 0))), (m16, .inl (cy 0, 22, .inl (fun _ => 0)))] := hD
    generalize (upd (fun _ => 0) (6 : Int32).toNatClampNeg (-1)) = f_12 at hP hD
    refine lv_aload_n hx hb dX12_text_96 rfl (lv_at hl 0 rfl) ?_
    refine va_get (D := D) (ci := 12) (v := .ref m13) (C := RX12) (T := TX12) (N := 49) hx hb hta inlX12 hown hK hP 0 rfl rfl 13 (by decide) (hta _ wk_162) (fun _ h9 => h9) rfl dX12_text_97 ?_
    refine lv_aload_n hx hb dX12_text_100 rfl (lv_at hl 0 rfl) ?_
    refine va_get (D := D) (ci := 12) (v := .int 6) (C := RX12) (T := TX12) (N := 49) hx hb hta inlX12 hown hK hP 0 rfl rfl 20 (by decide) (hta _ wk_537) (fun _ h9 => h9) rfl dX12_text_101 ?_
    refine lv_iconst (v := (-1)) hx hb dX12_text_104 (by decide) ?_
    refine va_iast (D := D) hx hb hK hP hD hS 7 0 rfl rfl (tl_in (by decide) (by decide)) dX12_text_105 (fun H locs hP hD hS => ?_)
    have hP : va_P D vwCl [(md, .inr (12, [.ref m0, .ref m1, .int 0, .ref m3, .ref m4, .ref m5, .ref m6, .ref m7, .ref m8, .ref m9, .ref m10, .ref m11, .ref m12, .ref m13, .ref m14, .ref m15, .ref m16, .int 0, .int 0, .int 0, .int 6, .int 0, .int 0, .int 0, .ref m24, .int 0, .ref m26, .int 0, .ref m28, .long 0, .ref m30, .ref m31, .int 0, .int 0, .int 0, .ref m35, .ref m36, .int 0, .ref m38, .int 0, .int 0, .ref m41, .ref m42, .ref m43, .ref m44, .ref m45, .ref m46, .ref m47, .ref m48])), (m3, .inl (cy 0, 3, .inl (fun _ => 0))), (m5, .inl (cy 0, 22, .inl f_9)), (m7, .inl (cy 0, 22, .inl f_10)), (m9, .inl (cy 0, 6, .inl (fun _ => 0))), (m10, .inl (cy 0, 22, .inl f_11)), (m12, .inl (cy 0, 22, .inl f_12)), (m13, .inl (cy 0, 22, .inl (upd (fun _ => 0) (6 : Int32).toNatClampNeg (-1)))), (m14, .inl (cy 0, 22, .inl (fun _ => 0))), (m16, .inl (cy 0, 22, .inl (fun _ => 0)))] H := hP
    have hD : va_D A [(md, .inr (12, [.ref m0, .ref m1, .int 0, .ref m3, .ref m4, .ref m5, .ref m6, .ref m7, .ref m8, .ref m9, .ref m10, .ref m11, .ref m12, .ref m13, .ref m14, .ref m15, .ref m16, .int 0, .int 0, .int 0, .int 6, .int 0, .int 0, .int 0, .ref m24, .int 0, .ref m26, .int 0, .ref m28, .long 0, .ref m30, .ref m31, .int 0, .int 0, .int 0, .ref m35, .ref m36, .int 0, .ref m38, .int 0, .int 0, .ref m41, .ref m42, .ref m43, .ref m44, .ref m45, .ref m46, .ref m47, .ref m48])), (m3, .inl (cy 0, 3, .inl (fun _ => 0))), (m5, .inl (cy 0, 22, .inl f_9)), (m7, .inl (cy 0, 22, .inl f_10)), (m9, .inl (cy 0, 6, .inl (fun _ => 0))), (m10, .inl (cy 0, 22, .inl f_11)), (m12, .inl (cy 0, 22, .inl f_12)), (m13, .inl (cy 0, 22, .inl (upd (fun _ => 0) (6 : Int32).toNatClampNeg (-1)))), (m14, .inl (cy 0, 22, .inl (fun _ => 0))), (m16, .inl (cy 0, 22, .inl (fun _ => 0)))] := hD
    generalize (upd (fun _ => 0) (6 : Int32).toNatClampNeg (-1)) = f_13 at hP hD
    refine lv_aload_n hx hb dX12_text_106 rfl (lv_at hl 0 rfl) ?_
    refine va_get (D := D) (ci := 12) (v := .ref m14) (C := RX12) (T := TX12) (N := 49) hx hb hta inlX12 hown hK hP 0 rfl rfl 14 (by decide) (hta _ wk_163) (fun _ h9 => h9) rfl dX12_text_107 ?_
    refine lv_aload_n hx hb dX12_text_110 rfl (lv_at hl 0 rfl) ?_
    refine va_get (D := D) (ci := 12) (v := .int 6) (C := RX12) (T := TX12) (N := 49) hx hb hta inlX12 hown hK hP 0 rfl rfl 20 (by decide) (hta _ wk_537) (fun _ h9 => h9) rfl dX12_text_111 ?_
    refine lv_iconst (v := (-1)) hx hb dX12_text_114 (by decide) ?_
    refine va_iast (D := D) hx hb hK hP hD hS 8 0 rfl rfl (tl_in (by decide) (by decide)) dX12_text_115 (fun H locs hP hD hS => ?_)
    have hP : va_P D vwCl [(md, .inr (12, [.ref m0, .ref m1, .int 0, .ref m3, .ref m4, .ref m5, .ref m6, .ref m7, .ref m8, .ref m9, .ref m10, .ref m11, .ref m12, .ref m13, .ref m14, .ref m15, .ref m16, .int 0, .int 0, .int 0, .int 6, .int 0, .int 0, .int 0, .ref m24, .int 0, .ref m26, .int 0, .ref m28, .long 0, .ref m30, .ref m31, .int 0, .int 0, .int 0, .ref m35, .ref m36, .int 0, .ref m38, .int 0, .int 0, .ref m41, .ref m42, .ref m43, .ref m44, .ref m45, .ref m46, .ref m47, .ref m48])), (m3, .inl (cy 0, 3, .inl (fun _ => 0))), (m5, .inl (cy 0, 22, .inl f_9)), (m7, .inl (cy 0, 22, .inl f_10)), (m9, .inl (cy 0, 6, .inl (fun _ => 0))), (m10, .inl (cy 0, 22, .inl f_11)), (m12, .inl (cy 0, 22, .inl f_12)), (m13, .inl (cy 0, 22, .inl f_13)), (m14, .inl (cy 0, 22, .inl (upd (fun _ => 0) (6 : Int32).toNatClampNeg (-1)))), (m16, .inl (cy 0, 22, .inl (fun _ => 0)))] H := hP
    have hD : va_D A [(md, .inr (12, [.ref m0, .ref m1, .int 0, .ref m3, .ref m4, .ref m5, .ref m6, .ref m7, .ref m8, .ref m9, .ref m10, .ref m11, .ref m12, .ref m13, .ref m14, .ref m15, .ref m16, .int 0, .int 0, .int 0, .int 6, .int 0, .int 0, .int 0, .ref m24, .int 0, .ref m26, .int 0, .ref m28, .long 0, .ref m30, .ref m31, .int 0, .int 0, .int 0, .ref m35, .ref m36, .int 0, .ref m38, .int 0, .int 0, .ref m41, .ref m42, .ref m43, .ref m44, .ref m45, .ref m46, .ref m47, .ref m48])), (m3, .inl (cy 0, 3, .inl (fun _ => 0))), (m5, .inl (cy 0, 22, .inl f_9)), (m7, .inl (cy 0, 22, .inl f_10)), (m9, .inl (cy 0, 6, .inl (fun _ => 0))), (m10, .inl (cy 0, 22, .inl f_11)), (m12, .inl (cy 0, 22, .inl f_12)), (m13, .inl (cy 0, 22, .inl f_13)), (m14, .inl (cy 0, 22, .inl (upd (fun _ => 0) (6 : Int32).toNatClampNeg (-1)))), (m16, .inl (cy 0, 22, .inl (fun _ => 0)))] := hD
    generalize (upd (fun _ => 0) (6 : Int32).toNatClampNeg (-1)) = f_14 at hP hD
    refine lv_aload_n hx hb dX12_text_116 rfl (lv_at hl 0 rfl) ?_
    refine va_get (D := D) (ci := 12) (v := .ref m16) (C := RX12) (T := TX12) (N := 49) hx hb hta inlX12 hown hK hP 0 rfl rfl 16 (by decide) (hta _ wk_165) (fun _ h9 => h9) rfl dX12_text_117 ?_
    refine lv_aload_n hx hb dX12_text_120 rfl (lv_at hl 0 rfl) ?_
    refine va_get (D := D) (ci := 12) (v := .int 6) (C := RX12) (T := TX12) (N := 49) hx hb hta inlX12 hown hK hP 0 rfl rfl 20 (by decide) (hta _ wk_537) (fun _ h9 => h9) rfl dX12_text_121 ?_
    refine lv_iconst (v := (-1)) hx hb dX12_text_124 (by decide) ?_
    refine va_iast (D := D) hx hb hK hP hD hS 9 0 rfl rfl (tl_in (by decide) (by decide)) dX12_text_125 (fun H locs hP hD hS => ?_)
    have hP : va_P D vwCl [(md, .inr (12, [.ref m0, .ref m1, .int 0, .ref m3, .ref m4, .ref m5, .ref m6, .ref m7, .ref m8, .ref m9, .ref m10, .ref m11, .ref m12, .ref m13, .ref m14, .ref m15, .ref m16, .int 0, .int 0, .int 0, .int 6, .int 0, .int 0, .int 0, .ref m24, .int 0, .ref m26, .int 0, .ref m28, .long 0, .ref m30, .ref m31, .int 0, .int 0, .int 0, .ref m35, .ref m36, .int 0, .ref m38, .int 0, .int 0, .ref m41, .ref m42, .ref m43, .ref m44, .ref m45, .ref m46, .ref m47, .ref m48])), (m3, .inl (cy 0, 3, .inl (fun _ => 0))), (m5, .inl (cy 0, 22, .inl f_9)), (m7, .inl (cy 0, 22, .inl f_10)), (m9, .inl (cy 0, 6, .inl (fun _ => 0))), (m10, .inl (cy 0, 22, .inl f_11)), (m12, .inl (cy 0, 22, .inl f_12)), (m13, .inl (cy 0, 22, .inl f_13)), (m14, .inl (cy 0, 22, .inl f_14)), (m16, .inl (cy 0, 22, .inl (upd (fun _ => 0) (6 : Int32).toNatClampNeg (-1))))] H := hP
    have hD : va_D A [(md, .inr (12, [.ref m0, .ref m1, .int 0, .ref m3, .ref m4, .ref m5, .ref m6, .ref m7, .ref m8, .ref m9, .ref m10, .ref m11, .ref m12, .ref m13, .ref m14, .ref m15, .ref m16, .int 0, .int 0, .int 0, .int 6, .int 0, .int 0, .int 0, .ref m24, .int 0, .ref m26, .int 0, .ref m28, .long 0, .ref m30, .ref m31, .int 0, .int 0, .int 0, .ref m35, .ref m36, .int 0, .ref m38, .int 0, .int 0, .ref m41, .ref m42, .ref m43, .ref m44, .ref m45, .ref m46, .ref m47, .ref m48])), (m3, .inl (cy 0, 3, .inl (fun _ => 0))), (m5, .inl (cy 0, 22, .inl f_9)), (m7, .inl (cy 0, 22, .inl f_10)), (m9, .inl (cy 0, 6, .inl (fun _ => 0))), (m10, .inl (cy 0, 22, .inl f_11)), (m12, .inl (cy 0, 22, .inl f_12)), (m13, .inl (cy 0, 22, .inl f_13)), (m14, .inl (cy 0, 22, .inl f_14)), (m16, .inl (cy 0, 22, .inl (upd (fun _ => 0) (6 : Int32).toNatClampNeg (-1))))] := hD
    generalize (upd (fun _ => 0) (6 : Int32).toNatClampNeg (-1)) = f_15 at hP hD
    refine lv_aload_n hx hb dX12_text_126 rfl (lv_at hl 0 rfl) ?_
    refine lv_iconst (v := 0) hx hb dX12_text_127 (by decide) ?_
    refine va_put (D := D) (ci := 12) (v := .int 0) (ty := tyX12 23) (C := RX12) (T := TX12) (N := 49) hx hb hta inlX12 tyX12 tyX12_ok nmX12 hown hK hP hD hS 0 rfl rfl 23 (by decide) (hta _ wk_538) (fun _ h9 => h9) rfl (tyX12_ok 23 (by decide)) rfl rfl (Nat.le_of_ble_eq_true rfl) dX12_text_128 (fun H locs hP hD hS => ?_)
    have hP : va_P D vwCl [(md, .inr (12, [.ref m0, .ref m1, .int 0, .ref m3, .ref m4, .ref m5, .ref m6, .ref m7, .ref m8, .ref m9, .ref m10, .ref m11, .ref m12, .ref m13, .ref m14, .ref m15, .ref m16, .int 0, .int 0, .int 0, .int 6, .int 0, .int 0, .int 0, .ref m24, .int 0, .ref m26, .int 0, .ref m28, .long 0, .ref m30, .ref m31, .int 0, .int 0, .int 0, .ref m35, .ref m36, .int 0, .ref m38, .int 0, .int 0, .ref m41, .ref m42, .ref m43, .ref m44, .ref m45, .ref m46, .ref m47, .ref m48])), (m3, .inl (cy 0, 3, .inl (fun _ => 0))), (m5, .inl (cy 0, 22, .inl f_9)), (m7, .inl (cy 0, 22, .inl f_10)), (m9, .inl (cy 0, 6, .inl (fun _ => 0))), (m10, .inl (cy 0, 22, .inl f_11)), (m12, .inl (cy 0, 22, .inl f_12)), (m13, .inl (cy 0, 22, .inl f_13)), (m14, .inl (cy 0, 22, .inl f_14)), (m16, .inl (cy 0, 22, .inl f_15))] H := hP
    have hD : va_D A [(md, .inr (12, [.ref m0, .ref m1, .int 0, .ref m3, .ref m4, .ref m5, .ref m6, .ref m7, .ref m8, .ref m9, .ref m10, .ref m11, .ref m12, .ref m13, .ref m14, .ref m15, .ref m16, .int 0, .int 0, .int 0, .int 6, .int 0, .int 0, .int 0, .ref m24, .int 0, .ref m26, .int 0, .ref m28, .long 0, .ref m30, .ref m31, .int 0, .int 0, .int 0, .ref m35, .ref m36, .int 0, .ref m38, .int 0, .int 0, .ref m41, .ref m42, .ref m43, .ref m44, .ref m45, .ref m46, .ref m47, .ref m48])), (m3, .inl (cy 0, 3, .inl (fun _ => 0))), (m5, .inl (cy 0, 22, .inl f_9)), (m7, .inl (cy 0, 22, .inl f_10)), (m9, .inl (cy 0, 6, .inl (fun _ => 0))), (m10, .inl (cy 0, 22, .inl f_11)), (m12, .inl (cy 0, 22, .inl f_12)), (m13, .inl (cy 0, 22, .inl f_13)), (m14, .inl (cy 0, 22, .inl f_14)), (m16, .inl (cy 0, 22, .inl f_15))] := hD
    refine lv_aload_n hx hb dX12_text_131 rfl (lv_at hl 0 rfl) ?_
    refine lv_iconst (v := 0) hx hb dX12_text_132 (by decide) ?_
    refine va_put (D := D) (ci := 12) (v := .int 0) (ty := tyX12 17) (C := RX12) (T := TX12) (N := 49) hx hb hta inlX12 tyX12 tyX12_ok nmX12 hown hK hP hD hS 0 rfl rfl 17 (by decide) (hta _ wk_539) (fun _ h9 => h9) rfl (tyX12_ok 17 (by decide)) rfl rfl (Nat.le_of_ble_eq_true rfl) dX12_text_133 (fun H locs hP hD hS => ?_)
    have hP : va_P D vwCl [(md, .inr (12, [.ref m0, .ref m1, .int 0, .ref m3, .ref m4, .ref m5, .ref m6, .ref m7, .ref m8, .ref m9, .ref m10, .ref m11, .ref m12, .ref m13, .ref m14, .ref m15, .ref m16, .int 0, .int 0, .int 0, .int 6, .int 0, .int 0, .int 0, .ref m24, .int 0, .ref m26, .int 0, .ref m28, .long 0, .ref m30, .ref m31, .int 0, .int 0, .int 0, .ref m35, .ref m36, .int 0, .ref m38, .int 0, .int 0, .ref m41, .ref m42, .ref m43, .ref m44, .ref m45, .ref m46, .ref m47, .ref m48])), (m3, .inl (cy 0, 3, .inl (fun _ => 0))), (m5, .inl (cy 0, 22, .inl f_9)), (m7, .inl (cy 0, 22, .inl f_10)), (m9, .inl (cy 0, 6, .inl (fun _ => 0))), (m10, .inl (cy 0, 22, .inl f_11)), (m12, .inl (cy 0, 22, .inl f_12)), (m13, .inl (cy 0, 22, .inl f_13)), (m14, .inl (cy 0, 22, .inl f_14)), (m16, .inl (cy 0, 22, .inl f_15))] H := hP
    have hD : va_D A [(md, .inr (12, [.ref m0, .ref m1, .int 0, .ref m3, .ref m4, .ref m5, .ref m6, .ref m7, .ref m8, .ref m9, .ref m10, .ref m11, .ref m12, .ref m13, .ref m14, .ref m15, .ref m16, .int 0, .int 0, .int 0, .int 6, .int 0, .int 0, .int 0, .ref m24, .int 0, .ref m26, .int 0, .ref m28, .long 0, .ref m30, .ref m31, .int 0, .int 0, .int 0, .ref m35, .ref m36, .int 0, .ref m38, .int 0, .int 0, .ref m41, .ref m42, .ref m43, .ref m44, .ref m45, .ref m46, .ref m47, .ref m48])), (m3, .inl (cy 0, 3, .inl (fun _ => 0))), (m5, .inl (cy 0, 22, .inl f_9)), (m7, .inl (cy 0, 22, .inl f_10)), (m9, .inl (cy 0, 6, .inl (fun _ => 0))), (m10, .inl (cy 0, 22, .inl f_11)), (m12, .inl (cy 0, 22, .inl f_12)), (m13, .inl (cy 0, 22, .inl f_13)), (m14, .inl (cy 0, 22, .inl f_14)), (m16, .inl (cy 0, 22, .inl f_15))] := hD
    refine lv_aload_n hx hb dX12_text_136 rfl (lv_at hl 0 rfl) ?_
    refine lv_iconst (v := 0) hx hb dX12_text_137 (by decide) ?_
    refine va_put (D := D) (ci := 12) (v := .int 0) (ty := tyX12 18) (C := RX12) (T := TX12) (N := 49) hx hb hta inlX12 tyX12 tyX12_ok nmX12 hown hK hP hD hS 0 rfl rfl 18 (by decide) (hta _ wk_540) (fun _ h9 => h9) rfl (tyX12_ok 18 (by decide)) rfl rfl (Nat.le_of_ble_eq_true rfl) dX12_text_138 (fun H locs hP hD hS => ?_)
    have hP : va_P D vwCl [(md, .inr (12, [.ref m0, .ref m1, .int 0, .ref m3, .ref m4, .ref m5, .ref m6, .ref m7, .ref m8, .ref m9, .ref m10, .ref m11, .ref m12, .ref m13, .ref m14, .ref m15, .ref m16, .int 0, .int 0, .int 0, .int 6, .int 0, .int 0, .int 0, .ref m24, .int 0, .ref m26, .int 0, .ref m28, .long 0, .ref m30, .ref m31, .int 0, .int 0, .int 0, .ref m35, .ref m36, .int 0, .ref m38, .int 0, .int 0, .ref m41, .ref m42, .ref m43, .ref m44, .ref m45, .ref m46, .ref m47, .ref m48])), (m3, .inl (cy 0, 3, .inl (fun _ => 0))), (m5, .inl (cy 0, 22, .inl f_9)), (m7, .inl (cy 0, 22, .inl f_10)), (m9, .inl (cy 0, 6, .inl (fun _ => 0))), (m10, .inl (cy 0, 22, .inl f_11)), (m12, .inl (cy 0, 22, .inl f_12)), (m13, .inl (cy 0, 22, .inl f_13)), (m14, .inl (cy 0, 22, .inl f_14)), (m16, .inl (cy 0, 22, .inl f_15))] H := hP
    have hD : va_D A [(md, .inr (12, [.ref m0, .ref m1, .int 0, .ref m3, .ref m4, .ref m5, .ref m6, .ref m7, .ref m8, .ref m9, .ref m10, .ref m11, .ref m12, .ref m13, .ref m14, .ref m15, .ref m16, .int 0, .int 0, .int 0, .int 6, .int 0, .int 0, .int 0, .ref m24, .int 0, .ref m26, .int 0, .ref m28, .long 0, .ref m30, .ref m31, .int 0, .int 0, .int 0, .ref m35, .ref m36, .int 0, .ref m38, .int 0, .int 0, .ref m41, .ref m42, .ref m43, .ref m44, .ref m45, .ref m46, .ref m47, .ref m48])), (m3, .inl (cy 0, 3, .inl (fun _ => 0))), (m5, .inl (cy 0, 22, .inl f_9)), (m7, .inl (cy 0, 22, .inl f_10)), (m9, .inl (cy 0, 6, .inl (fun _ => 0))), (m10, .inl (cy 0, 22, .inl f_11)), (m12, .inl (cy 0, 22, .inl f_12)), (m13, .inl (cy 0, 22, .inl f_13)), (m14, .inl (cy 0, 22, .inl f_14)), (m16, .inl (cy 0, 22, .inl f_15))] := hD
    refine lv_aload_n hx hb dX12_text_141 rfl (lv_at hl 0 rfl) ?_
    refine lv_iconst (v := 0) hx hb dX12_text_142 (by decide) ?_
    refine va_put (D := D) (ci := 12) (v := .int 0) (ty := tyX12 21) (C := RX12) (T := TX12) (N := 49) hx hb hta inlX12 tyX12 tyX12_ok nmX12 hown hK hP hD hS 0 rfl rfl 21 (by decide) (hta _ wk_541) (fun _ h9 => h9) rfl (tyX12_ok 21 (by decide)) rfl rfl (Nat.le_of_ble_eq_true rfl) dX12_text_143 (fun H locs hP hD hS => ?_)
    have hP : va_P D vwCl [(md, .inr (12, [.ref m0, .ref m1, .int 0, .ref m3, .ref m4, .ref m5, .ref m6, .ref m7, .ref m8, .ref m9, .ref m10, .ref m11, .ref m12, .ref m13, .ref m14, .ref m15, .ref m16, .int 0, .int 0, .int 0, .int 6, .int 0, .int 0, .int 0, .ref m24, .int 0, .ref m26, .int 0, .ref m28, .long 0, .ref m30, .ref m31, .int 0, .int 0, .int 0, .ref m35, .ref m36, .int 0, .ref m38, .int 0, .int 0, .ref m41, .ref m42, .ref m43, .ref m44, .ref m45, .ref m46, .ref m47, .ref m48])), (m3, .inl (cy 0, 3, .inl (fun _ => 0))), (m5, .inl (cy 0, 22, .inl f_9)), (m7, .inl (cy 0, 22, .inl f_10)), (m9, .inl (cy 0, 6, .inl (fun _ => 0))), (m10, .inl (cy 0, 22, .inl f_11)), (m12, .inl (cy 0, 22, .inl f_12)), (m13, .inl (cy 0, 22, .inl f_13)), (m14, .inl (cy 0, 22, .inl f_14)), (m16, .inl (cy 0, 22, .inl f_15))] H := hP
    have hD : va_D A [(md, .inr (12, [.ref m0, .ref m1, .int 0, .ref m3, .ref m4, .ref m5, .ref m6, .ref m7, .ref m8, .ref m9, .ref m10, .ref m11, .ref m12, .ref m13, .ref m14, .ref m15, .ref m16, .int 0, .int 0, .int 0, .int 6, .int 0, .int 0, .int 0, .ref m24, .int 0, .ref m26, .int 0, .ref m28, .long 0, .ref m30, .ref m31, .int 0, .int 0, .int 0, .ref m35, .ref m36, .int 0, .ref m38, .int 0, .int 0, .ref m41, .ref m42, .ref m43, .ref m44, .ref m45, .ref m46, .ref m47, .ref m48])), (m3, .inl (cy 0, 3, .inl (fun _ => 0))), (m5, .inl (cy 0, 22, .inl f_9)), (m7, .inl (cy 0, 22, .inl f_10)), (m9, .inl (cy 0, 6, .inl (fun _ => 0))), (m10, .inl (cy 0, 22, .inl f_11)), (m12, .inl (cy 0, 22, .inl f_12)), (m13, .inl (cy 0, 22, .inl f_13)), (m14, .inl (cy 0, 22, .inl f_14)), (m16, .inl (cy 0, 22, .inl f_15))] := hD
    refine lv_aload_n hx hb dX12_text_146 rfl (lv_at hl 0 rfl) ?_
    have hPc := hP.sub (ws' := [(md, .inr (12, [.ref m0, .ref m1, .int 0, .ref m3, .ref m4, .ref m5, .ref m6, .ref m7, .ref m8, .ref m9, .ref m10, .ref m11, .ref m12, .ref m13, .ref m14, .ref m15, .ref m16, .int 0, .int 0, .int 0, .int 6, .int 0, .int 0, .int 0, .ref m24, .int 0, .ref m26, .int 0, .ref m28, .long 0, .ref m30, .ref m31, .int 0, .int 0, .int 0, .ref m35, .ref m36, .int 0, .ref m38, .int 0, .int 0, .ref m41, .ref m42, .ref m43, .ref m44, .ref m45, .ref m46, .ref m47, .ref m48]))]) [0] rfl
    have hDc := hD.sub (ws' := [(md, .inr (12, [.ref m0, .ref m1, .int 0, .ref m3, .ref m4, .ref m5, .ref m6, .ref m7, .ref m8, .ref m9, .ref m10, .ref m11, .ref m12, .ref m13, .ref m14, .ref m15, .ref m16, .int 0, .int 0, .int 0, .int 6, .int 0, .int 0, .int 0, .ref m24, .int 0, .ref m26, .int 0, .ref m28, .long 0, .ref m30, .ref m31, .int 0, .int 0, .int 0, .ref m35, .ref m36, .int 0, .ref m38, .int 0, .int 0, .ref m41, .ref m42, .ref m43, .ref m44, .ref m45, .ref m46, .ref m47, .ref m48]))]) [0] (by decide) rfl
    refine tl_ci (wr := [(m3, .inl (cy 0, 3, .inl (fun _ => 0))), (m5, .inl (cy 0, 22, .inl f_9)), (m7, .inl (cy 0, 22, .inl f_10)), (m9, .inl (cy 0, 6, .inl (fun _ => 0))), (m10, .inl (cy 0, 22, .inl f_11)), (m12, .inl (cy 0, 22, .inl f_12)), (m13, .inl (cy 0, 22, .inl f_13)), (m14, .inl (cy 0, 22, .inl f_14)), (m16, .inl (cy 0, 22, .inl f_15))]) _ _ hP hD hS hA [0] [1, 2, 3, 4, 5, 6, 7, 8, 9] rfl rfl (by decide) (by decide) (tl_rV (As := []) (rest := []) ⟨hx, hb, hml, hown, hta⟩ hK hN hPc hDc (ci := 12) rfl 0 rfl lk_X12_330 (c_X12_clauseHere_6 l D cy H.size md m0 m1 m3 m4 m5 m6 m7 m8 m9 m10 m11 m12 m13 m14 m15 m16 m24 m26 m28 m30 m31 m35 m36 m38 m41 m42 m43 m44 m45 m46 m47 m48 ) rfl rfl ⟨Nat.le_of_ble_eq_true rfl, Nat.le_of_ble_eq_true rfl⟩ rfl hl.1 rfl (Nat.le_of_ble_eq_true rfl) dX12_text_147 ⟨Nat.le_of_ble_eq_true rfl, Nat.le_of_ble_eq_true rfl⟩) (fun r_17 u_18 H locs hw_16 hP hD hS => ?_)
    have hP : va_P D vwCl [(m3, .inl (cy 0, 3, .inl (fun _ => 0))), (m5, .inl (cy 0, 22, .inl f_9)), (m7, .inl (cy 0, 22, .inl f_10)), (m9, .inl (cy 0, 6, .inl (fun _ => 0))), (m10, .inl (cy 0, 22, .inl f_11)), (m12, .inl (cy 0, 22, .inl f_12)), (m13, .inl (cy 0, 22, .inl f_13)), (m14, .inl (cy 0, 22, .inl f_14)), (m16, .inl (cy 0, 22, .inl f_15)), (md, .inr (12, [.ref m0, .ref m1, .int 0, .ref m3, .ref m4, .ref m5, .ref m6, .ref m7, .ref m8, .ref m9, .ref m10, .ref m11, .ref m12, .ref m13, .ref m14, .ref m15, .ref m16, .int 0, .int 1, .int 0, .int 6, .int 0, .int 0, .int 0, .ref m24, .int 0, .ref m26, .int 0, .ref m28, .long 0, .ref m30, .ref m31, .int 0, .int 0, .int 0, .ref m35, .ref m36, .int 0, .ref m38, .int 0, .int 0, .ref m41, .ref m42, .ref m43, .ref m44, .ref m45, .ref m46, .ref m47, .ref m48]))] H := hP
    have hD : va_D A [(m3, .inl (cy 0, 3, .inl (fun _ => 0))), (m5, .inl (cy 0, 22, .inl f_9)), (m7, .inl (cy 0, 22, .inl f_10)), (m9, .inl (cy 0, 6, .inl (fun _ => 0))), (m10, .inl (cy 0, 22, .inl f_11)), (m12, .inl (cy 0, 22, .inl f_12)), (m13, .inl (cy 0, 22, .inl f_13)), (m14, .inl (cy 0, 22, .inl f_14)), (m16, .inl (cy 0, 22, .inl f_15)), (md, .inr (12, [.ref m0, .ref m1, .int 0, .ref m3, .ref m4, .ref m5, .ref m6, .ref m7, .ref m8, .ref m9, .ref m10, .ref m11, .ref m12, .ref m13, .ref m14, .ref m15, .ref m16, .int 0, .int 1, .int 0, .int 6, .int 0, .int 0, .int 0, .ref m24, .int 0, .ref m26, .int 0, .ref m28, .long 0, .ref m30, .ref m31, .int 0, .int 0, .int 0, .ref m35, .ref m36, .int 0, .ref m38, .int 0, .int 0, .ref m41, .ref m42, .ref m43, .ref m44, .ref m45, .ref m46, .ref m47, .ref m48]))] := hD
    refine W.widen (k := 0) (n := 0) (Nat.le_refl _) (Nat.le_refl _) ?_
    subst hw_16
    refine lv_istore_n (lv' := [(2, .int 0), (0, .ref md), (1, .int 1)]) hx hb dX12_text_150 rfl hl (by decide) rfl (fun ls hl => ?_)
    refine lv_iload_n hx hb dX12_text_151 rfl (lv_at hl 0 rfl) ?_
    refine lv_if_eq (tgt := 182) hx hb dX12_text_152 (by decide) (fun _ => ?_) (fun c => absurd c (by decide))
    refine lv_iload_n hx hb dX12_text_182 rfl (lv_at hl 0 rfl) ?_
    refine lv_if_eq (tgt := 204) hx hb dX12_text_183 (by decide) (fun _ => ?_) (fun c => absurd c (by decide))
    refine lv_aload_n hx hb dX12_text_204 rfl (lv_at hl 1 rfl) ?_
    refine lv_iconst (v := 0) hx hb dX12_text_205 (by decide) ?_
    refine va_put (D := D) (ci := 12) (v := .int 0) (ty := tyX12 2) (C := RX12) (T := TX12) (N := 49) hx hb hta inlX12 tyX12 tyX12_ok nmX12 hown hK hP hD hS 9 rfl rfl 2 (by decide) (hta _ wk_347) (fun _ h9 => h9) rfl (tyX12_ok 2 (by decide)) rfl rfl (Nat.le_of_ble_eq_true rfl) dX12_text_206 (fun H locs hP hD hS => ?_)
    have hP : va_P D vwCl [(m3, .inl (cy 0, 3, .inl (fun _ => 0))), (m5, .inl (cy 0, 22, .inl f_9)), (m7, .inl (cy 0, 22, .inl f_10)), (m9, .inl (cy 0, 6, .inl (fun _ => 0))), (m10, .inl (cy 0, 22, .inl f_11)), (m12, .inl (cy 0, 22, .inl f_12)), (m13, .inl (cy 0, 22, .inl f_13)), (m14, .inl (cy 0, 22, .inl f_14)), (m16, .inl (cy 0, 22, .inl f_15)), (md, .inr (12, [.ref m0, .ref m1, .int 0, .ref m3, .ref m4, .ref m5, .ref m6, .ref m7, .ref m8, .ref m9, .ref m10, .ref m11, .ref m12, .ref m13, .ref m14, .ref m15, .ref m16, .int 0, .int 1, .int 0, .int 6, .int 0, .int 0, .int 0, .ref m24, .int 0, .ref m26, .int 0, .ref m28, .long 0, .ref m30, .ref m31, .int 0, .int 0, .int 0, .ref m35, .ref m36, .int 0, .ref m38, .int 0, .int 0, .ref m41, .ref m42, .ref m43, .ref m44, .ref m45, .ref m46, .ref m47, .ref m48]))] H := hP
    have hD : va_D A [(m3, .inl (cy 0, 3, .inl (fun _ => 0))), (m5, .inl (cy 0, 22, .inl f_9)), (m7, .inl (cy 0, 22, .inl f_10)), (m9, .inl (cy 0, 6, .inl (fun _ => 0))), (m10, .inl (cy 0, 22, .inl f_11)), (m12, .inl (cy 0, 22, .inl f_12)), (m13, .inl (cy 0, 22, .inl f_13)), (m14, .inl (cy 0, 22, .inl f_14)), (m16, .inl (cy 0, 22, .inl f_15)), (md, .inr (12, [.ref m0, .ref m1, .int 0, .ref m3, .ref m4, .ref m5, .ref m6, .ref m7, .ref m8, .ref m9, .ref m10, .ref m11, .ref m12, .ref m13, .ref m14, .ref m15, .ref m16, .int 0, .int 1, .int 0, .int 6, .int 0, .int 0, .int 0, .ref m24, .int 0, .ref m26, .int 0, .ref m28, .long 0, .ref m30, .ref m31, .int 0, .int 0, .int 0, .ref m35, .ref m36, .int 0, .ref m38, .int 0, .int 0, .ref m41, .ref m42, .ref m43, .ref m44, .ref m45, .ref m46, .ref m47, .ref m48]))] := hD
    refine lv_aload_n hx hb dX12_text_209 rfl (lv_at hl 1 rfl) ?_
    refine va_get (D := D) (ci := 12) (v := .int 1) (C := RX12) (T := TX12) (N := 49) hx hb hta inlX12 hown hK hP 9 rfl rfl 18 (by decide) (hta _ wk_540) (fun _ h9 => h9) rfl dX12_text_210 ?_
    refine lv_if_le (tgt := 224) hx hb dX12_text_213 (by decide) (fun c => absurd c (by decide)) (fun _ => ?_)
    refine lv_bipush (v := (-2)) hx hb dX12_text_216 (by decide) ?_
    refine lv_aload_n hx hb dX12_text_218 rfl (lv_at hl 1 rfl) ?_
    refine va_get (D := D) (ci := 12) (v := .int 1) (C := RX12) (T := TX12) (N := 49) hx hb hta inlX12 hown hK hP 9 rfl rfl 18 (by decide) (hta _ wk_540) (fun _ h9 => h9) rfl dX12_text_219 ?_
    refine lv_isub hx hb dX12_text_222 ?_
    refine lv_topi (fun z_19 ez_19 => ?_)
    obtain rfl : z_19 = ((-3) : Int32) := ez_19.trans (by decide)
    have hP9 := hP.sub (ws' := []) [] rfl
    have hD9 := hD.sub (ws' := []) [] (by decide) rfl
    exact W.iret (v := (-3)) hx hb hr (fun t ht hW => ⟨⟨_, (), rfl, (Or.inl ⟨by decide, rfl⟩), by rw [ht]; exact hP9, hD9⟩, hS.F ht⟩) hS.2.2 dX12_text_223
set_option maxHeartbeats 4000000 in
set_option maxRecDepth 100000 in
theorem c_X12_text_2 (l : Launch) (D : va_G) (cy : Nat → ClassId) (sz : Nat) (md : Nat) (m0 : Nat) (m1 : Nat) (m3 : Nat) (m4 : Nat) (m5 : Nat) (m6 : Nat) (m7 : Nat) (m8 : Nat) (m9 : Nat) (m10 : Nat) (m11 : Nat) (m12 : Nat) (m13 : Nat) (m14 : Nat) (m15 : Nat) (m16 : Nat) (m24 : Nat) (m26 : Nat) (m28 : Nat) (m30 : Nat) (m31 : Nat) (m35 : Nat) (m36 : Nat) (m38 : Nat) (m41 : Nat) (m42 : Nat) (m43 : Nat) (m44 : Nat) (m45 : Nat) (m46 : Nat) (m47 : Nat) (m48 : Nat)  : Met l yX12_text (tl_w yX12_text cX12_text 3 (some .int)) ({ frames := 6, cells := 0, slots := 0, locals := 260 }) (va_Pc [.ref md, .int 2] (tl_P D cy [(md, .inr (12, [.ref m0, .ref m1, .int 0, .ref m3, .ref m4, .ref m5, .ref m6, .ref m7, .ref m8, .ref m9, .ref m10, .ref m11, .ref m12, .ref m13, .ref m14, .ref m15, .ref m16, .int 0, .int 0, .int 0, .int 0, .int 0, .int 0, .int 0, .ref m24, .int 0, .ref m26, .int 0, .ref m28, .long 0, .ref m30, .ref m31, .int 0, .int 0, .int 0, .ref m35, .ref m36, .int 0, .ref m38, .int 0, .int 0, .ref m41, .ref m42, .ref m43, .ref m44, .ref m45, .ref m46, .ref m47, .ref m48])), (m3, .inl (cy 0, 3, .inl (fun _ => 0))), (m5, .inl (cy 0, 22, .inl (fun _ => 0))), (m7, .inl (cy 0, 22, .inl (fun _ => 0))), (m9, .inl (cy 0, 6, .inl (fun _ => 0))), (m10, .inl (cy 0, 22, .inl (fun _ => 0))), (m12, .inl (cy 0, 22, .inl (fun _ => 0))), (m13, .inl (cy 0, 22, .inl (fun _ => 0))), (m14, .inl (cy 0, 22, .inl (fun _ => 0))), (m16, .inl (cy 0, 22, .inl (fun _ => 0)))] sz)) (va_Qi (fun (r : Int32) (u : Unit) => tl_E r (0 ≤ (2 : Int32).toInt ∧ (2 : Int32).toInt ≤ 2) (-3) (-1)) (tl_B D (va_A [(md, .inr (12, [.ref m0, .ref m1, .int 0, .ref m3, .ref m4, .ref m5, .ref m6, .ref m7, .ref m8, .ref m9, .ref m10, .ref m11, .ref m12, .ref m13, .ref m14, .ref m15, .ref m16, .int 0, .int 0, .int 0, .int 0, .int 0, .int 0, .int 0, .ref m24, .int 0, .ref m26, .int 0, .ref m28, .long 0, .ref m30, .ref m31, .int 0, .int 0, .int 0, .ref m35, .ref m36, .int 0, .ref m38, .int 0, .int 0, .ref m41, .ref m42, .ref m43, .ref m44, .ref m45, .ref m46, .ref m47, .ref m48])), (m3, .inl (cy 0, 3, .inl (fun _ => 0))), (m5, .inl (cy 0, 22, .inl (fun _ => 0))), (m7, .inl (cy 0, 22, .inl (fun _ => 0))), (m9, .inl (cy 0, 6, .inl (fun _ => 0))), (m10, .inl (cy 0, 22, .inl (fun _ => 0))), (m12, .inl (cy 0, 22, .inl (fun _ => 0))), (m13, .inl (cy 0, 22, .inl (fun _ => 0))), (m14, .inl (cy 0, 22, .inl (fun _ => 0))), (m16, .inl (cy 0, 22, .inl (fun _ => 0)))] sz) (fun u : Unit => [])) (va_A [(md, .inr (12, [.ref m0, .ref m1, .int 0, .ref m3, .ref m4, .ref m5, .ref m6, .ref m7, .ref m8, .ref m9, .ref m10, .ref m11, .ref m12, .ref m13, .ref m14, .ref m15, .ref m16, .int 0, .int 0, .int 0, .int 0, .int 0, .int 0, .int 0, .ref m24, .int 0, .ref m26, .int 0, .ref m28, .long 0, .ref m30, .ref m31, .int 0, .int 0, .int 0, .ref m35, .ref m36, .int 0, .ref m38, .int 0, .int 0, .ref m41, .ref m42, .ref m43, .ref m44, .ref m45, .ref m46, .ref m47, .ref m48])), (m3, .inl (cy 0, 3, .inl (fun _ => 0))), (m5, .inl (cy 0, 22, .inl (fun _ => 0))), (m7, .inl (cy 0, 22, .inl (fun _ => 0))), (m9, .inl (cy 0, 6, .inl (fun _ => 0))), (m10, .inl (cy 0, 22, .inl (fun _ => 0))), (m12, .inl (cy 0, 22, .inl (fun _ => 0))), (m13, .inl (cy 0, 22, .inl (fun _ => 0))), (m14, .inl (cy 0, 22, .inl (fun _ => 0))), (m16, .inl (cy 0, 22, .inl (fun _ => 0)))] sz)) 0 0 (va_A [(md, .inr (12, [.ref m0, .ref m1, .int 0, .ref m3, .ref m4, .ref m5, .ref m6, .ref m7, .ref m8, .ref m9, .ref m10, .ref m11, .ref m12, .ref m13, .ref m14, .ref m15, .ref m16, .int 0, .int 0, .int 0, .int 0, .int 0, .int 0, .int 0, .ref m24, .int 0, .ref m26, .int 0, .ref m28, .long 0, .ref m30, .ref m31, .int 0, .int 0, .int 0, .ref m35, .ref m36, .int 0, .ref m38, .int 0, .int 0, .ref m41, .ref m42, .ref m43, .ref m44, .ref m45, .ref m46, .ref m47, .ref m48])), (m3, .inl (cy 0, 3, .inl (fun _ => 0))), (m5, .inl (cy 0, 22, .inl (fun _ => 0))), (m7, .inl (cy 0, 22, .inl (fun _ => 0))), (m9, .inl (cy 0, 6, .inl (fun _ => 0))), (m10, .inl (cy 0, 22, .inl (fun _ => 0))), (m12, .inl (cy 0, 22, .inl (fun _ => 0))), (m13, .inl (cy 0, 22, .inl (fun _ => 0))), (m14, .inl (cy 0, 22, .inl (fun _ => 0))), (m16, .inl (cy 0, 22, .inl (fun _ => 0)))] sz) := by
  refine Met.ofW (cc := cX12_text) (maxL := 3) (ret := (some .int)) (by decide) rfl ?_
  intro p e s m args below meth c s₁ B hml hv
  obtain ⟨rfl, hsz, hP, hK, hD0, hN⟩ := hv
  have hx := B.exec
  have hb := B.bytes
  have hr := B.returns
  have hta := tl_hta (atoms_spec (ws := tl_w yX12_text cX12_text 3 (some .int)) B.pre)
  have hown : s.vm.findClass RX12 = some m.cls := findClass_of_methodNamed B.named
  have hlocks := B.notSynchronized
  subst hsz
  have hD := hD0.self (sz := s.heap.size)
  generalize hAe : va_A [(md, .inr (12, [.ref m0, .ref m1, .int 0, .ref m3, .ref m4, .ref m5, .ref m6, .ref m7, .ref m8, .ref m9, .ref m10, .ref m11, .ref m12, .ref m13, .ref m14, .ref m15, .ref m16, .int 0, .int 0, .int 0, .int 0, .int 0, .int 0, .int 0, .ref m24, .int 0, .ref m26, .int 0, .ref m28, .long 0, .ref m30, .ref m31, .int 0, .int 0, .int 0, .ref m35, .ref m36, .int 0, .ref m38, .int 0, .int 0, .ref m41, .ref m42, .ref m43, .ref m44, .ref m45, .ref m46, .ref m47, .ref m48])), (m3, .inl (cy 0, 3, .inl (fun _ => 0))), (m5, .inl (cy 0, 22, .inl (fun _ => 0))), (m7, .inl (cy 0, 22, .inl (fun _ => 0))), (m9, .inl (cy 0, 6, .inl (fun _ => 0))), (m10, .inl (cy 0, 22, .inl (fun _ => 0))), (m12, .inl (cy 0, 22, .inl (fun _ => 0))), (m13, .inl (cy 0, 22, .inl (fun _ => 0))), (m14, .inl (cy 0, 22, .inl (fun _ => 0))), (m16, .inl (cy 0, 22, .inl (fun _ => 0)))] s.heap.size = A at hD ⊢
  have hA : ∀ q : Nat, s.heap.size ≤ q → A q := fun q h => by rw [← hAe]; exact Or.inr h
  have hS : va_S A s.heap s.heap [] := va_S.rf
  have hP : va_P D vwCl [(md, .inr (12, [.ref m0, .ref m1, .int 0, .ref m3, .ref m4, .ref m5, .ref m6, .ref m7, .ref m8, .ref m9, .ref m10, .ref m11, .ref m12, .ref m13, .ref m14, .ref m15, .ref m16, .int 0, .int 0, .int 0, .int 0, .int 0, .int 0, .int 0, .ref m24, .int 0, .ref m26, .int 0, .ref m28, .long 0, .ref m30, .ref m31, .int 0, .int 0, .int 0, .ref m35, .ref m36, .int 0, .ref m38, .int 0, .int 0, .ref m41, .ref m42, .ref m43, .ref m44, .ref m45, .ref m46, .ref m47, .ref m48])), (m3, .inl (cy 0, 3, .inl (fun _ => 0))), (m5, .inl (cy 0, 22, .inl (fun _ => 0))), (m7, .inl (cy 0, 22, .inl (fun _ => 0))), (m9, .inl (cy 0, 6, .inl (fun _ => 0))), (m10, .inl (cy 0, 22, .inl (fun _ => 0))), (m12, .inl (cy 0, 22, .inl (fun _ => 0))), (m13, .inl (cy 0, 22, .inl (fun _ => 0))), (m14, .inl (cy 0, 22, .inl (fun _ => 0))), (m16, .inl (cy 0, 22, .inl (fun _ => 0)))] s.heap := hP
  have hl := lv_entry ([.ref md, .int 2]) (n := 3) (Nat.le_of_ble_eq_true rfl)
  rw [lg_entry_eq]
  generalize (lg_sl ([.ref md, .int 2]) ++ List.replicate (3 - (lg_sl ([.ref md, .int 2])).length) Slot.unset).toArray = ls at hl ⊢
  have hl : lv_has ls 3 [(0, .ref md), (1, .int 2)] := hl
  refine lv_iload_n hx hb dX12_text_0 rfl (lv_at hl 1 rfl) ?_
  refine lv_i2l (v := 2) hx hb dX12_text_1 (by first | rfl | decide) ?_
  refine lv_lconst (v := 0) hx hb dX12_text_2 (by decide) ?_
  refine lv_ldc2 (v := 2) hx hb hown (hta _ wk_536) dX12_text_3 ?_
  have hPc := hP.sub (ws' := []) [] rfl
  have hDc := hD.sub (ws' := []) [] (by decide) rfl
  refine tl_si (tl_rS (As := [.long 2, .long 0, .long 2]) (rest := []) ⟨hx, hb, hml, hown, hta⟩ hK hN hPc hDc lk_X12_112 (c_X12_in l D cy s.heap.size 2 0 2 ) rfl rfl ⟨Nat.le_of_ble_eq_true rfl, Nat.le_of_ble_eq_true rfl⟩ rfl hl.1 rfl (Nat.le_of_ble_eq_true rfl) dX12_text_6 ⟨Nat.le_of_ble_eq_true rfl, Nat.le_of_ble_eq_true rfl⟩) (fun r_2 hw_1 => ?_)
  have hw_1 : tl_E r_2 ((0 : Int) ≤ (2 : Int) ∧ (2 : Int) ≤ (2 : Int)) 1 0 := hw_1
  refine lv_if_eq (tgt := 25) hx hb dX12_text_9 (by decide) (fun c_3 => ?_) (fun c_3 => ?_)
  · have c_3 := hw_1.f c_3
    exfalso; omega
  · have c_3 := hw_1.t c_3
    refine lv_aload_n hx hb dX12_text_12 rfl (lv_at hl 0 rfl) ?_
    refine va_get (D := D) (ci := 12) (v := .ref m3) (C := RX12) (T := TX12) (N := 49) hx hb hta inlX12 hown hK hP 0 rfl rfl 3 (by decide) (hta _ wk_152) (fun _ h9 => h9) rfl dX12_text_13 ?_
    refine lv_iload_n hx hb dX12_text_16 rfl (lv_at hl 1 rfl) ?_
    refine va_iald (D := D) hx hb hK hP 1 0 rfl rfl (tl_in (by decide) (by decide)) dX12_text_17 ?_
    refine W.eq (g2 := F0 m 18 ls ([.int 0])) rfl ?_
    refine lv_iload_n hx hb dX12_text_18 rfl (lv_at hl 1 rfl) ?_
    have hPc := hP.sub (ws' := []) [] rfl
    have hDc := hD.sub (ws' := []) [] (by decide) rfl
    refine tl_si (tl_rS (As := [.int 2]) (rest := [.int 0]) ⟨hx, hb, hml, hown, hta⟩ hK hN hPc hDc lk_X12_324 (c_X12_mostOf_2 l D cy s.heap.size  ) rfl rfl ⟨Nat.le_of_ble_eq_true rfl, Nat.le_of_ble_eq_true rfl⟩ rfl hl.1 rfl (Nat.le_of_ble_eq_true rfl) dX12_text_19 ⟨Nat.le_of_ble_eq_true rfl, Nat.le_of_ble_eq_true rfl⟩) (fun r_5 hw_4 => ?_)
    subst hw_4
    refine lv_icmp_ne (tgt := 27) hx hb dX12_text_22 (by decide) (fun _ => ?_) (fun c => absurd c (by decide))
    refine lv_aload_n hx hb dX12_text_27 rfl (lv_at hl 0 rfl) ?_
    refine lv_iload_n hx hb dX12_text_28 rfl (lv_at hl 1 rfl) ?_
    have hPc := hP.sub (ws' := []) [] rfl
    have hDc := hD.sub (ws' := []) [] (by decide) rfl
    refine tl_si (tl_rS (As := [.int 2]) (rest := [.ref md]) ⟨hx, hb, hml, hown, hta⟩ hK hN hPc hDc lk_X12_327 (c_X12_firstOf_2 l D cy s.heap.size  ) rfl rfl ⟨Nat.le_of_ble_eq_true rfl, Nat.le_of_ble_eq_true rfl⟩ rfl hl.1 rfl (Nat.le_of_ble_eq_true rfl) dX12_text_29 ⟨Nat.le_of_ble_eq_true rfl, Nat.le_of_ble_eq_true rfl⟩) (fun r_7 hw_6 => ?_)
    subst hw_6
    refine lv_aload_n hx hb dX12_text_32 rfl (lv_at hl 0 rfl) ?_
    refine va_get (D := D) (ci := 12) (v := .ref m3) (C := RX12) (T := TX12) (N := 49) hx hb hta inlX12 hown hK hP 0 rfl rfl 3 (by decide) (hta _ wk_152) (fun _ h9 => h9) rfl dX12_text_33 ?_
    refine lv_iload_n hx hb dX12_text_36 rfl (lv_at hl 1 rfl) ?_
    refine va_iald (D := D) hx hb hK hP 1 0 rfl rfl (tl_in (by decide) (by decide)) dX12_text_37 ?_
    refine W.eq (g2 := F0 m 38 ls ([.int 0, .int 14, .ref md])) rfl ?_
    refine lv_iadd hx hb dX12_text_38 ?_
    refine lv_topi (fun z_8 ez_8 => ?_)
    obtain rfl : z_8 = (14 : Int32) := ez_8.trans (by decide)
    refine va_put (D := D) (ci := 12) (v := .int 14) (ty := tyX12 20) (C := RX12) (T := TX12) (N := 49) hx hb hta inlX12 tyX12 tyX12_ok nmX12 hown hK hP hD hS 0 rfl rfl 20 (by decide) (hta _ wk_537) (fun _ h9 => h9) rfl (tyX12_ok 20 (by decide)) rfl rfl (Nat.le_of_ble_eq_true rfl) dX12_text_39 (fun H locs hP hD hS => ?_)
    have hP : va_P D vwCl [(md, .inr (12, [.ref m0, .ref m1, .int 0, .ref m3, .ref m4, .ref m5, .ref m6, .ref m7, .ref m8, .ref m9, .ref m10, .ref m11, .ref m12, .ref m13, .ref m14, .ref m15, .ref m16, .int 0, .int 0, .int 0, .int 14, .int 0, .int 0, .int 0, .ref m24, .int 0, .ref m26, .int 0, .ref m28, .long 0, .ref m30, .ref m31, .int 0, .int 0, .int 0, .ref m35, .ref m36, .int 0, .ref m38, .int 0, .int 0, .ref m41, .ref m42, .ref m43, .ref m44, .ref m45, .ref m46, .ref m47, .ref m48])), (m3, .inl (cy 0, 3, .inl (fun _ => 0))), (m5, .inl (cy 0, 22, .inl (fun _ => 0))), (m7, .inl (cy 0, 22, .inl (fun _ => 0))), (m9, .inl (cy 0, 6, .inl (fun _ => 0))), (m10, .inl (cy 0, 22, .inl (fun _ => 0))), (m12, .inl (cy 0, 22, .inl (fun _ => 0))), (m13, .inl (cy 0, 22, .inl (fun _ => 0))), (m14, .inl (cy 0, 22, .inl (fun _ => 0))), (m16, .inl (cy 0, 22, .inl (fun _ => 0)))] H := hP
    have hD : va_D A [(md, .inr (12, [.ref m0, .ref m1, .int 0, .ref m3, .ref m4, .ref m5, .ref m6, .ref m7, .ref m8, .ref m9, .ref m10, .ref m11, .ref m12, .ref m13, .ref m14, .ref m15, .ref m16, .int 0, .int 0, .int 0, .int 14, .int 0, .int 0, .int 0, .ref m24, .int 0, .ref m26, .int 0, .ref m28, .long 0, .ref m30, .ref m31, .int 0, .int 0, .int 0, .ref m35, .ref m36, .int 0, .ref m38, .int 0, .int 0, .ref m41, .ref m42, .ref m43, .ref m44, .ref m45, .ref m46, .ref m47, .ref m48])), (m3, .inl (cy 0, 3, .inl (fun _ => 0))), (m5, .inl (cy 0, 22, .inl (fun _ => 0))), (m7, .inl (cy 0, 22, .inl (fun _ => 0))), (m9, .inl (cy 0, 6, .inl (fun _ => 0))), (m10, .inl (cy 0, 22, .inl (fun _ => 0))), (m12, .inl (cy 0, 22, .inl (fun _ => 0))), (m13, .inl (cy 0, 22, .inl (fun _ => 0))), (m14, .inl (cy 0, 22, .inl (fun _ => 0))), (m16, .inl (cy 0, 22, .inl (fun _ => 0)))] := hD
    refine lv_aload_n hx hb dX12_text_42 rfl (lv_at hl 0 rfl) ?_
    refine va_get (D := D) (ci := 12) (v := .ref m5) (C := RX12) (T := TX12) (N := 49) hx hb hta inlX12 hown hK hP 0 rfl rfl 5 (by decide) (hta _ wk_154) (fun _ h9 => h9) rfl dX12_text_43 ?_
    refine lv_aload_n hx hb dX12_text_46 rfl (lv_at hl 0 rfl) ?_
    refine va_get (D := D) (ci := 12) (v := .int 14) (C := RX12) (T := TX12) (N := 49) hx hb hta inlX12 hown hK hP 0 rfl rfl 20 (by decide) (hta _ wk_537) (fun _ h9 => h9) rfl dX12_text_47 ?_
    refine lv_iconst (v := 0) hx hb dX12_text_50 (by decide) ?_
    refine va_iast (D := D) hx hb hK hP hD hS 2 0 rfl rfl (tl_in (by decide) (by decide)) dX12_text_51 (fun H locs hP hD hS => ?_)
    have hP : va_P D vwCl [(md, .inr (12, [.ref m0, .ref m1, .int 0, .ref m3, .ref m4, .ref m5, .ref m6, .ref m7, .ref m8, .ref m9, .ref m10, .ref m11, .ref m12, .ref m13, .ref m14, .ref m15, .ref m16, .int 0, .int 0, .int 0, .int 14, .int 0, .int 0, .int 0, .ref m24, .int 0, .ref m26, .int 0, .ref m28, .long 0, .ref m30, .ref m31, .int 0, .int 0, .int 0, .ref m35, .ref m36, .int 0, .ref m38, .int 0, .int 0, .ref m41, .ref m42, .ref m43, .ref m44, .ref m45, .ref m46, .ref m47, .ref m48])), (m3, .inl (cy 0, 3, .inl (fun _ => 0))), (m5, .inl (cy 0, 22, .inl (upd (fun _ => 0) (14 : Int32).toNatClampNeg 0))), (m7, .inl (cy 0, 22, .inl (fun _ => 0))), (m9, .inl (cy 0, 6, .inl (fun _ => 0))), (m10, .inl (cy 0, 22, .inl (fun _ => 0))), (m12, .inl (cy 0, 22, .inl (fun _ => 0))), (m13, .inl (cy 0, 22, .inl (fun _ => 0))), (m14, .inl (cy 0, 22, .inl (fun _ => 0))), (m16, .inl (cy 0, 22, .inl (fun _ => 0)))] H := hP
    have hD : va_D A [(md, .inr (12, [.ref m0, .ref m1, .int 0, .ref m3, .ref m4, .ref m5, .ref m6, .ref m7, .ref m8, .ref m9, .ref m10, .ref m11, .ref m12, .ref m13, .ref m14, .ref m15, .ref m16, .int 0, .int 0, .int 0, .int 14, .int 0, .int 0, .int 0, .ref m24, .int 0, .ref m26, .int 0, .ref m28, .long 0, .ref m30, .ref m31, .int 0, .int 0, .int 0, .ref m35, .ref m36, .int 0, .ref m38, .int 0, .int 0, .ref m41, .ref m42, .ref m43, .ref m44, .ref m45, .ref m46, .ref m47, .ref m48])), (m3, .inl (cy 0, 3, .inl (fun _ => 0))), (m5, .inl (cy 0, 22, .inl (upd (fun _ => 0) (14 : Int32).toNatClampNeg 0))), (m7, .inl (cy 0, 22, .inl (fun _ => 0))), (m9, .inl (cy 0, 6, .inl (fun _ => 0))), (m10, .inl (cy 0, 22, .inl (fun _ => 0))), (m12, .inl (cy 0, 22, .inl (fun _ => 0))), (m13, .inl (cy 0, 22, .inl (fun _ => 0))), (m14, .inl (cy 0, 22, .inl (fun _ => 0))), (m16, .inl (cy 0, 22, .inl (fun _ => 0)))] := hD
    generalize (upd (fun _ => 0) (14 : Int32).toNatClampNeg 0) = f_9 at hP hD
    refine lv_aload_n hx hb dX12_text_52 rfl (lv_at hl 0 rfl) ?_
    refine va_get (D := D) (ci := 12) (v := .ref m7) (C := RX12) (T := TX12) (N := 49) hx hb hta inlX12 hown hK hP 0 rfl rfl 7 (by decide) (hta _ wk_156) (fun _ h9 => h9) rfl dX12_text_53 ?_
    refine lv_aload_n hx hb dX12_text_56 rfl (lv_at hl 0 rfl) ?_
    refine va_get (D := D) (ci := 12) (v := .int 14) (C := RX12) (T := TX12) (N := 49) hx hb hta inlX12 hown hK hP 0 rfl rfl 20 (by decide) (hta _ wk_537) (fun _ h9 => h9) rfl dX12_text_57 ?_
    refine lv_iconst (v := 0) hx hb dX12_text_60 (by decide) ?_
    refine va_iast (D := D) hx hb hK hP hD hS 3 0 rfl rfl (tl_in (by decide) (by decide)) dX12_text_61 (fun H locs hP hD hS => ?_)
    have hP : va_P D vwCl [(md, .inr (12, [.ref m0, .ref m1, .int 0, .ref m3, .ref m4, .ref m5, .ref m6, .ref m7, .ref m8, .ref m9, .ref m10, .ref m11, .ref m12, .ref m13, .ref m14, .ref m15, .ref m16, .int 0, .int 0, .int 0, .int 14, .int 0, .int 0, .int 0, .ref m24, .int 0, .ref m26, .int 0, .ref m28, .long 0, .ref m30, .ref m31, .int 0, .int 0, .int 0, .ref m35, .ref m36, .int 0, .ref m38, .int 0, .int 0, .ref m41, .ref m42, .ref m43, .ref m44, .ref m45, .ref m46, .ref m47, .ref m48])), (m3, .inl (cy 0, 3, .inl (fun _ => 0))), (m5, .inl (cy 0, 22, .inl f_9)), (m7, .inl (cy 0, 22, .inl (upd (fun _ => 0) (14 : Int32).toNatClampNeg 0))), (m9, .inl (cy 0, 6, .inl (fun _ => 0))), (m10, .inl (cy 0, 22, .inl (fun _ => 0))), (m12, .inl (cy 0, 22, .inl (fun _ => 0))), (m13, .inl (cy 0, 22, .inl (fun _ => 0))), (m14, .inl (cy 0, 22, .inl (fun _ => 0))), (m16, .inl (cy 0, 22, .inl (fun _ => 0)))] H := hP
    have hD : va_D A [(md, .inr (12, [.ref m0, .ref m1, .int 0, .ref m3, .ref m4, .ref m5, .ref m6, .ref m7, .ref m8, .ref m9, .ref m10, .ref m11, .ref m12, .ref m13, .ref m14, .ref m15, .ref m16, .int 0, .int 0, .int 0, .int 14, .int 0, .int 0, .int 0, .ref m24, .int 0, .ref m26, .int 0, .ref m28, .long 0, .ref m30, .ref m31, .int 0, .int 0, .int 0, .ref m35, .ref m36, .int 0, .ref m38, .int 0, .int 0, .ref m41, .ref m42, .ref m43, .ref m44, .ref m45, .ref m46, .ref m47, .ref m48])), (m3, .inl (cy 0, 3, .inl (fun _ => 0))), (m5, .inl (cy 0, 22, .inl f_9)), (m7, .inl (cy 0, 22, .inl (upd (fun _ => 0) (14 : Int32).toNatClampNeg 0))), (m9, .inl (cy 0, 6, .inl (fun _ => 0))), (m10, .inl (cy 0, 22, .inl (fun _ => 0))), (m12, .inl (cy 0, 22, .inl (fun _ => 0))), (m13, .inl (cy 0, 22, .inl (fun _ => 0))), (m14, .inl (cy 0, 22, .inl (fun _ => 0))), (m16, .inl (cy 0, 22, .inl (fun _ => 0)))] := hD
    generalize (upd (fun _ => 0) (14 : Int32).toNatClampNeg 0) = f_10 at hP hD
    refine lv_iload_n hx hb dX12_text_62 rfl (lv_at hl 1 rfl) ?_
    refine lv_if_ne (tgt := 76) hx hb dX12_text_63 (by decide) (fun _ => ?_) (fun c => absurd c (by decide))
    refine lv_aload_n hx hb dX12_text_76 rfl (lv_at hl 0 rfl) ?_
    refine va_get (D := D) (ci := 12) (v := .ref m10) (C := RX12) (T := TX12) (N := 49) hx hb hta inlX12 hown hK hP 0 rfl rfl 10 (by decide) (hta _ wk_159) (fun _ h9 => h9) rfl dX12_text_77 ?_
    refine lv_aload_n hx hb dX12_text_80 rfl (lv_at hl 0 rfl) ?_
    refine va_get (D := D) (ci := 12) (v := .int 14) (C := RX12) (T := TX12) (N := 49) hx hb hta inlX12 hown hK hP 0 rfl rfl 20 (by decide) (hta _ wk_537) (fun _ h9 => h9) rfl dX12_text_81 ?_
    refine lv_iconst (v := (-1)) hx hb dX12_text_84 (by decide) ?_
    refine va_iast (D := D) hx hb hK hP hD hS 5 0 rfl rfl (tl_in (by decide) (by decide)) dX12_text_85 (fun H locs hP hD hS => ?_)
    have hP : va_P D vwCl [(md, .inr (12, [.ref m0, .ref m1, .int 0, .ref m3, .ref m4, .ref m5, .ref m6, .ref m7, .ref m8, .ref m9, .ref m10, .ref m11, .ref m12, .ref m13, .ref m14, .ref m15, .ref m16, .int 0, .int 0, .int 0, .int 14, .int 0, .int 0, .int 0, .ref m24, .int 0, .ref m26, .int 0, .ref m28, .long 0, .ref m30, .ref m31, .int 0, .int 0, .int 0, .ref m35, .ref m36, .int 0, .ref m38, .int 0, .int 0, .ref m41, .ref m42, .ref m43, .ref m44, .ref m45, .ref m46, .ref m47, .ref m48])), (m3, .inl (cy 0, 3, .inl (fun _ => 0))), (m5, .inl (cy 0, 22, .inl f_9)), (m7, .inl (cy 0, 22, .inl f_10)), (m9, .inl (cy 0, 6, .inl (fun _ => 0))), (m10, .inl (cy 0, 22, .inl (upd (fun _ => 0) (14 : Int32).toNatClampNeg (-1)))), (m12, .inl (cy 0, 22, .inl (fun _ => 0))), (m13, .inl (cy 0, 22, .inl (fun _ => 0))), (m14, .inl (cy 0, 22, .inl (fun _ => 0))), (m16, .inl (cy 0, 22, .inl (fun _ => 0)))] H := hP
    have hD : va_D A [(md, .inr (12, [.ref m0, .ref m1, .int 0, .ref m3, .ref m4, .ref m5, .ref m6, .ref m7, .ref m8, .ref m9, .ref m10, .ref m11, .ref m12, .ref m13, .ref m14, .ref m15, .ref m16, .int 0, .int 0, .int 0, .int 14, .int 0, .int 0, .int 0, .ref m24, .int 0, .ref m26, .int 0, .ref m28, .long 0, .ref m30, .ref m31, .int 0, .int 0, .int 0, .ref m35, .ref m36, .int 0, .ref m38, .int 0, .int 0, .ref m41, .ref m42, .ref m43, .ref m44, .ref m45, .ref m46, .ref m47, .ref m48])), (m3, .inl (cy 0, 3, .inl (fun _ => 0))), (m5, .inl (cy 0, 22, .inl f_9)), (m7, .inl (cy 0, 22, .inl f_10)), (m9, .inl (cy 0, 6, .inl (fun _ => 0))), (m10, .inl (cy 0, 22, .inl (upd (fun _ => 0) (14 : Int32).toNatClampNeg (-1)))), (m12, .inl (cy 0, 22, .inl (fun _ => 0))), (m13, .inl (cy 0, 22, .inl (fun _ => 0))), (m14, .inl (cy 0, 22, .inl (fun _ => 0))), (m16, .inl (cy 0, 22, .inl (fun _ => 0)))] := hD
    generalize (upd (fun _ => 0) (14 : Int32).toNatClampNeg (-1)) = f_11 at hP hD
    refine lv_aload_n hx hb dX12_text_86 rfl (lv_at hl 0 rfl) ?_
    refine va_get (D := D) (ci := 12) (v := .ref m12) (C := RX12) (T := TX12) (N := 49) hx hb hta inlX12 hown hK hP 0 rfl rfl 12 (by decide) (hta _ wk_161) (fun _ h9 => h9) rfl dX12_text_87 ?_
    refine lv_aload_n hx hb dX12_text_90 rfl (lv_at hl 0 rfl) ?_
    refine va_get (D := D) (ci := 12) (v := .int 14) (C := RX12) (T := TX12) (N := 49) hx hb hta inlX12 hown hK hP 0 rfl rfl 20 (by decide) (hta _ wk_537) (fun _ h9 => h9) rfl dX12_text_91 ?_
    refine lv_iconst (v := (-1)) hx hb dX12_text_94 (by decide) ?_
    refine va_iast (D := D) hx hb hK hP hD hS 6 0 rfl rfl (tl_in (by decide) (by decide)) dX12_text_95 (fun H locs hP hD hS => ?_)
    have hP : va_P D vwCl [(md, .inr (12, [.ref m0, .ref m1, .int 0, .ref m3, .ref m4, .ref m5, .ref m6, .ref m7, .ref m8, .ref m9, .ref m10, .ref m11, .ref m12, .ref m13, .ref m14, .ref m15, .ref m16, .int 0, .int 0, .int 0, .int 14, .int 0, .int 0, .int 0, .ref m24, .int 0, .ref m26, .int 0, .ref m28, .long 0, .ref m30, .ref m31, .int 0, .int 0, .int 0, .ref m35, .ref m36, .int 0, .ref m38, .int 0, .int 0, .ref m41, .ref m42, .ref m43, .ref m44, .ref m45, .ref m46, .ref m47, .ref m48])), (m3, .inl (cy 0, 3, .inl (fun _ => 0))), (m5, .inl (cy 0, 22, .inl f_9)), (m7, .inl (cy 0, 22, .inl f_10)), (m9, .inl (cy 0, 6, .inl (fun _ => 0))), (m10, .inl (cy 0, 22, .inl f_11)), (m12, .inl (cy 0, 22, .inl (upd (fun _ => 0) (14 : Int32).toNatClampNeg (-1)))), (m13, .inl (cy 0, 22, .inl (fun _ => 0))), (m14, .inl (cy 0, 22, .inl (fun _ => 0))), (m16, .inl (cy 0, 22, .inl (fun _ => 0)))] H := hP
    have hD : va_D A [(md, .inr (12, [.ref m0, .ref m1, .int 0, .ref m3, .ref m4, .ref m5, .ref m6, .ref m7, .ref m8, .ref m9, .ref m10, .ref m11, .ref m12, .ref m13, .ref m14, .ref m15, .ref m16, .int 0, .int 0, .int 0, .int 14, .int 0, .int 0, .int 0, .ref m24, .int 0, .ref m26, .int 0, .ref m28, .long 0, .ref m30, .ref m31, .int 0, .int 0, .int 0, .ref m35, .ref m36, .int 0, .ref m38, .int 0, .int 0, .ref m41, .ref m42, .ref m43, .ref m44, .ref m45, .ref m46, .ref m47, .ref m48])), (m3, .inl (cy 0, 3, .inl (fun _ => 0))), (m5, .inl (cy 0, 22, .inl f_9)), (m7, .inl (cy 0, 22, .inl f_10)), (m9, .inl (cy 0, 6, .inl (fun _ => 0))), (m10, .inl (cy 0, 22, .inl f_11)), (m12, .inl (cy 0, 22, .inl (upd (fun _ => 0) (14 : Int32).toNatClampNeg (-1)))), (m13, .inl (cy 0, 22, .inl (fun _ => 0))), (m14, .inl (cy 0, 22, .inl (fun _ => 0))), (m16, .inl (cy 0, 22, .inl (fun _ => 0)))] := hD
    generalize (upd (fun _ => 0) (14 : Int32).toNatClampNeg (-1)) = f_12 at hP hD
    refine lv_aload_n hx hb dX12_text_96 rfl (lv_at hl 0 rfl) ?_
    refine va_get (D := D) (ci := 12) (v := .ref m13) (C := RX12) (T := TX12) (N := 49) hx hb hta inlX12 hown hK hP 0 rfl rfl 13 (by decide) (hta _ wk_162) (fun _ h9 => h9) rfl dX12_text_97 ?_
    refine lv_aload_n hx hb dX12_text_100 rfl (lv_at hl 0 rfl) ?_
    refine va_get (D := D) (ci := 12) (v := .int 14) (C := RX12) (T := TX12) (N := 49) hx hb hta inlX12 hown hK hP 0 rfl rfl 20 (by decide) (hta _ wk_537) (fun _ h9 => h9) rfl dX12_text_101 ?_
    refine lv_iconst (v := (-1)) hx hb dX12_text_104 (by decide) ?_
    refine va_iast (D := D) hx hb hK hP hD hS 7 0 rfl rfl (tl_in (by decide) (by decide)) dX12_text_105 (fun H locs hP hD hS => ?_)
    have hP : va_P D vwCl [(md, .inr (12, [.ref m0, .ref m1, .int 0, .ref m3, .ref m4, .ref m5, .ref m6, .ref m7, .ref m8, .ref m9, .ref m10, .ref m11, .ref m12, .ref m13, .ref m14, .ref m15, .ref m16, .int 0, .int 0, .int 0, .int 14, .int 0, .int 0, .int 0, .ref m24, .int 0, .ref m26, .int 0, .ref m28, .long 0, .ref m30, .ref m31, .int 0, .int 0, .int 0, .ref m35, .ref m36, .int 0, .ref m38, .int 0, .int 0, .ref m41, .ref m42, .ref m43, .ref m44, .ref m45, .ref m46, .ref m47, .ref m48])), (m3, .inl (cy 0, 3, .inl (fun _ => 0))), (m5, .inl (cy 0, 22, .inl f_9)), (m7, .inl (cy 0, 22, .inl f_10)), (m9, .inl (cy 0, 6, .inl (fun _ => 0))), (m10, .inl (cy 0, 22, .inl f_11)), (m12, .inl (cy 0, 22, .inl f_12)), (m13, .inl (cy 0, 22, .inl (upd (fun _ => 0) (14 : Int32).toNatClampNeg (-1)))), (m14, .inl (cy 0, 22, .inl (fun _ => 0))), (m16, .inl (cy 0, 22, .inl (fun _ => 0)))] H := hP
    have hD : va_D A [(md, .inr (12, [.ref m0, .ref m1, .int 0, .ref m3, .ref m4, .ref m5, .ref m6, .ref m7, .ref m8, .ref m9, .ref m10, .ref m11, .ref m12, .ref m13, .ref m14, .ref m15, .ref m16, .int 0, .int 0, .int 0, .int 14, .int 0, .int 0, .int 0, .ref m24, .int 0, .ref m26, .int 0, .ref m28, .long 0, .ref m30, .ref m31, .int 0, .int 0, .int 0, .ref m35, .ref m36, .int 0, .ref m38, .int 0, .int 0, .ref m41, .ref m42, .ref m43, .ref m44, .ref m45, .ref m46, .ref m47, .ref m48])), (m3, .inl (cy 0, 3, .inl (fun _ => 0))), (m5, .inl (cy 0, 22, .inl f_9)), (m7, .inl (cy 0, 22, .inl f_10)), (m9, .inl (cy 0, 6, .inl (fun _ => 0))), (m10, .inl (cy 0, 22, .inl f_11)), (m12, .inl (cy 0, 22, .inl f_12)), (m13, .inl (cy 0, 22, .inl (upd (fun _ => 0) (14 : Int32).toNatClampNeg (-1)))), (m14, .inl (cy 0, 22, .inl (fun _ => 0))), (m16, .inl (cy 0, 22, .inl (fun _ => 0)))] := hD
    generalize (upd (fun _ => 0) (14 : Int32).toNatClampNeg (-1)) = f_13 at hP hD
    refine lv_aload_n hx hb dX12_text_106 rfl (lv_at hl 0 rfl) ?_
    refine va_get (D := D) (ci := 12) (v := .ref m14) (C := RX12) (T := TX12) (N := 49) hx hb hta inlX12 hown hK hP 0 rfl rfl 14 (by decide) (hta _ wk_163) (fun _ h9 => h9) rfl dX12_text_107 ?_
    refine lv_aload_n hx hb dX12_text_110 rfl (lv_at hl 0 rfl) ?_
    refine va_get (D := D) (ci := 12) (v := .int 14) (C := RX12) (T := TX12) (N := 49) hx hb hta inlX12 hown hK hP 0 rfl rfl 20 (by decide) (hta _ wk_537) (fun _ h9 => h9) rfl dX12_text_111 ?_
    refine lv_iconst (v := (-1)) hx hb dX12_text_114 (by decide) ?_
    refine va_iast (D := D) hx hb hK hP hD hS 8 0 rfl rfl (tl_in (by decide) (by decide)) dX12_text_115 (fun H locs hP hD hS => ?_)
    have hP : va_P D vwCl [(md, .inr (12, [.ref m0, .ref m1, .int 0, .ref m3, .ref m4, .ref m5, .ref m6, .ref m7, .ref m8, .ref m9, .ref m10, .ref m11, .ref m12, .ref m13, .ref m14, .ref m15, .ref m16, .int 0, .int 0, .int 0, .int 14, .int 0, .int 0, .int 0, .ref m24, .int 0, .ref m26, .int 0, .ref m28, .long 0, .ref m30, .ref m31, .int 0, .int 0, .int 0, .ref m35, .ref m36, .int 0, .ref m38, .int 0, .int 0, .ref m41, .ref m42, .ref m43, .ref m44, .ref m45, .ref m46, .ref m47, .ref m48])), (m3, .inl (cy 0, 3, .inl (fun _ => 0))), (m5, .inl (cy 0, 22, .inl f_9)), (m7, .inl (cy 0, 22, .inl f_10)), (m9, .inl (cy 0, 6, .inl (fun _ => 0))), (m10, .inl (cy 0, 22, .inl f_11)), (m12, .inl (cy 0, 22, .inl f_12)), (m13, .inl (cy 0, 22, .inl f_13)), (m14, .inl (cy 0, 22, .inl (upd (fun _ => 0) (14 : Int32).toNatClampNeg (-1)))), (m16, .inl (cy 0, 22, .inl (fun _ => 0)))] H := hP
    have hD : va_D A [(md, .inr (12, [.ref m0, .ref m1, .int 0, .ref m3, .ref m4, .ref m5, .ref m6, .ref m7, .ref m8, .ref m9, .ref m10, .ref m11, .ref m12, .ref m13, .ref m14, .ref m15, .ref m16, .int 0, .int 0, .int 0, .int 14, .int 0, .int 0, .int 0, .ref m24, .int 0, .ref m26, .int 0, .ref m28, .long 0, .ref m30, .ref m31, .int 0, .int 0, .int 0, .ref m35, .ref m36, .int 0, .ref m38, .int 0, .int 0, .ref m41, .ref m42, .ref m43, .ref m44, .ref m45, .ref m46, .ref m47, .ref m48])), (m3, .inl (cy 0, 3, .inl (fun _ => 0))), (m5, .inl (cy 0, 22, .inl f_9)), (m7, .inl (cy 0, 22, .inl f_10)), (m9, .inl (cy 0, 6, .inl (fun _ => 0))), (m10, .inl (cy 0, 22, .inl f_11)), (m12, .inl (cy 0, 22, .inl f_12)), (m13, .inl (cy 0, 22, .inl f_13)), (m14, .inl (cy 0, 22, .inl (upd (fun _ => 0) (14 : Int32).toNatClampNeg (-1)))), (m16, .inl (cy 0, 22, .inl (fun _ => 0)))] := hD
    generalize (upd (fun _ => 0) (14 : Int32).toNatClampNeg (-1)) = f_14 at hP hD
    refine lv_aload_n hx hb dX12_text_116 rfl (lv_at hl 0 rfl) ?_
    refine va_get (D := D) (ci := 12) (v := .ref m16) (C := RX12) (T := TX12) (N := 49) hx hb hta inlX12 hown hK hP 0 rfl rfl 16 (by decide) (hta _ wk_165) (fun _ h9 => h9) rfl dX12_text_117 ?_
    refine lv_aload_n hx hb dX12_text_120 rfl (lv_at hl 0 rfl) ?_
    refine va_get (D := D) (ci := 12) (v := .int 14) (C := RX12) (T := TX12) (N := 49) hx hb hta inlX12 hown hK hP 0 rfl rfl 20 (by decide) (hta _ wk_537) (fun _ h9 => h9) rfl dX12_text_121 ?_
    refine lv_iconst (v := (-1)) hx hb dX12_text_124 (by decide) ?_
    refine va_iast (D := D) hx hb hK hP hD hS 9 0 rfl rfl (tl_in (by decide) (by decide)) dX12_text_125 (fun H locs hP hD hS => ?_)
    have hP : va_P D vwCl [(md, .inr (12, [.ref m0, .ref m1, .int 0, .ref m3, .ref m4, .ref m5, .ref m6, .ref m7, .ref m8, .ref m9, .ref m10, .ref m11, .ref m12, .ref m13, .ref m14, .ref m15, .ref m16, .int 0, .int 0, .int 0, .int 14, .int 0, .int 0, .int 0, .ref m24, .int 0, .ref m26, .int 0, .ref m28, .long 0, .ref m30, .ref m31, .int 0, .int 0, .int 0, .ref m35, .ref m36, .int 0, .ref m38, .int 0, .int 0, .ref m41, .ref m42, .ref m43, .ref m44, .ref m45, .ref m46, .ref m47, .ref m48])), (m3, .inl (cy 0, 3, .inl (fun _ => 0))), (m5, .inl (cy 0, 22, .inl f_9)), (m7, .inl (cy 0, 22, .inl f_10)), (m9, .inl (cy 0, 6, .inl (fun _ => 0))), (m10, .inl (cy 0, 22, .inl f_11)), (m12, .inl (cy 0, 22, .inl f_12)), (m13, .inl (cy 0, 22, .inl f_13)), (m14, .inl (cy 0, 22, .inl f_14)), (m16, .inl (cy 0, 22, .inl (upd (fun _ => 0) (14 : Int32).toNatClampNeg (-1))))] H := hP
    have hD : va_D A [(md, .inr (12, [.ref m0, .ref m1, .int 0, .ref m3, .ref m4, .ref m5, .ref m6, .ref m7, .ref m8, .ref m9, .ref m10, .ref m11, .ref m12, .ref m13, .ref m14, .ref m15, .ref m16, .int 0, .int 0, .int 0, .int 14, .int 0, .int 0, .int 0, .ref m24, .int 0, .ref m26, .int 0, .ref m28, .long 0, .ref m30, .ref m31, .int 0, .int 0, .int 0, .ref m35, .ref m36, .int 0, .ref m38, .int 0, .int 0, .ref m41, .ref m42, .ref m43, .ref m44, .ref m45, .ref m46, .ref m47, .ref m48])), (m3, .inl (cy 0, 3, .inl (fun _ => 0))), (m5, .inl (cy 0, 22, .inl f_9)), (m7, .inl (cy 0, 22, .inl f_10)), (m9, .inl (cy 0, 6, .inl (fun _ => 0))), (m10, .inl (cy 0, 22, .inl f_11)), (m12, .inl (cy 0, 22, .inl f_12)), (m13, .inl (cy 0, 22, .inl f_13)), (m14, .inl (cy 0, 22, .inl f_14)), (m16, .inl (cy 0, 22, .inl (upd (fun _ => 0) (14 : Int32).toNatClampNeg (-1))))] := hD
    generalize (upd (fun _ => 0) (14 : Int32).toNatClampNeg (-1)) = f_15 at hP hD
    refine lv_aload_n hx hb dX12_text_126 rfl (lv_at hl 0 rfl) ?_
    refine lv_iconst (v := 0) hx hb dX12_text_127 (by decide) ?_
    refine va_put (D := D) (ci := 12) (v := .int 0) (ty := tyX12 23) (C := RX12) (T := TX12) (N := 49) hx hb hta inlX12 tyX12 tyX12_ok nmX12 hown hK hP hD hS 0 rfl rfl 23 (by decide) (hta _ wk_538) (fun _ h9 => h9) rfl (tyX12_ok 23 (by decide)) rfl rfl (Nat.le_of_ble_eq_true rfl) dX12_text_128 (fun H locs hP hD hS => ?_)
    have hP : va_P D vwCl [(md, .inr (12, [.ref m0, .ref m1, .int 0, .ref m3, .ref m4, .ref m5, .ref m6, .ref m7, .ref m8, .ref m9, .ref m10, .ref m11, .ref m12, .ref m13, .ref m14, .ref m15, .ref m16, .int 0, .int 0, .int 0, .int 14, .int 0, .int 0, .int 0, .ref m24, .int 0, .ref m26, .int 0, .ref m28, .long 0, .ref m30, .ref m31, .int 0, .int 0, .int 0, .ref m35, .ref m36, .int 0, .ref m38, .int 0, .int 0, .ref m41, .ref m42, .ref m43, .ref m44, .ref m45, .ref m46, .ref m47, .ref m48])), (m3, .inl (cy 0, 3, .inl (fun _ => 0))), (m5, .inl (cy 0, 22, .inl f_9)), (m7, .inl (cy 0, 22, .inl f_10)), (m9, .inl (cy 0, 6, .inl (fun _ => 0))), (m10, .inl (cy 0, 22, .inl f_11)), (m12, .inl (cy 0, 22, .inl f_12)), (m13, .inl (cy 0, 22, .inl f_13)), (m14, .inl (cy 0, 22, .inl f_14)), (m16, .inl (cy 0, 22, .inl f_15))] H := hP
    have hD : va_D A [(md, .inr (12, [.ref m0, .ref m1, .int 0, .ref m3, .ref m4, .ref m5, .ref m6, .ref m7, .ref m8, .ref m9, .ref m10, .ref m11, .ref m12, .ref m13, .ref m14, .ref m15, .ref m16, .int 0, .int 0, .int 0, .int 14, .int 0, .int 0, .int 0, .ref m24, .int 0, .ref m26, .int 0, .ref m28, .long 0, .ref m30, .ref m31, .int 0, .int 0, .int 0, .ref m35, .ref m36, .int 0, .ref m38, .int 0, .int 0, .ref m41, .ref m42, .ref m43, .ref m44, .ref m45, .ref m46, .ref m47, .ref m48])), (m3, .inl (cy 0, 3, .inl (fun _ => 0))), (m5, .inl (cy 0, 22, .inl f_9)), (m7, .inl (cy 0, 22, .inl f_10)), (m9, .inl (cy 0, 6, .inl (fun _ => 0))), (m10, .inl (cy 0, 22, .inl f_11)), (m12, .inl (cy 0, 22, .inl f_12)), (m13, .inl (cy 0, 22, .inl f_13)), (m14, .inl (cy 0, 22, .inl f_14)), (m16, .inl (cy 0, 22, .inl f_15))] := hD
    refine lv_aload_n hx hb dX12_text_131 rfl (lv_at hl 0 rfl) ?_
    refine lv_iconst (v := 0) hx hb dX12_text_132 (by decide) ?_
    refine va_put (D := D) (ci := 12) (v := .int 0) (ty := tyX12 17) (C := RX12) (T := TX12) (N := 49) hx hb hta inlX12 tyX12 tyX12_ok nmX12 hown hK hP hD hS 0 rfl rfl 17 (by decide) (hta _ wk_539) (fun _ h9 => h9) rfl (tyX12_ok 17 (by decide)) rfl rfl (Nat.le_of_ble_eq_true rfl) dX12_text_133 (fun H locs hP hD hS => ?_)
    have hP : va_P D vwCl [(md, .inr (12, [.ref m0, .ref m1, .int 0, .ref m3, .ref m4, .ref m5, .ref m6, .ref m7, .ref m8, .ref m9, .ref m10, .ref m11, .ref m12, .ref m13, .ref m14, .ref m15, .ref m16, .int 0, .int 0, .int 0, .int 14, .int 0, .int 0, .int 0, .ref m24, .int 0, .ref m26, .int 0, .ref m28, .long 0, .ref m30, .ref m31, .int 0, .int 0, .int 0, .ref m35, .ref m36, .int 0, .ref m38, .int 0, .int 0, .ref m41, .ref m42, .ref m43, .ref m44, .ref m45, .ref m46, .ref m47, .ref m48])), (m3, .inl (cy 0, 3, .inl (fun _ => 0))), (m5, .inl (cy 0, 22, .inl f_9)), (m7, .inl (cy 0, 22, .inl f_10)), (m9, .inl (cy 0, 6, .inl (fun _ => 0))), (m10, .inl (cy 0, 22, .inl f_11)), (m12, .inl (cy 0, 22, .inl f_12)), (m13, .inl (cy 0, 22, .inl f_13)), (m14, .inl (cy 0, 22, .inl f_14)), (m16, .inl (cy 0, 22, .inl f_15))] H := hP
    have hD : va_D A [(md, .inr (12, [.ref m0, .ref m1, .int 0, .ref m3, .ref m4, .ref m5, .ref m6, .ref m7, .ref m8, .ref m9, .ref m10, .ref m11, .ref m12, .ref m13, .ref m14, .ref m15, .ref m16, .int 0, .int 0, .int 0, .int 14, .int 0, .int 0, .int 0, .ref m24, .int 0, .ref m26, .int 0, .ref m28, .long 0, .ref m30, .ref m31, .int 0, .int 0, .int 0, .ref m35, .ref m36, .int 0, .ref m38, .int 0, .int 0, .ref m41, .ref m42, .ref m43, .ref m44, .ref m45, .ref m46, .ref m47, .ref m48])), (m3, .inl (cy 0, 3, .inl (fun _ => 0))), (m5, .inl (cy 0, 22, .inl f_9)), (m7, .inl (cy 0, 22, .inl f_10)), (m9, .inl (cy 0, 6, .inl (fun _ => 0))), (m10, .inl (cy 0, 22, .inl f_11)), (m12, .inl (cy 0, 22, .inl f_12)), (m13, .inl (cy 0, 22, .inl f_13)), (m14, .inl (cy 0, 22, .inl f_14)), (m16, .inl (cy 0, 22, .inl f_15))] := hD
    refine lv_aload_n hx hb dX12_text_136 rfl (lv_at hl 0 rfl) ?_
    refine lv_iconst (v := 0) hx hb dX12_text_137 (by decide) ?_
    refine va_put (D := D) (ci := 12) (v := .int 0) (ty := tyX12 18) (C := RX12) (T := TX12) (N := 49) hx hb hta inlX12 tyX12 tyX12_ok nmX12 hown hK hP hD hS 0 rfl rfl 18 (by decide) (hta _ wk_540) (fun _ h9 => h9) rfl (tyX12_ok 18 (by decide)) rfl rfl (Nat.le_of_ble_eq_true rfl) dX12_text_138 (fun H locs hP hD hS => ?_)
    have hP : va_P D vwCl [(md, .inr (12, [.ref m0, .ref m1, .int 0, .ref m3, .ref m4, .ref m5, .ref m6, .ref m7, .ref m8, .ref m9, .ref m10, .ref m11, .ref m12, .ref m13, .ref m14, .ref m15, .ref m16, .int 0, .int 0, .int 0, .int 14, .int 0, .int 0, .int 0, .ref m24, .int 0, .ref m26, .int 0, .ref m28, .long 0, .ref m30, .ref m31, .int 0, .int 0, .int 0, .ref m35, .ref m36, .int 0, .ref m38, .int 0, .int 0, .ref m41, .ref m42, .ref m43, .ref m44, .ref m45, .ref m46, .ref m47, .ref m48])), (m3, .inl (cy 0, 3, .inl (fun _ => 0))), (m5, .inl (cy 0, 22, .inl f_9)), (m7, .inl (cy 0, 22, .inl f_10)), (m9, .inl (cy 0, 6, .inl (fun _ => 0))), (m10, .inl (cy 0, 22, .inl f_11)), (m12, .inl (cy 0, 22, .inl f_12)), (m13, .inl (cy 0, 22, .inl f_13)), (m14, .inl (cy 0, 22, .inl f_14)), (m16, .inl (cy 0, 22, .inl f_15))] H := hP
    have hD : va_D A [(md, .inr (12, [.ref m0, .ref m1, .int 0, .ref m3, .ref m4, .ref m5, .ref m6, .ref m7, .ref m8, .ref m9, .ref m10, .ref m11, .ref m12, .ref m13, .ref m14, .ref m15, .ref m16, .int 0, .int 0, .int 0, .int 14, .int 0, .int 0, .int 0, .ref m24, .int 0, .ref m26, .int 0, .ref m28, .long 0, .ref m30, .ref m31, .int 0, .int 0, .int 0, .ref m35, .ref m36, .int 0, .ref m38, .int 0, .int 0, .ref m41, .ref m42, .ref m43, .ref m44, .ref m45, .ref m46, .ref m47, .ref m48])), (m3, .inl (cy 0, 3, .inl (fun _ => 0))), (m5, .inl (cy 0, 22, .inl f_9)), (m7, .inl (cy 0, 22, .inl f_10)), (m9, .inl (cy 0, 6, .inl (fun _ => 0))), (m10, .inl (cy 0, 22, .inl f_11)), (m12, .inl (cy 0, 22, .inl f_12)), (m13, .inl (cy 0, 22, .inl f_13)), (m14, .inl (cy 0, 22, .inl f_14)), (m16, .inl (cy 0, 22, .inl f_15))] := hD
    refine lv_aload_n hx hb dX12_text_141 rfl (lv_at hl 0 rfl) ?_
    refine lv_iconst (v := 0) hx hb dX12_text_142 (by decide) ?_
    refine va_put (D := D) (ci := 12) (v := .int 0) (ty := tyX12 21) (C := RX12) (T := TX12) (N := 49) hx hb hta inlX12 tyX12 tyX12_ok nmX12 hown hK hP hD hS 0 rfl rfl 21 (by decide) (hta _ wk_541) (fun _ h9 => h9) rfl (tyX12_ok 21 (by decide)) rfl rfl (Nat.le_of_ble_eq_true rfl) dX12_text_143 (fun H locs hP hD hS => ?_)
    have hP : va_P D vwCl [(md, .inr (12, [.ref m0, .ref m1, .int 0, .ref m3, .ref m4, .ref m5, .ref m6, .ref m7, .ref m8, .ref m9, .ref m10, .ref m11, .ref m12, .ref m13, .ref m14, .ref m15, .ref m16, .int 0, .int 0, .int 0, .int 14, .int 0, .int 0, .int 0, .ref m24, .int 0, .ref m26, .int 0, .ref m28, .long 0, .ref m30, .ref m31, .int 0, .int 0, .int 0, .ref m35, .ref m36, .int 0, .ref m38, .int 0, .int 0, .ref m41, .ref m42, .ref m43, .ref m44, .ref m45, .ref m46, .ref m47, .ref m48])), (m3, .inl (cy 0, 3, .inl (fun _ => 0))), (m5, .inl (cy 0, 22, .inl f_9)), (m7, .inl (cy 0, 22, .inl f_10)), (m9, .inl (cy 0, 6, .inl (fun _ => 0))), (m10, .inl (cy 0, 22, .inl f_11)), (m12, .inl (cy 0, 22, .inl f_12)), (m13, .inl (cy 0, 22, .inl f_13)), (m14, .inl (cy 0, 22, .inl f_14)), (m16, .inl (cy 0, 22, .inl f_15))] H := hP
    have hD : va_D A [(md, .inr (12, [.ref m0, .ref m1, .int 0, .ref m3, .ref m4, .ref m5, .ref m6, .ref m7, .ref m8, .ref m9, .ref m10, .ref m11, .ref m12, .ref m13, .ref m14, .ref m15, .ref m16, .int 0, .int 0, .int 0, .int 14, .int 0, .int 0, .int 0, .ref m24, .int 0, .ref m26, .int 0, .ref m28, .long 0, .ref m30, .ref m31, .int 0, .int 0, .int 0, .ref m35, .ref m36, .int 0, .ref m38, .int 0, .int 0, .ref m41, .ref m42, .ref m43, .ref m44, .ref m45, .ref m46, .ref m47, .ref m48])), (m3, .inl (cy 0, 3, .inl (fun _ => 0))), (m5, .inl (cy 0, 22, .inl f_9)), (m7, .inl (cy 0, 22, .inl f_10)), (m9, .inl (cy 0, 6, .inl (fun _ => 0))), (m10, .inl (cy 0, 22, .inl f_11)), (m12, .inl (cy 0, 22, .inl f_12)), (m13, .inl (cy 0, 22, .inl f_13)), (m14, .inl (cy 0, 22, .inl f_14)), (m16, .inl (cy 0, 22, .inl f_15))] := hD
    refine lv_aload_n hx hb dX12_text_146 rfl (lv_at hl 0 rfl) ?_
    have hPc := hP.sub (ws' := [(md, .inr (12, [.ref m0, .ref m1, .int 0, .ref m3, .ref m4, .ref m5, .ref m6, .ref m7, .ref m8, .ref m9, .ref m10, .ref m11, .ref m12, .ref m13, .ref m14, .ref m15, .ref m16, .int 0, .int 0, .int 0, .int 14, .int 0, .int 0, .int 0, .ref m24, .int 0, .ref m26, .int 0, .ref m28, .long 0, .ref m30, .ref m31, .int 0, .int 0, .int 0, .ref m35, .ref m36, .int 0, .ref m38, .int 0, .int 0, .ref m41, .ref m42, .ref m43, .ref m44, .ref m45, .ref m46, .ref m47, .ref m48]))]) [0] rfl
    have hDc := hD.sub (ws' := [(md, .inr (12, [.ref m0, .ref m1, .int 0, .ref m3, .ref m4, .ref m5, .ref m6, .ref m7, .ref m8, .ref m9, .ref m10, .ref m11, .ref m12, .ref m13, .ref m14, .ref m15, .ref m16, .int 0, .int 0, .int 0, .int 14, .int 0, .int 0, .int 0, .ref m24, .int 0, .ref m26, .int 0, .ref m28, .long 0, .ref m30, .ref m31, .int 0, .int 0, .int 0, .ref m35, .ref m36, .int 0, .ref m38, .int 0, .int 0, .ref m41, .ref m42, .ref m43, .ref m44, .ref m45, .ref m46, .ref m47, .ref m48]))]) [0] (by decide) rfl
    refine tl_ci (wr := [(m3, .inl (cy 0, 3, .inl (fun _ => 0))), (m5, .inl (cy 0, 22, .inl f_9)), (m7, .inl (cy 0, 22, .inl f_10)), (m9, .inl (cy 0, 6, .inl (fun _ => 0))), (m10, .inl (cy 0, 22, .inl f_11)), (m12, .inl (cy 0, 22, .inl f_12)), (m13, .inl (cy 0, 22, .inl f_13)), (m14, .inl (cy 0, 22, .inl f_14)), (m16, .inl (cy 0, 22, .inl f_15))]) _ _ hP hD hS hA [0] [1, 2, 3, 4, 5, 6, 7, 8, 9] rfl rfl (by decide) (by decide) (tl_rV (As := []) (rest := []) ⟨hx, hb, hml, hown, hta⟩ hK hN hPc hDc (ci := 12) rfl 0 rfl lk_X12_330 (c_X12_clauseHere_14 l D cy H.size md m0 m1 m3 m4 m5 m6 m7 m8 m9 m10 m11 m12 m13 m14 m15 m16 m24 m26 m28 m30 m31 m35 m36 m38 m41 m42 m43 m44 m45 m46 m47 m48 ) rfl rfl ⟨Nat.le_of_ble_eq_true rfl, Nat.le_of_ble_eq_true rfl⟩ rfl hl.1 rfl (Nat.le_of_ble_eq_true rfl) dX12_text_147 ⟨Nat.le_of_ble_eq_true rfl, Nat.le_of_ble_eq_true rfl⟩) (fun r_17 u_18 H locs hw_16 hP hD hS => ?_)
    have hP : va_P D vwCl [(m3, .inl (cy 0, 3, .inl (fun _ => 0))), (m5, .inl (cy 0, 22, .inl f_9)), (m7, .inl (cy 0, 22, .inl f_10)), (m9, .inl (cy 0, 6, .inl (fun _ => 0))), (m10, .inl (cy 0, 22, .inl f_11)), (m12, .inl (cy 0, 22, .inl f_12)), (m13, .inl (cy 0, 22, .inl f_13)), (m14, .inl (cy 0, 22, .inl f_14)), (m16, .inl (cy 0, 22, .inl f_15)), (md, .inr (12, [.ref m0, .ref m1, .int 0, .ref m3, .ref m4, .ref m5, .ref m6, .ref m7, .ref m8, .ref m9, .ref m10, .ref m11, .ref m12, .ref m13, .ref m14, .ref m15, .ref m16, .int 0, .int 1, .int 0, .int 14, .int 0, .int 0, .int 0, .ref m24, .int 0, .ref m26, .int 0, .ref m28, .long 0, .ref m30, .ref m31, .int 0, .int 0, .int 0, .ref m35, .ref m36, .int 0, .ref m38, .int 0, .int 0, .ref m41, .ref m42, .ref m43, .ref m44, .ref m45, .ref m46, .ref m47, .ref m48]))] H := hP
    have hD : va_D A [(m3, .inl (cy 0, 3, .inl (fun _ => 0))), (m5, .inl (cy 0, 22, .inl f_9)), (m7, .inl (cy 0, 22, .inl f_10)), (m9, .inl (cy 0, 6, .inl (fun _ => 0))), (m10, .inl (cy 0, 22, .inl f_11)), (m12, .inl (cy 0, 22, .inl f_12)), (m13, .inl (cy 0, 22, .inl f_13)), (m14, .inl (cy 0, 22, .inl f_14)), (m16, .inl (cy 0, 22, .inl f_15)), (md, .inr (12, [.ref m0, .ref m1, .int 0, .ref m3, .ref m4, .ref m5, .ref m6, .ref m7, .ref m8, .ref m9, .ref m10, .ref m11, .ref m12, .ref m13, .ref m14, .ref m15, .ref m16, .int 0, .int 1, .int 0, .int 14, .int 0, .int 0, .int 0, .ref m24, .int 0, .ref m26, .int 0, .ref m28, .long 0, .ref m30, .ref m31, .int 0, .int 0, .int 0, .ref m35, .ref m36, .int 0, .ref m38, .int 0, .int 0, .ref m41, .ref m42, .ref m43, .ref m44, .ref m45, .ref m46, .ref m47, .ref m48]))] := hD
    refine W.widen (k := 0) (n := 0) (Nat.le_refl _) (Nat.le_refl _) ?_
    subst hw_16
    refine lv_istore_n (lv' := [(2, .int 0), (0, .ref md), (1, .int 2)]) hx hb dX12_text_150 rfl hl (by decide) rfl (fun ls hl => ?_)
    refine lv_iload_n hx hb dX12_text_151 rfl (lv_at hl 0 rfl) ?_
    refine lv_if_eq (tgt := 182) hx hb dX12_text_152 (by decide) (fun _ => ?_) (fun c => absurd c (by decide))
    refine lv_iload_n hx hb dX12_text_182 rfl (lv_at hl 0 rfl) ?_
    refine lv_if_eq (tgt := 204) hx hb dX12_text_183 (by decide) (fun _ => ?_) (fun c => absurd c (by decide))
    refine lv_aload_n hx hb dX12_text_204 rfl (lv_at hl 1 rfl) ?_
    refine lv_iconst (v := 0) hx hb dX12_text_205 (by decide) ?_
    refine va_put (D := D) (ci := 12) (v := .int 0) (ty := tyX12 2) (C := RX12) (T := TX12) (N := 49) hx hb hta inlX12 tyX12 tyX12_ok nmX12 hown hK hP hD hS 9 rfl rfl 2 (by decide) (hta _ wk_347) (fun _ h9 => h9) rfl (tyX12_ok 2 (by decide)) rfl rfl (Nat.le_of_ble_eq_true rfl) dX12_text_206 (fun H locs hP hD hS => ?_)
    have hP : va_P D vwCl [(m3, .inl (cy 0, 3, .inl (fun _ => 0))), (m5, .inl (cy 0, 22, .inl f_9)), (m7, .inl (cy 0, 22, .inl f_10)), (m9, .inl (cy 0, 6, .inl (fun _ => 0))), (m10, .inl (cy 0, 22, .inl f_11)), (m12, .inl (cy 0, 22, .inl f_12)), (m13, .inl (cy 0, 22, .inl f_13)), (m14, .inl (cy 0, 22, .inl f_14)), (m16, .inl (cy 0, 22, .inl f_15)), (md, .inr (12, [.ref m0, .ref m1, .int 0, .ref m3, .ref m4, .ref m5, .ref m6, .ref m7, .ref m8, .ref m9, .ref m10, .ref m11, .ref m12, .ref m13, .ref m14, .ref m15, .ref m16, .int 0, .int 1, .int 0, .int 14, .int 0, .int 0, .int 0, .ref m24, .int 0, .ref m26, .int 0, .ref m28, .long 0, .ref m30, .ref m31, .int 0, .int 0, .int 0, .ref m35, .ref m36, .int 0, .ref m38, .int 0, .int 0, .ref m41, .ref m42, .ref m43, .ref m44, .ref m45, .ref m46, .ref m47, .ref m48]))] H := hP
    have hD : va_D A [(m3, .inl (cy 0, 3, .inl (fun _ => 0))), (m5, .inl (cy 0, 22, .inl f_9)), (m7, .inl (cy 0, 22, .inl f_10)), (m9, .inl (cy 0, 6, .inl (fun _ => 0))), (m10, .inl (cy 0, 22, .inl f_11)), (m12, .inl (cy 0, 22, .inl f_12)), (m13, .inl (cy 0, 22, .inl f_13)), (m14, .inl (cy 0, 22, .inl f_14)), (m16, .inl (cy 0, 22, .inl f_15)), (md, .inr (12, [.ref m0, .ref m1, .int 0, .ref m3, .ref m4, .ref m5, .ref m6, .ref m7, .ref m8, .ref m9, .ref m10, .ref m11, .ref m12, .ref m13, .ref m14, .ref m15, .ref m16, .int 0, .int 1, .int 0, .int 14, .int 0, .int 0, .int 0, .ref m24, .int 0, .ref m26, .int 0, .ref m28, .long 0, .ref m30, .ref m31, .int 0, .int 0, .int 0, .ref m35, .ref m36, .int 0, .ref m38, .int 0, .int 0, .ref m41, .ref m42, .ref m43, .ref m44, .ref m45, .ref m46, .ref m47, .ref m48]))] := hD
    refine lv_aload_n hx hb dX12_text_209 rfl (lv_at hl 1 rfl) ?_
    refine va_get (D := D) (ci := 12) (v := .int 1) (C := RX12) (T := TX12) (N := 49) hx hb hta inlX12 hown hK hP 9 rfl rfl 18 (by decide) (hta _ wk_540) (fun _ h9 => h9) rfl dX12_text_210 ?_
    refine lv_if_le (tgt := 224) hx hb dX12_text_213 (by decide) (fun c => absurd c (by decide)) (fun _ => ?_)
    refine lv_bipush (v := (-2)) hx hb dX12_text_216 (by decide) ?_
    refine lv_aload_n hx hb dX12_text_218 rfl (lv_at hl 1 rfl) ?_
    refine va_get (D := D) (ci := 12) (v := .int 1) (C := RX12) (T := TX12) (N := 49) hx hb hta inlX12 hown hK hP 9 rfl rfl 18 (by decide) (hta _ wk_540) (fun _ h9 => h9) rfl dX12_text_219 ?_
    refine lv_isub hx hb dX12_text_222 ?_
    refine lv_topi (fun z_19 ez_19 => ?_)
    obtain rfl : z_19 = ((-3) : Int32) := ez_19.trans (by decide)
    have hP9 := hP.sub (ws' := []) [] rfl
    have hD9 := hD.sub (ws' := []) [] (by decide) rfl
    exact W.iret (v := (-3)) hx hb hr (fun t ht hW => ⟨⟨_, (), rfl, (Or.inl ⟨by decide, rfl⟩), by rw [ht]; exact hP9, hD9⟩, hS.F ht⟩) hS.2.2 dX12_text_223
set_option maxHeartbeats 4000000 in
set_option maxRecDepth 100000 in
theorem c_X12_text_n (l : Launch) (D : va_G) (cy : Nat → ClassId) (sz : Nat) (md : Nat) (p0 : Int32) (m0 : Nat) (m1 : Nat) (m3 : Nat) (m4 : Nat) (m5 : Nat) (m6 : Nat) (m7 : Nat) (m8 : Nat) (m9 : Nat) (m10 : Nat) (m11 : Nat) (m12 : Nat) (m13 : Nat) (m14 : Nat) (m15 : Nat) (m16 : Nat) (m24 : Nat) (m26 : Nat) (m28 : Nat) (m30 : Nat) (m31 : Nat) (m35 : Nat) (m36 : Nat) (m38 : Nat) (m41 : Nat) (m42 : Nat) (m43 : Nat) (m44 : Nat) (m45 : Nat) (m46 : Nat) (m47 : Nat) (m48 : Nat) (hne : p0.toInt < 0 ∨ 2 < p0.toInt) : Met l yX12_text (tl_w yX12_text cX12_text 3 (some .int)) ({ frames := 6, cells := 0, slots := 0, locals := 260 }) (va_Pc [.ref md, .int p0] (tl_P D cy [(md, .inr (12, [.ref m0, .ref m1, .int 0, .ref m3, .ref m4, .ref m5, .ref m6, .ref m7, .ref m8, .ref m9, .ref m10, .ref m11, .ref m12, .ref m13, .ref m14, .ref m15, .ref m16, .int 0, .int 0, .int 0, .int 0, .int 0, .int 0, .int 0, .ref m24, .int 0, .ref m26, .int 0, .ref m28, .long 0, .ref m30, .ref m31, .int 0, .int 0, .int 0, .ref m35, .ref m36, .int 0, .ref m38, .int 0, .int 0, .ref m41, .ref m42, .ref m43, .ref m44, .ref m45, .ref m46, .ref m47, .ref m48])), (m3, .inl (cy 0, 3, .inl (fun _ => 0))), (m5, .inl (cy 0, 22, .inl (fun _ => 0))), (m7, .inl (cy 0, 22, .inl (fun _ => 0))), (m9, .inl (cy 0, 6, .inl (fun _ => 0))), (m10, .inl (cy 0, 22, .inl (fun _ => 0))), (m12, .inl (cy 0, 22, .inl (fun _ => 0))), (m13, .inl (cy 0, 22, .inl (fun _ => 0))), (m14, .inl (cy 0, 22, .inl (fun _ => 0))), (m16, .inl (cy 0, 22, .inl (fun _ => 0)))] sz)) (va_Qi (fun (r : Int32) (u : Unit) => tl_E r (0 ≤ p0.toInt ∧ p0.toInt ≤ 2) (-3) (-1)) (tl_B D (va_A [(md, .inr (12, [.ref m0, .ref m1, .int 0, .ref m3, .ref m4, .ref m5, .ref m6, .ref m7, .ref m8, .ref m9, .ref m10, .ref m11, .ref m12, .ref m13, .ref m14, .ref m15, .ref m16, .int 0, .int 0, .int 0, .int 0, .int 0, .int 0, .int 0, .ref m24, .int 0, .ref m26, .int 0, .ref m28, .long 0, .ref m30, .ref m31, .int 0, .int 0, .int 0, .ref m35, .ref m36, .int 0, .ref m38, .int 0, .int 0, .ref m41, .ref m42, .ref m43, .ref m44, .ref m45, .ref m46, .ref m47, .ref m48])), (m3, .inl (cy 0, 3, .inl (fun _ => 0))), (m5, .inl (cy 0, 22, .inl (fun _ => 0))), (m7, .inl (cy 0, 22, .inl (fun _ => 0))), (m9, .inl (cy 0, 6, .inl (fun _ => 0))), (m10, .inl (cy 0, 22, .inl (fun _ => 0))), (m12, .inl (cy 0, 22, .inl (fun _ => 0))), (m13, .inl (cy 0, 22, .inl (fun _ => 0))), (m14, .inl (cy 0, 22, .inl (fun _ => 0))), (m16, .inl (cy 0, 22, .inl (fun _ => 0)))] sz) (fun u : Unit => [])) (va_A [(md, .inr (12, [.ref m0, .ref m1, .int 0, .ref m3, .ref m4, .ref m5, .ref m6, .ref m7, .ref m8, .ref m9, .ref m10, .ref m11, .ref m12, .ref m13, .ref m14, .ref m15, .ref m16, .int 0, .int 0, .int 0, .int 0, .int 0, .int 0, .int 0, .ref m24, .int 0, .ref m26, .int 0, .ref m28, .long 0, .ref m30, .ref m31, .int 0, .int 0, .int 0, .ref m35, .ref m36, .int 0, .ref m38, .int 0, .int 0, .ref m41, .ref m42, .ref m43, .ref m44, .ref m45, .ref m46, .ref m47, .ref m48])), (m3, .inl (cy 0, 3, .inl (fun _ => 0))), (m5, .inl (cy 0, 22, .inl (fun _ => 0))), (m7, .inl (cy 0, 22, .inl (fun _ => 0))), (m9, .inl (cy 0, 6, .inl (fun _ => 0))), (m10, .inl (cy 0, 22, .inl (fun _ => 0))), (m12, .inl (cy 0, 22, .inl (fun _ => 0))), (m13, .inl (cy 0, 22, .inl (fun _ => 0))), (m14, .inl (cy 0, 22, .inl (fun _ => 0))), (m16, .inl (cy 0, 22, .inl (fun _ => 0)))] sz)) 0 0 (va_A [(md, .inr (12, [.ref m0, .ref m1, .int 0, .ref m3, .ref m4, .ref m5, .ref m6, .ref m7, .ref m8, .ref m9, .ref m10, .ref m11, .ref m12, .ref m13, .ref m14, .ref m15, .ref m16, .int 0, .int 0, .int 0, .int 0, .int 0, .int 0, .int 0, .ref m24, .int 0, .ref m26, .int 0, .ref m28, .long 0, .ref m30, .ref m31, .int 0, .int 0, .int 0, .ref m35, .ref m36, .int 0, .ref m38, .int 0, .int 0, .ref m41, .ref m42, .ref m43, .ref m44, .ref m45, .ref m46, .ref m47, .ref m48])), (m3, .inl (cy 0, 3, .inl (fun _ => 0))), (m5, .inl (cy 0, 22, .inl (fun _ => 0))), (m7, .inl (cy 0, 22, .inl (fun _ => 0))), (m9, .inl (cy 0, 6, .inl (fun _ => 0))), (m10, .inl (cy 0, 22, .inl (fun _ => 0))), (m12, .inl (cy 0, 22, .inl (fun _ => 0))), (m13, .inl (cy 0, 22, .inl (fun _ => 0))), (m14, .inl (cy 0, 22, .inl (fun _ => 0))), (m16, .inl (cy 0, 22, .inl (fun _ => 0)))] sz) := by
  refine Met.ofW (cc := cX12_text) (maxL := 3) (ret := (some .int)) (by decide) rfl ?_
  intro p e s m args below meth c s₁ B hml hv
  obtain ⟨rfl, hsz, hP, hK, hD0, hN⟩ := hv
  have hx := B.exec
  have hb := B.bytes
  have hr := B.returns
  have hta := tl_hta (atoms_spec (ws := tl_w yX12_text cX12_text 3 (some .int)) B.pre)
  have hown : s.vm.findClass RX12 = some m.cls := findClass_of_methodNamed B.named
  have hlocks := B.notSynchronized
  subst hsz
  have hD := hD0.self (sz := s.heap.size)
  generalize hAe : va_A [(md, .inr (12, [.ref m0, .ref m1, .int 0, .ref m3, .ref m4, .ref m5, .ref m6, .ref m7, .ref m8, .ref m9, .ref m10, .ref m11, .ref m12, .ref m13, .ref m14, .ref m15, .ref m16, .int 0, .int 0, .int 0, .int 0, .int 0, .int 0, .int 0, .ref m24, .int 0, .ref m26, .int 0, .ref m28, .long 0, .ref m30, .ref m31, .int 0, .int 0, .int 0, .ref m35, .ref m36, .int 0, .ref m38, .int 0, .int 0, .ref m41, .ref m42, .ref m43, .ref m44, .ref m45, .ref m46, .ref m47, .ref m48])), (m3, .inl (cy 0, 3, .inl (fun _ => 0))), (m5, .inl (cy 0, 22, .inl (fun _ => 0))), (m7, .inl (cy 0, 22, .inl (fun _ => 0))), (m9, .inl (cy 0, 6, .inl (fun _ => 0))), (m10, .inl (cy 0, 22, .inl (fun _ => 0))), (m12, .inl (cy 0, 22, .inl (fun _ => 0))), (m13, .inl (cy 0, 22, .inl (fun _ => 0))), (m14, .inl (cy 0, 22, .inl (fun _ => 0))), (m16, .inl (cy 0, 22, .inl (fun _ => 0)))] s.heap.size = A at hD ⊢
  have hA : ∀ q : Nat, s.heap.size ≤ q → A q := fun q h => by rw [← hAe]; exact Or.inr h
  have hS : va_S A s.heap s.heap [] := va_S.rf
  have hP : va_P D vwCl [(md, .inr (12, [.ref m0, .ref m1, .int 0, .ref m3, .ref m4, .ref m5, .ref m6, .ref m7, .ref m8, .ref m9, .ref m10, .ref m11, .ref m12, .ref m13, .ref m14, .ref m15, .ref m16, .int 0, .int 0, .int 0, .int 0, .int 0, .int 0, .int 0, .ref m24, .int 0, .ref m26, .int 0, .ref m28, .long 0, .ref m30, .ref m31, .int 0, .int 0, .int 0, .ref m35, .ref m36, .int 0, .ref m38, .int 0, .int 0, .ref m41, .ref m42, .ref m43, .ref m44, .ref m45, .ref m46, .ref m47, .ref m48])), (m3, .inl (cy 0, 3, .inl (fun _ => 0))), (m5, .inl (cy 0, 22, .inl (fun _ => 0))), (m7, .inl (cy 0, 22, .inl (fun _ => 0))), (m9, .inl (cy 0, 6, .inl (fun _ => 0))), (m10, .inl (cy 0, 22, .inl (fun _ => 0))), (m12, .inl (cy 0, 22, .inl (fun _ => 0))), (m13, .inl (cy 0, 22, .inl (fun _ => 0))), (m14, .inl (cy 0, 22, .inl (fun _ => 0))), (m16, .inl (cy 0, 22, .inl (fun _ => 0)))] s.heap := hP
  have hl := lv_entry ([.ref md, .int p0]) (n := 3) (Nat.le_of_ble_eq_true rfl)
  rw [lg_entry_eq]
  generalize (lg_sl ([.ref md, .int p0]) ++ List.replicate (3 - (lg_sl ([.ref md, .int p0])).length) Slot.unset).toArray = ls at hl ⊢
  have hl : lv_has ls 3 [(0, .ref md), (1, .int p0)] := hl
  refine lv_iload_n hx hb dX12_text_0 rfl (lv_at hl 1 rfl) ?_
  refine lv_i2l (v := p0.toInt64) hx hb dX12_text_1 (by first | rfl | decide) ?_
  refine lv_lconst (v := 0) hx hb dX12_text_2 (by decide) ?_
  refine lv_ldc2 (v := 2) hx hb hown (hta _ wk_536) dX12_text_3 ?_
  have hPc := hP.sub (ws' := []) [] rfl
  have hDc := hD.sub (ws' := []) [] (by decide) rfl
  refine tl_si (tl_rS (As := [.long p0.toInt64, .long 0, .long 2]) (rest := []) ⟨hx, hb, hml, hown, hta⟩ hK hN hPc hDc lk_X12_112 (c_X12_in l D cy s.heap.size p0.toInt64 0 2 ) rfl rfl ⟨Nat.le_of_ble_eq_true rfl, Nat.le_of_ble_eq_true rfl⟩ rfl hl.1 rfl (Nat.le_of_ble_eq_true rfl) dX12_text_6 ⟨Nat.le_of_ble_eq_true rfl, Nat.le_of_ble_eq_true rfl⟩) (fun r_2 hw_1 => ?_)
  simp only [Int32.toInt_toInt64] at hw_1
  have hw_1 : tl_E r_2 ((0 : Int) ≤ p0.toInt ∧ p0.toInt ≤ (2 : Int)) 1 0 := hw_1
  refine lv_if_eq (tgt := 25) hx hb dX12_text_9 (by decide) (fun c_3 => ?_) (fun c_3 => ?_)
  · have c_3 := hw_1.f c_3
    refine lv_iconst (v := (-1)) hx hb dX12_text_25 (by decide) ?_
    have hP9 := hP.sub (ws' := []) [] rfl
    have hD9 := hD.sub (ws' := []) [] (by decide) rfl
    have hS : va_S A s.heap s.heap [] := hS
    exact W.iret (v := (-1)) hx hb hr (fun t ht hW => ⟨⟨_, (), rfl, (Or.inr ⟨by omega, rfl⟩), by rw [ht]; exact hP9, hD9⟩, hS.F ht⟩) hS.2.2 dX12_text_26
  · have c_3 := hw_1.t c_3
    exfalso; omega
theorem c_X12_text (l : Launch) (D : va_G) (cy : Nat → ClassId) (sz : Nat) (md : Nat) (p0 : Int32) (m0 : Nat) (m1 : Nat) (m3 : Nat) (m4 : Nat) (m5 : Nat) (m6 : Nat) (m7 : Nat) (m8 : Nat) (m9 : Nat) (m10 : Nat) (m11 : Nat) (m12 : Nat) (m13 : Nat) (m14 : Nat) (m15 : Nat) (m16 : Nat) (m24 : Nat) (m26 : Nat) (m28 : Nat) (m30 : Nat) (m31 : Nat) (m35 : Nat) (m36 : Nat) (m38 : Nat) (m41 : Nat) (m42 : Nat) (m43 : Nat) (m44 : Nat) (m45 : Nat) (m46 : Nat) (m47 : Nat) (m48 : Nat) : Met l yX12_text (tl_w yX12_text cX12_text 3 (some .int)) ({ frames := 6, cells := 0, slots := 0, locals := 260 }) (va_Pc [.ref md, .int p0] (tl_P D cy [(md, .inr (12, [.ref m0, .ref m1, .int 0, .ref m3, .ref m4, .ref m5, .ref m6, .ref m7, .ref m8, .ref m9, .ref m10, .ref m11, .ref m12, .ref m13, .ref m14, .ref m15, .ref m16, .int 0, .int 0, .int 0, .int 0, .int 0, .int 0, .int 0, .ref m24, .int 0, .ref m26, .int 0, .ref m28, .long 0, .ref m30, .ref m31, .int 0, .int 0, .int 0, .ref m35, .ref m36, .int 0, .ref m38, .int 0, .int 0, .ref m41, .ref m42, .ref m43, .ref m44, .ref m45, .ref m46, .ref m47, .ref m48])), (m3, .inl (cy 0, 3, .inl (fun _ => 0))), (m5, .inl (cy 0, 22, .inl (fun _ => 0))), (m7, .inl (cy 0, 22, .inl (fun _ => 0))), (m9, .inl (cy 0, 6, .inl (fun _ => 0))), (m10, .inl (cy 0, 22, .inl (fun _ => 0))), (m12, .inl (cy 0, 22, .inl (fun _ => 0))), (m13, .inl (cy 0, 22, .inl (fun _ => 0))), (m14, .inl (cy 0, 22, .inl (fun _ => 0))), (m16, .inl (cy 0, 22, .inl (fun _ => 0)))] sz)) (va_Qi (fun (r : Int32) (u : Unit) => tl_E r (0 ≤ p0.toInt ∧ p0.toInt ≤ 2) (-3) (-1)) (tl_B D (va_A [(md, .inr (12, [.ref m0, .ref m1, .int 0, .ref m3, .ref m4, .ref m5, .ref m6, .ref m7, .ref m8, .ref m9, .ref m10, .ref m11, .ref m12, .ref m13, .ref m14, .ref m15, .ref m16, .int 0, .int 0, .int 0, .int 0, .int 0, .int 0, .int 0, .ref m24, .int 0, .ref m26, .int 0, .ref m28, .long 0, .ref m30, .ref m31, .int 0, .int 0, .int 0, .ref m35, .ref m36, .int 0, .ref m38, .int 0, .int 0, .ref m41, .ref m42, .ref m43, .ref m44, .ref m45, .ref m46, .ref m47, .ref m48])), (m3, .inl (cy 0, 3, .inl (fun _ => 0))), (m5, .inl (cy 0, 22, .inl (fun _ => 0))), (m7, .inl (cy 0, 22, .inl (fun _ => 0))), (m9, .inl (cy 0, 6, .inl (fun _ => 0))), (m10, .inl (cy 0, 22, .inl (fun _ => 0))), (m12, .inl (cy 0, 22, .inl (fun _ => 0))), (m13, .inl (cy 0, 22, .inl (fun _ => 0))), (m14, .inl (cy 0, 22, .inl (fun _ => 0))), (m16, .inl (cy 0, 22, .inl (fun _ => 0)))] sz) (fun u : Unit => [])) (va_A [(md, .inr (12, [.ref m0, .ref m1, .int 0, .ref m3, .ref m4, .ref m5, .ref m6, .ref m7, .ref m8, .ref m9, .ref m10, .ref m11, .ref m12, .ref m13, .ref m14, .ref m15, .ref m16, .int 0, .int 0, .int 0, .int 0, .int 0, .int 0, .int 0, .ref m24, .int 0, .ref m26, .int 0, .ref m28, .long 0, .ref m30, .ref m31, .int 0, .int 0, .int 0, .ref m35, .ref m36, .int 0, .ref m38, .int 0, .int 0, .ref m41, .ref m42, .ref m43, .ref m44, .ref m45, .ref m46, .ref m47, .ref m48])), (m3, .inl (cy 0, 3, .inl (fun _ => 0))), (m5, .inl (cy 0, 22, .inl (fun _ => 0))), (m7, .inl (cy 0, 22, .inl (fun _ => 0))), (m9, .inl (cy 0, 6, .inl (fun _ => 0))), (m10, .inl (cy 0, 22, .inl (fun _ => 0))), (m12, .inl (cy 0, 22, .inl (fun _ => 0))), (m13, .inl (cy 0, 22, .inl (fun _ => 0))), (m14, .inl (cy 0, 22, .inl (fun _ => 0))), (m16, .inl (cy 0, 22, .inl (fun _ => 0)))] sz)) 0 0 (va_A [(md, .inr (12, [.ref m0, .ref m1, .int 0, .ref m3, .ref m4, .ref m5, .ref m6, .ref m7, .ref m8, .ref m9, .ref m10, .ref m11, .ref m12, .ref m13, .ref m14, .ref m15, .ref m16, .int 0, .int 0, .int 0, .int 0, .int 0, .int 0, .int 0, .ref m24, .int 0, .ref m26, .int 0, .ref m28, .long 0, .ref m30, .ref m31, .int 0, .int 0, .int 0, .ref m35, .ref m36, .int 0, .ref m38, .int 0, .int 0, .ref m41, .ref m42, .ref m43, .ref m44, .ref m45, .ref m46, .ref m47, .ref m48])), (m3, .inl (cy 0, 3, .inl (fun _ => 0))), (m5, .inl (cy 0, 22, .inl (fun _ => 0))), (m7, .inl (cy 0, 22, .inl (fun _ => 0))), (m9, .inl (cy 0, 6, .inl (fun _ => 0))), (m10, .inl (cy 0, 22, .inl (fun _ => 0))), (m12, .inl (cy 0, 22, .inl (fun _ => 0))), (m13, .inl (cy 0, 22, .inl (fun _ => 0))), (m14, .inl (cy 0, 22, .inl (fun _ => 0))), (m16, .inl (cy 0, 22, .inl (fun _ => 0)))] sz) := by
  by_cases h0 : p0.toInt = 0
  · obtain rfl : p0 = 0 := Int32.toInt_inj.mp h0
    exact c_X12_text_0 l D cy sz md m0 m1 m3 m4 m5 m6 m7 m8 m9 m10 m11 m12 m13 m14 m15 m16 m24 m26 m28 m30 m31 m35 m36 m38 m41 m42 m43 m44 m45 m46 m47 m48
  by_cases h1 : p0.toInt = 1
  · obtain rfl : p0 = 1 := Int32.toInt_inj.mp h1
    exact c_X12_text_1 l D cy sz md m0 m1 m3 m4 m5 m6 m7 m8 m9 m10 m11 m12 m13 m14 m15 m16 m24 m26 m28 m30 m31 m35 m36 m38 m41 m42 m43 m44 m45 m46 m47 m48
  by_cases h2 : p0.toInt = 2
  · obtain rfl : p0 = 2 := Int32.toInt_inj.mp h2
    exact c_X12_text_2 l D cy sz md m0 m1 m3 m4 m5 m6 m7 m8 m9 m10 m11 m12 m13 m14 m15 m16 m24 m26 m28 m30 m31 m35 m36 m38 m41 m42 m43 m44 m45 m46 m47 m48
  exact c_X12_text_n l D cy sz md p0 m0 m1 m3 m4 m5 m6 m7 m8 m9 m10 m11 m12 m13 m14 m15 m16 m24 m26 m28 m30 m31 m35 m36 m38 m41 m42 m43 m44 m45 m46 m47 m48 (by omega)

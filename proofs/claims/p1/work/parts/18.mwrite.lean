set_option maxHeartbeats 4000000 in
set_option maxRecDepth 100000 in
theorem c_X12_clock (l : Launch) (D : va_G) (cy : Nat → ClassId) (sz : Nat) (md : Nat) (p0 : Int32) (m0 : Nat) (m1 : Nat) (m3 : Nat) (m4 : Nat) (m5 : Nat) (m6 : Nat) (m7 : Nat) (m8 : Nat) (m9 : Nat) (m10 : Nat) (m11 : Nat) (m12 : Nat) (m13 : Nat) (m14 : Nat) (m15 : Nat) (m16 : Nat) (m24 : Nat) (m26 : Nat) (m28 : Nat) (m30 : Nat) (m31 : Nat) (m35 : Nat) (m36 : Nat) (m38 : Nat) (m41 : Nat) (m42 : Nat) (m43 : Nat) (m44 : Nat) (m45 : Nat) (m46 : Nat) (m47 : Nat) (m48 : Nat) (sd : Nat → Int32) (hsd : ∀ k : Nat, (k < 441 ∨ 7641 ≤ k) → sd k = 0) : Met l yX12_clock (tl_w yX12_clock cX12_clock 2 (some .boolean)) ({ frames := 1, cells := 0, slots := 0, locals := 25 }) (va_Pc [.ref md, .int p0] (tl_P D cy [(md, .inr (12, [.ref m0, .ref m1, .int 0, .ref m3, .ref m4, .ref m5, .ref m6, .ref m7, .ref m8, .ref m9, .ref m10, .ref m11, .ref m12, .ref m13, .ref m14, .ref m15, .ref m16, .int 0, .int 0, .int 0, .int 0, .int 0, .int 0, .int 0, .ref m24, .int 0, .ref m26, .int 0, .ref m28, .long 0, .ref m30, .ref m31, .int 0, .int 0, .int 0, .ref m35, .ref m36, .int 0, .ref m38, .int 0, .int 0, .ref m41, .ref m42, .ref m43, .ref m44, .ref m45, .ref m46, .ref m47, .ref m48])), (m0, .inl (cy 0, 7666, .inl sd))] sz)) (va_Qi (fun (r : Int32) (u : Unit) => tl_E r (0 ≤ p0.toInt ∧ p0.toInt ≤ 399) 1 0) (tl_B D (va_A [(md, .inr (12, [.ref m0, .ref m1, .int 0, .ref m3, .ref m4, .ref m5, .ref m6, .ref m7, .ref m8, .ref m9, .ref m10, .ref m11, .ref m12, .ref m13, .ref m14, .ref m15, .ref m16, .int 0, .int 0, .int 0, .int 0, .int 0, .int 0, .int 0, .ref m24, .int 0, .ref m26, .int 0, .ref m28, .long 0, .ref m30, .ref m31, .int 0, .int 0, .int 0, .ref m35, .ref m36, .int 0, .ref m38, .int 0, .int 0, .ref m41, .ref m42, .ref m43, .ref m44, .ref m45, .ref m46, .ref m47, .ref m48])), (m0, .inl (cy 0, 7666, .inl sd))] sz) (fun u : Unit => [])) (va_A [(md, .inr (12, [.ref m0, .ref m1, .int 0, .ref m3, .ref m4, .ref m5, .ref m6, .ref m7, .ref m8, .ref m9, .ref m10, .ref m11, .ref m12, .ref m13, .ref m14, .ref m15, .ref m16, .int 0, .int 0, .int 0, .int 0, .int 0, .int 0, .int 0, .ref m24, .int 0, .ref m26, .int 0, .ref m28, .long 0, .ref m30, .ref m31, .int 0, .int 0, .int 0, .ref m35, .ref m36, .int 0, .ref m38, .int 0, .int 0, .ref m41, .ref m42, .ref m43, .ref m44, .ref m45, .ref m46, .ref m47, .ref m48])), (m0, .inl (cy 0, 7666, .inl sd))] sz)) 0 0 (va_A [(md, .inr (12, [.ref m0, .ref m1, .int 0, .ref m3, .ref m4, .ref m5, .ref m6, .ref m7, .ref m8, .ref m9, .ref m10, .ref m11, .ref m12, .ref m13, .ref m14, .ref m15, .ref m16, .int 0, .int 0, .int 0, .int 0, .int 0, .int 0, .int 0, .ref m24, .int 0, .ref m26, .int 0, .ref m28, .long 0, .ref m30, .ref m31, .int 0, .int 0, .int 0, .ref m35, .ref m36, .int 0, .ref m38, .int 0, .int 0, .ref m41, .ref m42, .ref m43, .ref m44, .ref m45, .ref m46, .ref m47, .ref m48])), (m0, .inl (cy 0, 7666, .inl sd))] sz) := by
  refine Met.ofW (cc := cX12_clock) (maxL := 2) (ret := (some .boolean)) (by decide) rfl ?_
  intro p e s m args below meth c s₁ B hml hv
  obtain ⟨rfl, hsz, hP, hK, hD0, hN⟩ := hv
  have hx := B.exec
  have hb := B.bytes
  have hr := B.returns
  have hta := tl_hta (atoms_spec (ws := tl_w yX12_clock cX12_clock 2 (some .boolean)) B.pre)
  have hown : s.vm.findClass RX12 = some m.cls := findClass_of_methodNamed B.named
  have hlocks := B.notSynchronized
  subst hsz
  have hD := hD0.self (sz := s.heap.size)
  generalize hAe : va_A [(md, .inr (12, [.ref m0, .ref m1, .int 0, .ref m3, .ref m4, .ref m5, .ref m6, .ref m7, .ref m8, .ref m9, .ref m10, .ref m11, .ref m12, .ref m13, .ref m14, .ref m15, .ref m16, .int 0, .int 0, .int 0, .int 0, .int 0, .int 0, .int 0, .ref m24, .int 0, .ref m26, .int 0, .ref m28, .long 0, .ref m30, .ref m31, .int 0, .int 0, .int 0, .ref m35, .ref m36, .int 0, .ref m38, .int 0, .int 0, .ref m41, .ref m42, .ref m43, .ref m44, .ref m45, .ref m46, .ref m47, .ref m48])), (m0, .inl (cy 0, 7666, .inl sd))] s.heap.size = A at hD ⊢
  have hA : ∀ q : Nat, s.heap.size ≤ q → A q := fun q h => by rw [← hAe]; exact Or.inr h
  have hS : va_S A s.heap s.heap [] := va_S.rf
  have hP : va_P D vwCl [(md, .inr (12, [.ref m0, .ref m1, .int 0, .ref m3, .ref m4, .ref m5, .ref m6, .ref m7, .ref m8, .ref m9, .ref m10, .ref m11, .ref m12, .ref m13, .ref m14, .ref m15, .ref m16, .int 0, .int 0, .int 0, .int 0, .int 0, .int 0, .int 0, .ref m24, .int 0, .ref m26, .int 0, .ref m28, .long 0, .ref m30, .ref m31, .int 0, .int 0, .int 0, .ref m35, .ref m36, .int 0, .ref m38, .int 0, .int 0, .ref m41, .ref m42, .ref m43, .ref m44, .ref m45, .ref m46, .ref m47, .ref m48])), (m0, .inl (cy 0, 7666, .inl sd))] s.heap := hP
  have hl := lv_entry ([.ref md, .int p0]) (n := 2) (Nat.le_of_ble_eq_true rfl)
  rw [lg_entry_eq]
  generalize (lg_sl ([.ref md, .int p0]) ++ List.replicate (2 - (lg_sl ([.ref md, .int p0])).length) Slot.unset).toArray = ls at hl ⊢
  have hl : lv_has ls 2 [(0, .ref md), (1, .int p0)] := hl
  refine lv_iload_n hx hb dX12_clock_0 rfl (lv_at hl 1 rfl) ?_
  refine lv_i2l (v := p0.toInt64) hx hb dX12_clock_1 (by first | rfl | decide) ?_
  refine lv_aload_n hx hb dX12_clock_2 rfl (lv_at hl 0 rfl) ?_
  refine va_get (D := D) (ci := 12) (v := .ref m0) (C := RX12) (T := TX12) (N := 49) hx hb hta inlX12 hown hK hP 0 rfl rfl 0 (by decide) (hta _ wk_149) (fun _ h9 => h9) rfl dX12_clock_3 ?_
  refine lv_iconst (v := 0) hx hb dX12_clock_6 (by decide) ?_
  refine va_iald (D := D) hx hb hK hP 1 0 rfl rfl (tl_in (by decide) (by decide)) dX12_clock_7 ?_
  refine W.eq (g2 := F0 m 8 ls ([.int 0, .long p0.toInt64])) (by rw [hsd _ (by decide)]) ?_
  refine lv_i2l (v := 0) hx hb dX12_clock_8 (by first | rfl | decide) ?_
  refine lv_ldc2 (v := 399) hx hb hown (hta _ wk_197) dX12_clock_9 ?_
  have hPc := hP.sub (ws' := []) [] rfl
  have hDc := hD.sub (ws' := []) [] (by decide) rfl
  refine tl_si (tl_rS (As := [.long p0.toInt64, .long 0, .long 399]) (rest := []) ⟨hx, hb, hml, hown, hta⟩ hK hN hPc hDc lk_X12_112 (c_X12_in l D cy s.heap.size p0.toInt64 0 399 ) rfl rfl ⟨Nat.le_of_ble_eq_true rfl, Nat.le_of_ble_eq_true rfl⟩ rfl hl.1 rfl (Nat.le_of_ble_eq_true rfl) dX12_clock_12 ⟨Nat.le_of_ble_eq_true rfl, Nat.le_of_ble_eq_true rfl⟩) (fun r_2 hw_1 => ?_)
  simp only [Int32.toInt_toInt64] at hw_1
  have hw_1 : tl_E r_2 ((0 : Int) ≤ p0.toInt ∧ p0.toInt ≤ (399 : Int)) 1 0 := hw_1
  refine lv_if_ne (tgt := 20) hx hb dX12_clock_15 (by decide) (fun c_3 => ?_) (fun c_3 => ?_)
  · have c_3 := hw_1.t c_3
    refine lv_aload_n hx hb dX12_clock_20 rfl (lv_at hl 0 rfl) ?_
    refine va_get (D := D) (ci := 12) (v := .ref m0) (C := RX12) (T := TX12) (N := 49) hx hb hta inlX12 hown hK hP 0 rfl rfl 0 (by decide) (hta _ wk_149) (fun _ h9 => h9) rfl dX12_clock_21 ?_
    refine lv_iconst (v := 0) hx hb dX12_clock_24 (by decide) ?_
    refine lv_iload_n hx hb dX12_clock_25 rfl (lv_at hl 1 rfl) ?_
    refine va_iast (D := D) hx hb hK hP hD hS 1 0 rfl rfl (tl_in (by decide) (by decide)) dX12_clock_26 (fun H locs hP hD hS => ?_)
    have hP : va_P D vwCl [(md, .inr (12, [.ref m0, .ref m1, .int 0, .ref m3, .ref m4, .ref m5, .ref m6, .ref m7, .ref m8, .ref m9, .ref m10, .ref m11, .ref m12, .ref m13, .ref m14, .ref m15, .ref m16, .int 0, .int 0, .int 0, .int 0, .int 0, .int 0, .int 0, .ref m24, .int 0, .ref m26, .int 0, .ref m28, .long 0, .ref m30, .ref m31, .int 0, .int 0, .int 0, .ref m35, .ref m36, .int 0, .ref m38, .int 0, .int 0, .ref m41, .ref m42, .ref m43, .ref m44, .ref m45, .ref m46, .ref m47, .ref m48])), (m0, .inl (cy 0, 7666, .inl (upd sd (0 : Int32).toNatClampNeg p0)))] H := hP
    have hD : va_D A [(md, .inr (12, [.ref m0, .ref m1, .int 0, .ref m3, .ref m4, .ref m5, .ref m6, .ref m7, .ref m8, .ref m9, .ref m10, .ref m11, .ref m12, .ref m13, .ref m14, .ref m15, .ref m16, .int 0, .int 0, .int 0, .int 0, .int 0, .int 0, .int 0, .ref m24, .int 0, .ref m26, .int 0, .ref m28, .long 0, .ref m30, .ref m31, .int 0, .int 0, .int 0, .ref m35, .ref m36, .int 0, .ref m38, .int 0, .int 0, .ref m41, .ref m42, .ref m43, .ref m44, .ref m45, .ref m46, .ref m47, .ref m48])), (m0, .inl (cy 0, 7666, .inl (upd sd (0 : Int32).toNatClampNeg p0)))] := hD
    generalize (upd sd (0 : Int32).toNatClampNeg p0) = f_4 at hP hD
    refine lv_iconst (v := 1) hx hb dX12_clock_27 (by decide) ?_
    have hP9 := hP.sub (ws' := []) [] rfl
    have hD9 := hD.sub (ws' := []) [] (by decide) rfl
    exact W.zret (ty := .boolean) (v := 1) hx hb hr rfl (fun t ht hW => ⟨⟨_, (), rfl, (Or.inl ⟨by omega, rfl⟩), by rw [ht]; exact hP9, hD9⟩, hS.F ht⟩) hS.2.2 dX12_clock_28
  · have c_3 := hw_1.f c_3
    refine lv_iconst (v := 0) hx hb dX12_clock_18 (by decide) ?_
    have hP9 := hP.sub (ws' := []) [] rfl
    have hD9 := hD.sub (ws' := []) [] (by decide) rfl
    have hS : va_S A s.heap s.heap [] := hS
    exact W.zret (ty := .boolean) (v := 0) hx hb hr rfl (fun t ht hW => ⟨⟨_, (), rfl, (Or.inr ⟨by omega, rfl⟩), by rw [ht]; exact hP9, hD9⟩, hS.F ht⟩) hS.2.2 dX12_clock_19
set_option maxHeartbeats 4000000 in
set_option maxRecDepth 100000 in
theorem c_X12_end (l : Launch) (D : va_G) (cy : Nat → ClassId) (sz : Nat) (md : Nat) (p0 : Int32) (m0 : Nat) (m1 : Nat) (m3 : Nat) (m4 : Nat) (m5 : Nat) (m6 : Nat) (m7 : Nat) (m8 : Nat) (m9 : Nat) (m10 : Nat) (m11 : Nat) (m12 : Nat) (m13 : Nat) (m14 : Nat) (m15 : Nat) (m16 : Nat) (m24 : Nat) (m26 : Nat) (m28 : Nat) (m30 : Nat) (m31 : Nat) (m35 : Nat) (m36 : Nat) (m38 : Nat) (m41 : Nat) (m42 : Nat) (m43 : Nat) (m44 : Nat) (m45 : Nat) (m46 : Nat) (m47 : Nat) (m48 : Nat)  : Met l yX12_end (tl_w yX12_end cX12_end 2 (some .int)) ({ frames := 0, cells := 0, slots := 0, locals := 0 }) (va_Pc [.ref md, .int p0] (tl_P D cy [(md, .inr (12, [.ref m0, .ref m1, .int 0, .ref m3, .ref m4, .ref m5, .ref m6, .ref m7, .ref m8, .ref m9, .ref m10, .ref m11, .ref m12, .ref m13, .ref m14, .ref m15, .ref m16, .int 0, .int 0, .int 0, .int 0, .int 0, .int 0, .int 0, .ref m24, .int 0, .ref m26, .int 0, .ref m28, .long 0, .ref m30, .ref m31, .int 0, .int 0, .int 0, .ref m35, .ref m36, .int 0, .ref m38, .int 0, .int 0, .ref m41, .ref m42, .ref m43, .ref m44, .ref m45, .ref m46, .ref m47, .ref m48]))] sz)) (va_Qi (fun (r : Int32) (u : Unit) => tl_E r (p0.toInt = 0) p0 (-1)) (tl_B D (va_A [(md, .inr (12, [.ref m0, .ref m1, .int 0, .ref m3, .ref m4, .ref m5, .ref m6, .ref m7, .ref m8, .ref m9, .ref m10, .ref m11, .ref m12, .ref m13, .ref m14, .ref m15, .ref m16, .int 0, .int 0, .int 0, .int 0, .int 0, .int 0, .int 0, .ref m24, .int 0, .ref m26, .int 0, .ref m28, .long 0, .ref m30, .ref m31, .int 0, .int 0, .int 0, .ref m35, .ref m36, .int 0, .ref m38, .int 0, .int 0, .ref m41, .ref m42, .ref m43, .ref m44, .ref m45, .ref m46, .ref m47, .ref m48]))] sz) (fun u : Unit => [])) (va_A [(md, .inr (12, [.ref m0, .ref m1, .int 0, .ref m3, .ref m4, .ref m5, .ref m6, .ref m7, .ref m8, .ref m9, .ref m10, .ref m11, .ref m12, .ref m13, .ref m14, .ref m15, .ref m16, .int 0, .int 0, .int 0, .int 0, .int 0, .int 0, .int 0, .ref m24, .int 0, .ref m26, .int 0, .ref m28, .long 0, .ref m30, .ref m31, .int 0, .int 0, .int 0, .ref m35, .ref m36, .int 0, .ref m38, .int 0, .int 0, .ref m41, .ref m42, .ref m43, .ref m44, .ref m45, .ref m46, .ref m47, .ref m48]))] sz)) 0 0 (va_A [(md, .inr (12, [.ref m0, .ref m1, .int 0, .ref m3, .ref m4, .ref m5, .ref m6, .ref m7, .ref m8, .ref m9, .ref m10, .ref m11, .ref m12, .ref m13, .ref m14, .ref m15, .ref m16, .int 0, .int 0, .int 0, .int 0, .int 0, .int 0, .int 0, .ref m24, .int 0, .ref m26, .int 0, .ref m28, .long 0, .ref m30, .ref m31, .int 0, .int 0, .int 0, .ref m35, .ref m36, .int 0, .ref m38, .int 0, .int 0, .ref m41, .ref m42, .ref m43, .ref m44, .ref m45, .ref m46, .ref m47, .ref m48]))] sz) := by
  refine Met.ofW (cc := cX12_end) (maxL := 2) (ret := (some .int)) (by decide) rfl ?_
  intro p e s m args below meth c s₁ B hml hv
  obtain ⟨rfl, hsz, hP, hK, hD0, hN⟩ := hv
  have hx := B.exec
  have hb := B.bytes
  have hr := B.returns
  have hta := tl_hta (atoms_spec (ws := tl_w yX12_end cX12_end 2 (some .int)) B.pre)
  have hown : s.vm.findClass RX12 = some m.cls := findClass_of_methodNamed B.named
  have hlocks := B.notSynchronized
  subst hsz
  have hD := hD0.self (sz := s.heap.size)
  generalize hAe : va_A [(md, .inr (12, [.ref m0, .ref m1, .int 0, .ref m3, .ref m4, .ref m5, .ref m6, .ref m7, .ref m8, .ref m9, .ref m10, .ref m11, .ref m12, .ref m13, .ref m14, .ref m15, .ref m16, .int 0, .int 0, .int 0, .int 0, .int 0, .int 0, .int 0, .ref m24, .int 0, .ref m26, .int 0, .ref m28, .long 0, .ref m30, .ref m31, .int 0, .int 0, .int 0, .ref m35, .ref m36, .int 0, .ref m38, .int 0, .int 0, .ref m41, .ref m42, .ref m43, .ref m44, .ref m45, .ref m46, .ref m47, .ref m48]))] s.heap.size = A at hD ⊢
  have hA : ∀ q : Nat, s.heap.size ≤ q → A q := fun q h => by rw [← hAe]; exact Or.inr h
  have hS : va_S A s.heap s.heap [] := va_S.rf
  have hP : va_P D vwCl [(md, .inr (12, [.ref m0, .ref m1, .int 0, .ref m3, .ref m4, .ref m5, .ref m6, .ref m7, .ref m8, .ref m9, .ref m10, .ref m11, .ref m12, .ref m13, .ref m14, .ref m15, .ref m16, .int 0, .int 0, .int 0, .int 0, .int 0, .int 0, .int 0, .ref m24, .int 0, .ref m26, .int 0, .ref m28, .long 0, .ref m30, .ref m31, .int 0, .int 0, .int 0, .ref m35, .ref m36, .int 0, .ref m38, .int 0, .int 0, .ref m41, .ref m42, .ref m43, .ref m44, .ref m45, .ref m46, .ref m47, .ref m48]))] s.heap := hP
  have hl := lv_entry ([.ref md, .int p0]) (n := 2) (Nat.le_of_ble_eq_true rfl)
  rw [lg_entry_eq]
  generalize (lg_sl ([.ref md, .int p0]) ++ List.replicate (2 - (lg_sl ([.ref md, .int p0])).length) Slot.unset).toArray = ls at hl ⊢
  have hl : lv_has ls 2 [(0, .ref md), (1, .int p0)] := hl
  refine lv_iload_n hx hb dX12_end_0 rfl (lv_at hl 1 rfl) ?_
  refine lv_if_lt (tgt := 12) hx hb dX12_end_1 (by decide) (fun c_1 => ?_) (fun c_1 => ?_)
  · have c_1 : p0.toInt < (0 : Int) := tl_lt c_1
    refine lv_iconst (v := (-1)) hx hb dX12_end_12 (by decide) ?_
    have hP9 := hP.sub (ws' := []) [] rfl
    have hD9 := hD.sub (ws' := []) [] (by decide) rfl
    have hS : va_S A s.heap s.heap [] := hS
    exact W.iret (v := (-1)) hx hb hr (fun t ht hW => ⟨⟨_, (), rfl, (Or.inr ⟨by omega, rfl⟩), by rw [ht]; exact hP9, hD9⟩, hS.F ht⟩) hS.2.2 dX12_end_13
  · have c_1 : (0 : Int) ≤ p0.toInt := tl_nlt c_1
    refine lv_iload_n hx hb dX12_end_4 rfl (lv_at hl 1 rfl) ?_
    refine lv_aload_n hx hb dX12_end_5 rfl (lv_at hl 0 rfl) ?_
    refine va_get (D := D) (ci := 12) (v := .int 0) (C := RX12) (T := TX12) (N := 49) hx hb hta inlX12 hown hK hP 0 rfl rfl 2 (by decide) (hta _ wk_347) (fun _ h9 => h9) rfl dX12_end_6 ?_
    refine lv_icmp_le (tgt := 14) hx hb dX12_end_9 (by decide) (fun c_2 => ?_) (fun c_2 => ?_)
    · have c_2 : p0.toInt ≤ (0 : Int) := tl_le c_2
      refine lv_aload_n hx hb dX12_end_14 rfl (lv_at hl 0 rfl) ?_
      refine lv_iload_n hx hb dX12_end_15 rfl (lv_at hl 1 rfl) ?_
      refine va_put (D := D) (ci := 12) (v := .int p0) (ty := tyX12 2) (C := RX12) (T := TX12) (N := 49) hx hb hta inlX12 tyX12 tyX12_ok nmX12 hown hK hP hD hS 0 rfl rfl 2 (by decide) (hta _ wk_347) (fun _ h9 => h9) rfl (tyX12_ok 2 (by decide)) rfl rfl (Nat.le_of_ble_eq_true rfl) dX12_end_16 (fun H locs hP hD hS => ?_)
      have hP : va_P D vwCl [(md, .inr (12, [.ref m0, .ref m1, .int p0, .ref m3, .ref m4, .ref m5, .ref m6, .ref m7, .ref m8, .ref m9, .ref m10, .ref m11, .ref m12, .ref m13, .ref m14, .ref m15, .ref m16, .int 0, .int 0, .int 0, .int 0, .int 0, .int 0, .int 0, .ref m24, .int 0, .ref m26, .int 0, .ref m28, .long 0, .ref m30, .ref m31, .int 0, .int 0, .int 0, .ref m35, .ref m36, .int 0, .ref m38, .int 0, .int 0, .ref m41, .ref m42, .ref m43, .ref m44, .ref m45, .ref m46, .ref m47, .ref m48]))] H := hP
      have hD : va_D A [(md, .inr (12, [.ref m0, .ref m1, .int p0, .ref m3, .ref m4, .ref m5, .ref m6, .ref m7, .ref m8, .ref m9, .ref m10, .ref m11, .ref m12, .ref m13, .ref m14, .ref m15, .ref m16, .int 0, .int 0, .int 0, .int 0, .int 0, .int 0, .int 0, .ref m24, .int 0, .ref m26, .int 0, .ref m28, .long 0, .ref m30, .ref m31, .int 0, .int 0, .int 0, .ref m35, .ref m36, .int 0, .ref m38, .int 0, .int 0, .ref m41, .ref m42, .ref m43, .ref m44, .ref m45, .ref m46, .ref m47, .ref m48]))] := hD
      refine lv_iload_n hx hb dX12_end_19 rfl (lv_at hl 1 rfl) ?_
      have hP9 := hP.sub (ws' := []) [] rfl
      have hD9 := hD.sub (ws' := []) [] (by decide) rfl
      exact W.iret (v := p0) hx hb hr (fun t ht hW => ⟨⟨_, (), rfl, (by first | exact Or.inl ⟨by omega, rfl⟩ | exact Or.inr ⟨by omega, rfl⟩), by rw [ht]; exact hP9, hD9⟩, hS.F ht⟩) hS.2.2 dX12_end_20
    · have c_2 : (0 : Int) < p0.toInt := tl_nle c_2
      refine lv_iconst (v := (-1)) hx hb dX12_end_12 (by decide) ?_
      have hP9 := hP.sub (ws' := []) [] rfl
      have hD9 := hD.sub (ws' := []) [] (by decide) rfl
      have hS : va_S A s.heap s.heap [] := hS
      exact W.iret (v := (-1)) hx hb hr (fun t ht hW => ⟨⟨_, (), rfl, (Or.inr ⟨by omega, rfl⟩), by rw [ht]; exact hP9, hD9⟩, hS.F ht⟩) hS.2.2 dX12_end_13
set_option maxHeartbeats 4000000 in
set_option maxRecDepth 100000 in
theorem c_X12_told (l : Launch) (D : va_G) (cy : Nat → ClassId) (sz : Nat) (md : Nat) (p0 : Int32) (p1 : Int32) (m0 : Nat) (m1 : Nat) (m3 : Nat) (m4 : Nat) (m5 : Nat) (m6 : Nat) (m7 : Nat) (m8 : Nat) (m9 : Nat) (m10 : Nat) (m11 : Nat) (m12 : Nat) (m13 : Nat) (m14 : Nat) (m15 : Nat) (m16 : Nat) (m24 : Nat) (m26 : Nat) (m28 : Nat) (m30 : Nat) (m31 : Nat) (m35 : Nat) (m36 : Nat) (m38 : Nat) (m41 : Nat) (m42 : Nat) (m43 : Nat) (m44 : Nat) (m45 : Nat) (m46 : Nat) (m47 : Nat) (m48 : Nat) (sd : Nat → Int32) (hsd : ∀ k : Nat, (k < 441 ∨ 7641 ≤ k) → sd k = 0) : Met l yX12_told (tl_w yX12_told cX12_told 4 (some .int)) ({ frames := 1, cells := 0, slots := 0, locals := 25 }) (va_Pc [.ref md, .int p0, .int p1] (tl_P D cy [(md, .inr (12, [.ref m0, .ref m1, .int 0, .ref m3, .ref m4, .ref m5, .ref m6, .ref m7, .ref m8, .ref m9, .ref m10, .ref m11, .ref m12, .ref m13, .ref m14, .ref m15, .ref m16, .int 0, .int 0, .int 0, .int 0, .int 0, .int 0, .int 0, .ref m24, .int 0, .ref m26, .int 0, .ref m28, .long 0, .ref m30, .ref m31, .int 0, .int 0, .int 0, .ref m35, .ref m36, .int 0, .ref m38, .int 0, .int 0, .ref m41, .ref m42, .ref m43, .ref m44, .ref m45, .ref m46, .ref m47, .ref m48])), (m0, .inl (cy 0, 7666, .inl sd))] sz)) (va_Qi (fun (r : Int32) (u : Unit) => tl_E r (0 ≤ p0.toInt ∧ p0.toInt ≤ 3 ∧ 0 ≤ p1.toInt ∧ p1.toInt ≤ 9999) 0 (-1)) (tl_B D (va_A [(md, .inr (12, [.ref m0, .ref m1, .int 0, .ref m3, .ref m4, .ref m5, .ref m6, .ref m7, .ref m8, .ref m9, .ref m10, .ref m11, .ref m12, .ref m13, .ref m14, .ref m15, .ref m16, .int 0, .int 0, .int 0, .int 0, .int 0, .int 0, .int 0, .ref m24, .int 0, .ref m26, .int 0, .ref m28, .long 0, .ref m30, .ref m31, .int 0, .int 0, .int 0, .ref m35, .ref m36, .int 0, .ref m38, .int 0, .int 0, .ref m41, .ref m42, .ref m43, .ref m44, .ref m45, .ref m46, .ref m47, .ref m48])), (m0, .inl (cy 0, 7666, .inl sd))] sz) (fun u : Unit => [])) (va_A [(md, .inr (12, [.ref m0, .ref m1, .int 0, .ref m3, .ref m4, .ref m5, .ref m6, .ref m7, .ref m8, .ref m9, .ref m10, .ref m11, .ref m12, .ref m13, .ref m14, .ref m15, .ref m16, .int 0, .int 0, .int 0, .int 0, .int 0, .int 0, .int 0, .ref m24, .int 0, .ref m26, .int 0, .ref m28, .long 0, .ref m30, .ref m31, .int 0, .int 0, .int 0, .ref m35, .ref m36, .int 0, .ref m38, .int 0, .int 0, .ref m41, .ref m42, .ref m43, .ref m44, .ref m45, .ref m46, .ref m47, .ref m48])), (m0, .inl (cy 0, 7666, .inl sd))] sz)) 0 0 (va_A [(md, .inr (12, [.ref m0, .ref m1, .int 0, .ref m3, .ref m4, .ref m5, .ref m6, .ref m7, .ref m8, .ref m9, .ref m10, .ref m11, .ref m12, .ref m13, .ref m14, .ref m15, .ref m16, .int 0, .int 0, .int 0, .int 0, .int 0, .int 0, .int 0, .ref m24, .int 0, .ref m26, .int 0, .ref m28, .long 0, .ref m30, .ref m31, .int 0, .int 0, .int 0, .ref m35, .ref m36, .int 0, .ref m38, .int 0, .int 0, .ref m41, .ref m42, .ref m43, .ref m44, .ref m45, .ref m46, .ref m47, .ref m48])), (m0, .inl (cy 0, 7666, .inl sd))] sz) := by
  refine Met.ofW (cc := cX12_told) (maxL := 4) (ret := (some .int)) (by decide) rfl ?_
  intro p e s m args below meth c s₁ B hml hv
  obtain ⟨rfl, hsz, hP, hK, hD0, hN⟩ := hv
  have hx := B.exec
  have hb := B.bytes
  have hr := B.returns
  have hta := tl_hta (atoms_spec (ws := tl_w yX12_told cX12_told 4 (some .int)) B.pre)
  have hown : s.vm.findClass RX12 = some m.cls := findClass_of_methodNamed B.named
  have hlocks := B.notSynchronized
  subst hsz
  have hD := hD0.self (sz := s.heap.size)
  generalize hAe : va_A [(md, .inr (12, [.ref m0, .ref m1, .int 0, .ref m3, .ref m4, .ref m5, .ref m6, .ref m7, .ref m8, .ref m9, .ref m10, .ref m11, .ref m12, .ref m13, .ref m14, .ref m15, .ref m16, .int 0, .int 0, .int 0, .int 0, .int 0, .int 0, .int 0, .ref m24, .int 0, .ref m26, .int 0, .ref m28, .long 0, .ref m30, .ref m31, .int 0, .int 0, .int 0, .ref m35, .ref m36, .int 0, .ref m38, .int 0, .int 0, .ref m41, .ref m42, .ref m43, .ref m44, .ref m45, .ref m46, .ref m47, .ref m48])), (m0, .inl (cy 0, 7666, .inl sd))] s.heap.size = A at hD ⊢
  have hA : ∀ q : Nat, s.heap.size ≤ q → A q := fun q h => by rw [← hAe]; exact Or.inr h
  have hS : va_S A s.heap s.heap [] := va_S.rf
  have hP : va_P D vwCl [(md, .inr (12, [.ref m0, .ref m1, .int 0, .ref m3, .ref m4, .ref m5, .ref m6, .ref m7, .ref m8, .ref m9, .ref m10, .ref m11, .ref m12, .ref m13, .ref m14, .ref m15, .ref m16, .int 0, .int 0, .int 0, .int 0, .int 0, .int 0, .int 0, .ref m24, .int 0, .ref m26, .int 0, .ref m28, .long 0, .ref m30, .ref m31, .int 0, .int 0, .int 0, .ref m35, .ref m36, .int 0, .ref m38, .int 0, .int 0, .ref m41, .ref m42, .ref m43, .ref m44, .ref m45, .ref m46, .ref m47, .ref m48])), (m0, .inl (cy 0, 7666, .inl sd))] s.heap := hP
  have hl := lv_entry ([.ref md, .int p0, .int p1]) (n := 4) (Nat.le_of_ble_eq_true rfl)
  rw [lg_entry_eq]
  generalize (lg_sl ([.ref md, .int p0, .int p1]) ++ List.replicate (4 - (lg_sl ([.ref md, .int p0, .int p1])).length) Slot.unset).toArray = ls at hl ⊢
  have hl : lv_has ls 4 [(0, .ref md), (1, .int p0), (2, .int p1)] := hl
  refine lv_iload_n hx hb dX12_told_0 rfl (lv_at hl 1 rfl) ?_
  refine lv_i2l (v := p0.toInt64) hx hb dX12_told_1 (by first | rfl | decide) ?_
  refine lv_lconst (v := 0) hx hb dX12_told_2 (by decide) ?_
  refine lv_ldc2 (v := 3) hx hb hown (hta _ wk_221) dX12_told_3 ?_
  have hPc := hP.sub (ws' := []) [] rfl
  have hDc := hD.sub (ws' := []) [] (by decide) rfl
  refine tl_si (tl_rS (As := [.long p0.toInt64, .long 0, .long 3]) (rest := []) ⟨hx, hb, hml, hown, hta⟩ hK hN hPc hDc lk_X12_112 (c_X12_in l D cy s.heap.size p0.toInt64 0 3 ) rfl rfl ⟨Nat.le_of_ble_eq_true rfl, Nat.le_of_ble_eq_true rfl⟩ rfl hl.1 rfl (Nat.le_of_ble_eq_true rfl) dX12_told_6 ⟨Nat.le_of_ble_eq_true rfl, Nat.le_of_ble_eq_true rfl⟩) (fun r_2 hw_1 => ?_)
  simp only [Int32.toInt_toInt64] at hw_1
  have hw_1 : tl_E r_2 ((0 : Int) ≤ p0.toInt ∧ p0.toInt ≤ (3 : Int)) 1 0 := hw_1
  refine lv_if_eq (tgt := 24) hx hb dX12_told_9 (by decide) (fun c_3 => ?_) (fun c_3 => ?_)
  · have c_3 := hw_1.f c_3
    refine lv_iconst (v := (-1)) hx hb dX12_told_24 (by decide) ?_
    have hP9 := hP.sub (ws' := []) [] rfl
    have hD9 := hD.sub (ws' := []) [] (by decide) rfl
    have hS : va_S A s.heap s.heap [] := hS
    exact W.iret (v := (-1)) hx hb hr (fun t ht hW => ⟨⟨_, (), rfl, (Or.inr ⟨by omega, rfl⟩), by rw [ht]; exact hP9, hD9⟩, hS.F ht⟩) hS.2.2 dX12_told_25
  · have c_3 := hw_1.t c_3
    refine lv_iload_n hx hb dX12_told_12 rfl (lv_at hl 2 rfl) ?_
    refine lv_i2l (v := p1.toInt64) hx hb dX12_told_13 (by first | rfl | decide) ?_
    refine lv_lconst (v := 0) hx hb dX12_told_14 (by decide) ?_
    refine lv_ldc2 (v := 9999) hx hb hown (hta _ wk_302) dX12_told_15 ?_
    have hPc := hP.sub (ws' := []) [] rfl
    have hDc := hD.sub (ws' := []) [] (by decide) rfl
    refine tl_si (tl_rS (As := [.long p1.toInt64, .long 0, .long 9999]) (rest := []) ⟨hx, hb, hml, hown, hta⟩ hK hN hPc hDc lk_X12_112 (c_X12_in l D cy s.heap.size p1.toInt64 0 9999 ) rfl rfl ⟨Nat.le_of_ble_eq_true rfl, Nat.le_of_ble_eq_true rfl⟩ rfl hl.1 rfl (Nat.le_of_ble_eq_true rfl) dX12_told_18 ⟨Nat.le_of_ble_eq_true rfl, Nat.le_of_ble_eq_true rfl⟩) (fun r_5 hw_4 => ?_)
    simp only [Int32.toInt_toInt64] at hw_4
    have hw_4 : tl_E r_5 ((0 : Int) ≤ p1.toInt ∧ p1.toInt ≤ (9999 : Int)) 1 0 := hw_4
    refine lv_if_ne (tgt := 26) hx hb dX12_told_21 (by decide) (fun c_6 => ?_) (fun c_6 => ?_)
    · have c_6 := hw_4.t c_6
      refine lv_aload_n hx hb dX12_told_26 rfl (lv_at hl 0 rfl) ?_
      refine va_get (D := D) (ci := 12) (v := .ref m0) (C := RX12) (T := TX12) (N := 49) hx hb hta inlX12 hown hK hP 0 rfl rfl 0 (by decide) (hta _ wk_149) (fun _ h9 => h9) rfl dX12_told_27 ?_
      refine lv_iconst (v := 5) hx hb dX12_told_30 (by decide) ?_
      refine lv_iload_n hx hb dX12_told_31 rfl (lv_at hl 1 rfl) ?_
      refine lv_iadd hx hb dX12_told_32 ?_
      refine lv_topi (fun z_7 ez_7 => ?_)
      have iz_7 : z_7.toInt = (5 : Int) + p0.toInt := by rw [ez_7]; exact tl_addN 5 p0 rfl rfl (by omega) (by omega)
      refine va_iald (D := D) hx hb hK hP 1 0 rfl rfl (tl_in (by omega) (by omega)) dX12_told_33 ?_
      refine W.eq (g2 := F0 m 34 ls ([.int 0])) (by rw [hsd _ (Or.inl (tl_ltN (by omega)))]) ?_
      refine lv_istore_n (lv' := [(3, .int 0), (0, .ref md), (1, .int p0), (2, .int p1)]) hx hb dX12_told_34 rfl hl (by decide) rfl (fun ls hl => ?_)
      refine lv_aload_n hx hb dX12_told_35 rfl (lv_at hl 1 rfl) ?_
      refine va_get (D := D) (ci := 12) (v := .ref m0) (C := RX12) (T := TX12) (N := 49) hx hb hta inlX12 hown hK hP 0 rfl rfl 0 (by decide) (hta _ wk_149) (fun _ h9 => h9) rfl dX12_told_36 ?_
      refine lv_iconst (v := 5) hx hb dX12_told_39 (by decide) ?_
      refine lv_iload_n hx hb dX12_told_40 rfl (lv_at hl 2 rfl) ?_
      refine lv_iadd hx hb dX12_told_41 ?_
      refine lv_topi (fun z_8 ez_8 => ?_)
      have iz_8 : z_8.toInt = (5 : Int) + p0.toInt := by rw [ez_8]; exact tl_addN 5 p0 rfl rfl (by omega) (by omega)
      refine lv_iload_n hx hb dX12_told_42 rfl (lv_at hl 3 rfl) ?_
      refine va_iast (D := D) hx hb hK hP hD hS 1 0 rfl rfl (tl_in (by omega) (by omega)) dX12_told_43 (fun H locs hP hD hS => ?_)
      have hP : va_P D vwCl [(md, .inr (12, [.ref m0, .ref m1, .int 0, .ref m3, .ref m4, .ref m5, .ref m6, .ref m7, .ref m8, .ref m9, .ref m10, .ref m11, .ref m12, .ref m13, .ref m14, .ref m15, .ref m16, .int 0, .int 0, .int 0, .int 0, .int 0, .int 0, .int 0, .ref m24, .int 0, .ref m26, .int 0, .ref m28, .long 0, .ref m30, .ref m31, .int 0, .int 0, .int 0, .ref m35, .ref m36, .int 0, .ref m38, .int 0, .int 0, .ref m41, .ref m42, .ref m43, .ref m44, .ref m45, .ref m46, .ref m47, .ref m48])), (m0, .inl (cy 0, 7666, .inl (upd sd z_8.toNatClampNeg p1)))] H := hP
      have hD : va_D A [(md, .inr (12, [.ref m0, .ref m1, .int 0, .ref m3, .ref m4, .ref m5, .ref m6, .ref m7, .ref m8, .ref m9, .ref m10, .ref m11, .ref m12, .ref m13, .ref m14, .ref m15, .ref m16, .int 0, .int 0, .int 0, .int 0, .int 0, .int 0, .int 0, .ref m24, .int 0, .ref m26, .int 0, .ref m28, .long 0, .ref m30, .ref m31, .int 0, .int 0, .int 0, .ref m35, .ref m36, .int 0, .ref m38, .int 0, .int 0, .ref m41, .ref m42, .ref m43, .ref m44, .ref m45, .ref m46, .ref m47, .ref m48])), (m0, .inl (cy 0, 7666, .inl (upd sd z_8.toNatClampNeg p1)))] := hD
      generalize (upd sd z_8.toNatClampNeg p1) = f_9 at hP hD
      refine lv_iload_n hx hb dX12_told_44 rfl (lv_at hl 0 rfl) ?_
      have hP9 := hP.sub (ws' := []) [] rfl
      have hD9 := hD.sub (ws' := []) [] (by decide) rfl
      exact W.iret (v := 0) hx hb hr (fun t ht hW => ⟨⟨_, (), rfl, (Or.inl ⟨by omega, rfl⟩), by rw [ht]; exact hP9, hD9⟩, hS.F ht⟩) hS.2.2 dX12_told_45
    · have c_6 := hw_4.f c_6
      refine lv_iconst (v := (-1)) hx hb dX12_told_24 (by decide) ?_
      have hP9 := hP.sub (ws' := []) [] rfl
      have hD9 := hD.sub (ws' := []) [] (by decide) rfl
      have hS : va_S A s.heap s.heap [] := hS
      exact W.iret (v := (-1)) hx hb hr (fun t ht hW => ⟨⟨_, (), rfl, (Or.inr ⟨by omega, rfl⟩), by rw [ht]; exact hP9, hD9⟩, hS.F ht⟩) hS.2.2 dX12_told_25
set_option maxHeartbeats 4000000 in
set_option maxRecDepth 100000 in
theorem c_X12_candidate (l : Launch) (D : va_G) (cy : Nat → ClassId) (sz : Nat) (md : Nat) (p0 : Int32) (p1 : Int32) (m0 : Nat) (m1 : Nat) (m3 : Nat) (m4 : Nat) (m5 : Nat) (m6 : Nat) (m7 : Nat) (m8 : Nat) (m9 : Nat) (m10 : Nat) (m11 : Nat) (m12 : Nat) (m13 : Nat) (m14 : Nat) (m15 : Nat) (m16 : Nat) (m24 : Nat) (m26 : Nat) (m28 : Nat) (m30 : Nat) (m31 : Nat) (m35 : Nat) (m36 : Nat) (m38 : Nat) (m41 : Nat) (m42 : Nat) (m43 : Nat) (m44 : Nat) (m45 : Nat) (m46 : Nat) (m47 : Nat) (m48 : Nat) (sd : Nat → Int32) (hsd : ∀ k : Nat, (k < 441 ∨ 7641 ≤ k) → sd k = 0) : Met l yX12_candidate (tl_w yX12_candidate cX12_candidate 4 (some .int)) ({ frames := 1, cells := 0, slots := 0, locals := 25 }) (va_Pc [.ref md, .int p0, .int p1] (tl_P D cy [(md, .inr (12, [.ref m0, .ref m1, .int 0, .ref m3, .ref m4, .ref m5, .ref m6, .ref m7, .ref m8, .ref m9, .ref m10, .ref m11, .ref m12, .ref m13, .ref m14, .ref m15, .ref m16, .int 0, .int 0, .int 0, .int 0, .int 0, .int 0, .int 0, .ref m24, .int 0, .ref m26, .int 0, .ref m28, .long 0, .ref m30, .ref m31, .int 0, .int 0, .int 0, .ref m35, .ref m36, .int 0, .ref m38, .int 0, .int 0, .ref m41, .ref m42, .ref m43, .ref m44, .ref m45, .ref m46, .ref m47, .ref m48])), (m0, .inl (cy 0, 7666, .inl sd))] sz)) (va_Qi (fun (r : Int32) (u : Unit) => tl_E r (0 ≤ p0.toInt ∧ p0.toInt ≤ 3 ∧ 1 ≤ p1.toInt ∧ p1.toInt ≤ 99) 0 (-1)) (tl_B D (va_A [(md, .inr (12, [.ref m0, .ref m1, .int 0, .ref m3, .ref m4, .ref m5, .ref m6, .ref m7, .ref m8, .ref m9, .ref m10, .ref m11, .ref m12, .ref m13, .ref m14, .ref m15, .ref m16, .int 0, .int 0, .int 0, .int 0, .int 0, .int 0, .int 0, .ref m24, .int 0, .ref m26, .int 0, .ref m28, .long 0, .ref m30, .ref m31, .int 0, .int 0, .int 0, .ref m35, .ref m36, .int 0, .ref m38, .int 0, .int 0, .ref m41, .ref m42, .ref m43, .ref m44, .ref m45, .ref m46, .ref m47, .ref m48])), (m0, .inl (cy 0, 7666, .inl sd))] sz) (fun u : Unit => [])) (va_A [(md, .inr (12, [.ref m0, .ref m1, .int 0, .ref m3, .ref m4, .ref m5, .ref m6, .ref m7, .ref m8, .ref m9, .ref m10, .ref m11, .ref m12, .ref m13, .ref m14, .ref m15, .ref m16, .int 0, .int 0, .int 0, .int 0, .int 0, .int 0, .int 0, .ref m24, .int 0, .ref m26, .int 0, .ref m28, .long 0, .ref m30, .ref m31, .int 0, .int 0, .int 0, .ref m35, .ref m36, .int 0, .ref m38, .int 0, .int 0, .ref m41, .ref m42, .ref m43, .ref m44, .ref m45, .ref m46, .ref m47, .ref m48])), (m0, .inl (cy 0, 7666, .inl sd))] sz)) 0 0 (va_A [(md, .inr (12, [.ref m0, .ref m1, .int 0, .ref m3, .ref m4, .ref m5, .ref m6, .ref m7, .ref m8, .ref m9, .ref m10, .ref m11, .ref m12, .ref m13, .ref m14, .ref m15, .ref m16, .int 0, .int 0, .int 0, .int 0, .int 0, .int 0, .int 0, .ref m24, .int 0, .ref m26, .int 0, .ref m28, .long 0, .ref m30, .ref m31, .int 0, .int 0, .int 0, .ref m35, .ref m36, .int 0, .ref m38, .int 0, .int 0, .ref m41, .ref m42, .ref m43, .ref m44, .ref m45, .ref m46, .ref m47, .ref m48])), (m0, .inl (cy 0, 7666, .inl sd))] sz) := by
  refine Met.ofW (cc := cX12_candidate) (maxL := 4) (ret := (some .int)) (by decide) rfl ?_
  intro p e s m args below meth c s₁ B hml hv
  obtain ⟨rfl, hsz, hP, hK, hD0, hN⟩ := hv
  have hx := B.exec
  have hb := B.bytes
  have hr := B.returns
  have hta := tl_hta (atoms_spec (ws := tl_w yX12_candidate cX12_candidate 4 (some .int)) B.pre)
  have hown : s.vm.findClass RX12 = some m.cls := findClass_of_methodNamed B.named
  have hlocks := B.notSynchronized
  subst hsz
  have hD := hD0.self (sz := s.heap.size)
  generalize hAe : va_A [(md, .inr (12, [.ref m0, .ref m1, .int 0, .ref m3, .ref m4, .ref m5, .ref m6, .ref m7, .ref m8, .ref m9, .ref m10, .ref m11, .ref m12, .ref m13, .ref m14, .ref m15, .ref m16, .int 0, .int 0, .int 0, .int 0, .int 0, .int 0, .int 0, .ref m24, .int 0, .ref m26, .int 0, .ref m28, .long 0, .ref m30, .ref m31, .int 0, .int 0, .int 0, .ref m35, .ref m36, .int 0, .ref m38, .int 0, .int 0, .ref m41, .ref m42, .ref m43, .ref m44, .ref m45, .ref m46, .ref m47, .ref m48])), (m0, .inl (cy 0, 7666, .inl sd))] s.heap.size = A at hD ⊢
  have hA : ∀ q : Nat, s.heap.size ≤ q → A q := fun q h => by rw [← hAe]; exact Or.inr h
  have hS : va_S A s.heap s.heap [] := va_S.rf
  have hP : va_P D vwCl [(md, .inr (12, [.ref m0, .ref m1, .int 0, .ref m3, .ref m4, .ref m5, .ref m6, .ref m7, .ref m8, .ref m9, .ref m10, .ref m11, .ref m12, .ref m13, .ref m14, .ref m15, .ref m16, .int 0, .int 0, .int 0, .int 0, .int 0, .int 0, .int 0, .ref m24, .int 0, .ref m26, .int 0, .ref m28, .long 0, .ref m30, .ref m31, .int 0, .int 0, .int 0, .ref m35, .ref m36, .int 0, .ref m38, .int 0, .int 0, .ref m41, .ref m42, .ref m43, .ref m44, .ref m45, .ref m46, .ref m47, .ref m48])), (m0, .inl (cy 0, 7666, .inl sd))] s.heap := hP
  have hl := lv_entry ([.ref md, .int p0, .int p1]) (n := 4) (Nat.le_of_ble_eq_true rfl)
  rw [lg_entry_eq]
  generalize (lg_sl ([.ref md, .int p0, .int p1]) ++ List.replicate (4 - (lg_sl ([.ref md, .int p0, .int p1])).length) Slot.unset).toArray = ls at hl ⊢
  have hl : lv_has ls 4 [(0, .ref md), (1, .int p0), (2, .int p1)] := hl
  refine lv_aload_n hx hb dX12_candidate_0 rfl (lv_at hl 0 rfl) ?_
  refine va_get (D := D) (ci := 12) (v := .ref m0) (C := RX12) (T := TX12) (N := 49) hx hb hta inlX12 hown hK hP 0 rfl rfl 0 (by decide) (hta _ wk_149) (fun _ h9 => h9) rfl dX12_candidate_1 ?_
  refine lv_iconst (v := 4) hx hb dX12_candidate_4 (by decide) ?_
  refine va_iald (D := D) hx hb hK hP 1 0 rfl rfl (tl_in (by decide) (by decide)) dX12_candidate_5 ?_
  refine W.eq (g2 := F0 m 6 ls ([.int 0])) (by rw [hsd _ (by decide)]) ?_
  refine lv_bipush (v := 10) hx hb dX12_candidate_6 (by decide) ?_
  refine lv_icmp_eq (tgt := 35) hx hb dX12_candidate_8 (by decide) (fun c => absurd c (by decide)) (fun _ => ?_)
  refine lv_iload_n hx hb dX12_candidate_11 rfl (lv_at hl 1 rfl) ?_
  refine lv_i2l (v := p0.toInt64) hx hb dX12_candidate_12 (by first | rfl | decide) ?_
  refine lv_lconst (v := 0) hx hb dX12_candidate_13 (by decide) ?_
  refine lv_ldc2 (v := 3) hx hb hown (hta _ wk_221) dX12_candidate_14 ?_
  have hPc := hP.sub (ws' := []) [] rfl
  have hDc := hD.sub (ws' := []) [] (by decide) rfl
  refine tl_si (tl_rS (As := [.long p0.toInt64, .long 0, .long 3]) (rest := []) ⟨hx, hb, hml, hown, hta⟩ hK hN hPc hDc lk_X12_112 (c_X12_in l D cy s.heap.size p0.toInt64 0 3 ) rfl rfl ⟨Nat.le_of_ble_eq_true rfl, Nat.le_of_ble_eq_true rfl⟩ rfl hl.1 rfl (Nat.le_of_ble_eq_true rfl) dX12_candidate_17 ⟨Nat.le_of_ble_eq_true rfl, Nat.le_of_ble_eq_true rfl⟩) (fun r_2 hw_1 => ?_)
  simp only [Int32.toInt_toInt64] at hw_1
  have hw_1 : tl_E r_2 ((0 : Int) ≤ p0.toInt ∧ p0.toInt ≤ (3 : Int)) 1 0 := hw_1
  refine lv_if_eq (tgt := 35) hx hb dX12_candidate_20 (by decide) (fun c_3 => ?_) (fun c_3 => ?_)
  · have c_3 := hw_1.f c_3
    refine lv_iconst (v := (-1)) hx hb dX12_candidate_35 (by decide) ?_
    have hP9 := hP.sub (ws' := []) [] rfl
    have hD9 := hD.sub (ws' := []) [] (by decide) rfl
    have hS : va_S A s.heap s.heap [] := hS
    exact W.iret (v := (-1)) hx hb hr (fun t ht hW => ⟨⟨_, (), rfl, (Or.inr ⟨by omega, rfl⟩), by rw [ht]; exact hP9, hD9⟩, hS.F ht⟩) hS.2.2 dX12_candidate_36
  · have c_3 := hw_1.t c_3
    refine lv_iload_n hx hb dX12_candidate_23 rfl (lv_at hl 2 rfl) ?_
    refine lv_i2l (v := p1.toInt64) hx hb dX12_candidate_24 (by first | rfl | decide) ?_
    refine lv_lconst (v := 1) hx hb dX12_candidate_25 (by decide) ?_
    refine lv_ldc2 (v := 99) hx hb hown (hta _ wk_1077) dX12_candidate_26 ?_
    have hPc := hP.sub (ws' := []) [] rfl
    have hDc := hD.sub (ws' := []) [] (by decide) rfl
    refine tl_si (tl_rS (As := [.long p1.toInt64, .long 1, .long 99]) (rest := []) ⟨hx, hb, hml, hown, hta⟩ hK hN hPc hDc lk_X12_112 (c_X12_in l D cy s.heap.size p1.toInt64 1 99 ) rfl rfl ⟨Nat.le_of_ble_eq_true rfl, Nat.le_of_ble_eq_true rfl⟩ rfl hl.1 rfl (Nat.le_of_ble_eq_true rfl) dX12_candidate_29 ⟨Nat.le_of_ble_eq_true rfl, Nat.le_of_ble_eq_true rfl⟩) (fun r_5 hw_4 => ?_)
    simp only [Int32.toInt_toInt64] at hw_4
    have hw_4 : tl_E r_5 ((1 : Int) ≤ p1.toInt ∧ p1.toInt ≤ (99 : Int)) 1 0 := hw_4
    refine lv_if_ne (tgt := 37) hx hb dX12_candidate_32 (by decide) (fun c_6 => ?_) (fun c_6 => ?_)
    · have c_6 := hw_4.t c_6
      refine lv_sipush (v := 421) hx hb dX12_candidate_37 (by decide) ?_
      refine lv_iconst (v := 2) hx hb dX12_candidate_40 (by decide) ?_
      refine lv_aload_n hx hb dX12_candidate_41 rfl (lv_at hl 0 rfl) ?_
      refine va_get (D := D) (ci := 12) (v := .ref m0) (C := RX12) (T := TX12) (N := 49) hx hb hta inlX12 hown hK hP 0 rfl rfl 0 (by decide) (hta _ wk_149) (fun _ h9 => h9) rfl dX12_candidate_42 ?_
      refine lv_iconst (v := 4) hx hb dX12_candidate_45 (by decide) ?_
      refine va_iald (D := D) hx hb hK hP 1 0 rfl rfl (tl_in (by decide) (by decide)) dX12_candidate_46 ?_
      refine W.eq (g2 := F0 m 47 ls ([.int 0, .int 2, .int 421])) (by rw [hsd _ (by decide)]) ?_
      refine lv_imul hx hb dX12_candidate_47 ?_
      refine lv_topi (fun z_7 ez_7 => ?_)
      obtain rfl : z_7 = (0 : Int32) := ez_7.trans (by decide)
      refine lv_iadd hx hb dX12_candidate_48 ?_
      refine lv_topi (fun z_8 ez_8 => ?_)
      obtain rfl : z_8 = (421 : Int32) := ez_8.trans (by decide)
      refine lv_istore_n (lv' := [(3, .int 421), (0, .ref md), (1, .int p0), (2, .int p1)]) hx hb dX12_candidate_49 rfl hl (by decide) rfl (fun ls hl => ?_)
      refine lv_aload_n hx hb dX12_candidate_50 rfl (lv_at hl 1 rfl) ?_
      refine va_get (D := D) (ci := 12) (v := .ref m0) (C := RX12) (T := TX12) (N := 49) hx hb hta inlX12 hown hK hP 0 rfl rfl 0 (by decide) (hta _ wk_149) (fun _ h9 => h9) rfl dX12_candidate_51 ?_
      refine lv_iload_n hx hb dX12_candidate_54 rfl (lv_at hl 0 rfl) ?_
      refine lv_iload_n hx hb dX12_candidate_55 rfl (lv_at hl 2 rfl) ?_
      refine va_iast (D := D) hx hb hK hP hD hS 1 0 rfl rfl (tl_in (by decide) (by decide)) dX12_candidate_56 (fun H locs hP hD hS => ?_)
      have hP : va_P D vwCl [(md, .inr (12, [.ref m0, .ref m1, .int 0, .ref m3, .ref m4, .ref m5, .ref m6, .ref m7, .ref m8, .ref m9, .ref m10, .ref m11, .ref m12, .ref m13, .ref m14, .ref m15, .ref m16, .int 0, .int 0, .int 0, .int 0, .int 0, .int 0, .int 0, .ref m24, .int 0, .ref m26, .int 0, .ref m28, .long 0, .ref m30, .ref m31, .int 0, .int 0, .int 0, .ref m35, .ref m36, .int 0, .ref m38, .int 0, .int 0, .ref m41, .ref m42, .ref m43, .ref m44, .ref m45, .ref m46, .ref m47, .ref m48])), (m0, .inl (cy 0, 7666, .inl (upd sd (421 : Int32).toNatClampNeg p0)))] H := hP
      have hD : va_D A [(md, .inr (12, [.ref m0, .ref m1, .int 0, .ref m3, .ref m4, .ref m5, .ref m6, .ref m7, .ref m8, .ref m9, .ref m10, .ref m11, .ref m12, .ref m13, .ref m14, .ref m15, .ref m16, .int 0, .int 0, .int 0, .int 0, .int 0, .int 0, .int 0, .ref m24, .int 0, .ref m26, .int 0, .ref m28, .long 0, .ref m30, .ref m31, .int 0, .int 0, .int 0, .ref m35, .ref m36, .int 0, .ref m38, .int 0, .int 0, .ref m41, .ref m42, .ref m43, .ref m44, .ref m45, .ref m46, .ref m47, .ref m48])), (m0, .inl (cy 0, 7666, .inl (upd sd (421 : Int32).toNatClampNeg p0)))] := hD
      refine lv_aload_n hx hb dX12_candidate_57 rfl (lv_at hl 1 rfl) ?_
      refine va_get (D := D) (ci := 12) (v := .ref m0) (C := RX12) (T := TX12) (N := 49) hx hb hta inlX12 hown hK hP 0 rfl rfl 0 (by decide) (hta _ wk_149) (fun _ h9 => h9) rfl dX12_candidate_58 ?_
      refine lv_iload_n hx hb dX12_candidate_61 rfl (lv_at hl 0 rfl) ?_
      refine lv_iconst (v := 1) hx hb dX12_candidate_62 (by decide) ?_
      refine lv_iadd hx hb dX12_candidate_63 ?_
      refine lv_topi (fun z_9 ez_9 => ?_)
      obtain rfl : z_9 = (422 : Int32) := ez_9.trans (by decide)
      refine lv_iload_n hx hb dX12_candidate_64 rfl (lv_at hl 3 rfl) ?_
      refine va_iast (D := D) hx hb hK hP hD hS 1 0 rfl rfl (tl_in (by decide) (by decide)) dX12_candidate_65 (fun H locs hP hD hS => ?_)
      have hP : va_P D vwCl [(md, .inr (12, [.ref m0, .ref m1, .int 0, .ref m3, .ref m4, .ref m5, .ref m6, .ref m7, .ref m8, .ref m9, .ref m10, .ref m11, .ref m12, .ref m13, .ref m14, .ref m15, .ref m16, .int 0, .int 0, .int 0, .int 0, .int 0, .int 0, .int 0, .ref m24, .int 0, .ref m26, .int 0, .ref m28, .long 0, .ref m30, .ref m31, .int 0, .int 0, .int 0, .ref m35, .ref m36, .int 0, .ref m38, .int 0, .int 0, .ref m41, .ref m42, .ref m43, .ref m44, .ref m45, .ref m46, .ref m47, .ref m48])), (m0, .inl (cy 0, 7666, .inl (upd (upd sd (421 : Int32).toNatClampNeg p0) (422 : Int32).toNatClampNeg p1)))] H := hP
      have hD : va_D A [(md, .inr (12, [.ref m0, .ref m1, .int 0, .ref m3, .ref m4, .ref m5, .ref m6, .ref m7, .ref m8, .ref m9, .ref m10, .ref m11, .ref m12, .ref m13, .ref m14, .ref m15, .ref m16, .int 0, .int 0, .int 0, .int 0, .int 0, .int 0, .int 0, .ref m24, .int 0, .ref m26, .int 0, .ref m28, .long 0, .ref m30, .ref m31, .int 0, .int 0, .int 0, .ref m35, .ref m36, .int 0, .ref m38, .int 0, .int 0, .ref m41, .ref m42, .ref m43, .ref m44, .ref m45, .ref m46, .ref m47, .ref m48])), (m0, .inl (cy 0, 7666, .inl (upd (upd sd (421 : Int32).toNatClampNeg p0) (422 : Int32).toNatClampNeg p1)))] := hD
      refine lv_aload_n hx hb dX12_candidate_66 rfl (lv_at hl 1 rfl) ?_
      refine va_get (D := D) (ci := 12) (v := .ref m0) (C := RX12) (T := TX12) (N := 49) hx hb hta inlX12 hown hK hP 0 rfl rfl 0 (by decide) (hta _ wk_149) (fun _ h9 => h9) rfl dX12_candidate_67 ?_
      refine lv_iconst (v := 4) hx hb dX12_candidate_70 (by decide) ?_
      refine lv_dup2_11 hx hb dX12_candidate_71 rfl rfl ?_
      refine va_iald (D := D) hx hb hK hP 1 0 rfl rfl (tl_in (by decide) (by decide)) dX12_candidate_72 ?_
      refine W.eq (g2 := F0 m 73 ls ([.int 0, .int 4, .ref m0])) (by rw [pk_un (by decide), pk_un (by decide), hsd _ (by decide)]) ?_
      refine lv_iconst (v := 1) hx hb dX12_candidate_73 (by decide) ?_
      refine lv_iadd hx hb dX12_candidate_74 ?_
      refine lv_topi (fun z_10 ez_10 => ?_)
      obtain rfl : z_10 = (1 : Int32) := ez_10.trans (by decide)
      refine va_iast (D := D) hx hb hK hP hD hS 1 0 rfl rfl (tl_in (by decide) (by decide)) dX12_candidate_75 (fun H locs hP hD hS => ?_)
      have hP : va_P D vwCl [(md, .inr (12, [.ref m0, .ref m1, .int 0, .ref m3, .ref m4, .ref m5, .ref m6, .ref m7, .ref m8, .ref m9, .ref m10, .ref m11, .ref m12, .ref m13, .ref m14, .ref m15, .ref m16, .int 0, .int 0, .int 0, .int 0, .int 0, .int 0, .int 0, .ref m24, .int 0, .ref m26, .int 0, .ref m28, .long 0, .ref m30, .ref m31, .int 0, .int 0, .int 0, .ref m35, .ref m36, .int 0, .ref m38, .int 0, .int 0, .ref m41, .ref m42, .ref m43, .ref m44, .ref m45, .ref m46, .ref m47, .ref m48])), (m0, .inl (cy 0, 7666, .inl (upd (upd (upd sd (421 : Int32).toNatClampNeg p0) (422 : Int32).toNatClampNeg p1) (4 : Int32).toNatClampNeg 1)))] H := hP
      have hD : va_D A [(md, .inr (12, [.ref m0, .ref m1, .int 0, .ref m3, .ref m4, .ref m5, .ref m6, .ref m7, .ref m8, .ref m9, .ref m10, .ref m11, .ref m12, .ref m13, .ref m14, .ref m15, .ref m16, .int 0, .int 0, .int 0, .int 0, .int 0, .int 0, .int 0, .ref m24, .int 0, .ref m26, .int 0, .ref m28, .long 0, .ref m30, .ref m31, .int 0, .int 0, .int 0, .ref m35, .ref m36, .int 0, .ref m38, .int 0, .int 0, .ref m41, .ref m42, .ref m43, .ref m44, .ref m45, .ref m46, .ref m47, .ref m48])), (m0, .inl (cy 0, 7666, .inl (upd (upd (upd sd (421 : Int32).toNatClampNeg p0) (422 : Int32).toNatClampNeg p1) (4 : Int32).toNatClampNeg 1)))] := hD
      refine lv_aload_n hx hb dX12_candidate_76 rfl (lv_at hl 1 rfl) ?_
      refine va_get (D := D) (ci := 12) (v := .ref m0) (C := RX12) (T := TX12) (N := 49) hx hb hta inlX12 hown hK hP 0 rfl rfl 0 (by decide) (hta _ wk_149) (fun _ h9 => h9) rfl dX12_candidate_77 ?_
      refine lv_iconst (v := 4) hx hb dX12_candidate_80 (by decide) ?_
      refine va_iald (D := D) hx hb hK hP 1 0 rfl rfl (tl_in (by decide) (by decide)) dX12_candidate_81 ?_
      refine W.eq (g2 := F0 m 82 ls ([.int 1])) (by rw [pk_us]) ?_
      refine lv_iconst (v := 1) hx hb dX12_candidate_82 (by decide) ?_
      refine lv_isub hx hb dX12_candidate_83 ?_
      refine lv_topi (fun z_11 ez_11 => ?_)
      obtain rfl : z_11 = (0 : Int32) := ez_11.trans (by decide)
      have hP9 := hP.sub (ws' := []) [] rfl
      have hD9 := hD.sub (ws' := []) [] (by decide) rfl
      exact W.iret (v := 0) hx hb hr (fun t ht hW => ⟨⟨_, (), rfl, (Or.inl ⟨by omega, rfl⟩), by rw [ht]; exact hP9, hD9⟩, hS.F ht⟩) hS.2.2 dX12_candidate_84
    · have c_6 := hw_4.f c_6
      refine lv_iconst (v := (-1)) hx hb dX12_candidate_35 (by decide) ?_
      have hP9 := hP.sub (ws' := []) [] rfl
      have hD9 := hD.sub (ws' := []) [] (by decide) rfl
      have hS : va_S A s.heap s.heap [] := hS
      exact W.iret (v := (-1)) hx hb hr (fun t ht hW => ⟨⟨_, (), rfl, (Or.inr ⟨by omega, rfl⟩), by rw [ht]; exact hP9, hD9⟩, hS.F ht⟩) hS.2.2 dX12_candidate_36
set_option maxHeartbeats 4000000 in
set_option maxRecDepth 100000 in
theorem c_X12_slip (l : Launch) (D : va_G) (cy : Nat → ClassId) (sz : Nat) (md : Nat) (p0 : Int32) (p1 : Int32) (p2 : Int32) (p3 : Int32) (m0 : Nat) (m1 : Nat) (m3 : Nat) (m4 : Nat) (m5 : Nat) (m6 : Nat) (m7 : Nat) (m8 : Nat) (m9 : Nat) (m10 : Nat) (m11 : Nat) (m12 : Nat) (m13 : Nat) (m14 : Nat) (m15 : Nat) (m16 : Nat) (m24 : Nat) (m26 : Nat) (m28 : Nat) (m30 : Nat) (m31 : Nat) (m35 : Nat) (m36 : Nat) (m38 : Nat) (m41 : Nat) (m42 : Nat) (m43 : Nat) (m44 : Nat) (m45 : Nat) (m46 : Nat) (m47 : Nat) (m48 : Nat) (sd : Nat → Int32) (hsd : ∀ k : Nat, (k < 441 ∨ 7641 ≤ k) → sd k = 0) : Met l yX12_slip (tl_w yX12_slip cX12_slip 6 (some .int)) ({ frames := 1, cells := 0, slots := 0, locals := 25 }) (va_Pc [.ref md, .int p0, .int p1, .int p2, .int p3] (tl_P D cy [(md, .inr (12, [.ref m0, .ref m1, .int 0, .ref m3, .ref m4, .ref m5, .ref m6, .ref m7, .ref m8, .ref m9, .ref m10, .ref m11, .ref m12, .ref m13, .ref m14, .ref m15, .ref m16, .int 0, .int 0, .int 0, .int 0, .int 0, .int 0, .int 0, .ref m24, .int 0, .ref m26, .int 0, .ref m28, .long 0, .ref m30, .ref m31, .int 0, .int 0, .int 0, .ref m35, .ref m36, .int 0, .ref m38, .int 0, .int 0, .ref m41, .ref m42, .ref m43, .ref m44, .ref m45, .ref m46, .ref m47, .ref m48])), (m0, .inl (cy 0, 7666, .inl sd))] sz)) (va_Qi (fun (r : Int32) (u : Unit) => tl_E r (0 ≤ p0.toInt ∧ p0.toInt ≤ 3 ∧ 0 ≤ p1.toInt ∧ p1.toInt ≤ 299 ∧ 0 ≤ p2.toInt ∧ p2.toInt ≤ 299 ∧ p1.toInt ≤ p2.toInt ∧ -9999 ≤ p3.toInt ∧ p3.toInt ≤ 9999) 0 (-1)) (tl_B D (va_A [(md, .inr (12, [.ref m0, .ref m1, .int 0, .ref m3, .ref m4, .ref m5, .ref m6, .ref m7, .ref m8, .ref m9, .ref m10, .ref m11, .ref m12, .ref m13, .ref m14, .ref m15, .ref m16, .int 0, .int 0, .int 0, .int 0, .int 0, .int 0, .int 0, .ref m24, .int 0, .ref m26, .int 0, .ref m28, .long 0, .ref m30, .ref m31, .int 0, .int 0, .int 0, .ref m35, .ref m36, .int 0, .ref m38, .int 0, .int 0, .ref m41, .ref m42, .ref m43, .ref m44, .ref m45, .ref m46, .ref m47, .ref m48])), (m0, .inl (cy 0, 7666, .inl sd))] sz) (fun u : Unit => [])) (va_A [(md, .inr (12, [.ref m0, .ref m1, .int 0, .ref m3, .ref m4, .ref m5, .ref m6, .ref m7, .ref m8, .ref m9, .ref m10, .ref m11, .ref m12, .ref m13, .ref m14, .ref m15, .ref m16, .int 0, .int 0, .int 0, .int 0, .int 0, .int 0, .int 0, .ref m24, .int 0, .ref m26, .int 0, .ref m28, .long 0, .ref m30, .ref m31, .int 0, .int 0, .int 0, .ref m35, .ref m36, .int 0, .ref m38, .int 0, .int 0, .ref m41, .ref m42, .ref m43, .ref m44, .ref m45, .ref m46, .ref m47, .ref m48])), (m0, .inl (cy 0, 7666, .inl sd))] sz)) 0 0 (va_A [(md, .inr (12, [.ref m0, .ref m1, .int 0, .ref m3, .ref m4, .ref m5, .ref m6, .ref m7, .ref m8, .ref m9, .ref m10, .ref m11, .ref m12, .ref m13, .ref m14, .ref m15, .ref m16, .int 0, .int 0, .int 0, .int 0, .int 0, .int 0, .int 0, .ref m24, .int 0, .ref m26, .int 0, .ref m28, .long 0, .ref m30, .ref m31, .int 0, .int 0, .int 0, .ref m35, .ref m36, .int 0, .ref m38, .int 0, .int 0, .ref m41, .ref m42, .ref m43, .ref m44, .ref m45, .ref m46, .ref m47, .ref m48])), (m0, .inl (cy 0, 7666, .inl sd))] sz) := by
  refine Met.ofW (cc := cX12_slip) (maxL := 6) (ret := (some .int)) (by decide) rfl ?_
  intro p e s m args below meth c s₁ B hml hv
  obtain ⟨rfl, hsz, hP, hK, hD0, hN⟩ := hv
  have hx := B.exec
  have hb := B.bytes
  have hr := B.returns
  have hta := tl_hta (atoms_spec (ws := tl_w yX12_slip cX12_slip 6 (some .int)) B.pre)
  have hown : s.vm.findClass RX12 = some m.cls := findClass_of_methodNamed B.named
  have hlocks := B.notSynchronized
  subst hsz
  have hD := hD0.self (sz := s.heap.size)
  generalize hAe : va_A [(md, .inr (12, [.ref m0, .ref m1, .int 0, .ref m3, .ref m4, .ref m5, .ref m6, .ref m7, .ref m8, .ref m9, .ref m10, .ref m11, .ref m12, .ref m13, .ref m14, .ref m15, .ref m16, .int 0, .int 0, .int 0, .int 0, .int 0, .int 0, .int 0, .ref m24, .int 0, .ref m26, .int 0, .ref m28, .long 0, .ref m30, .ref m31, .int 0, .int 0, .int 0, .ref m35, .ref m36, .int 0, .ref m38, .int 0, .int 0, .ref m41, .ref m42, .ref m43, .ref m44, .ref m45, .ref m46, .ref m47, .ref m48])), (m0, .inl (cy 0, 7666, .inl sd))] s.heap.size = A at hD ⊢
  have hA : ∀ q : Nat, s.heap.size ≤ q → A q := fun q h => by rw [← hAe]; exact Or.inr h
  have hS : va_S A s.heap s.heap [] := va_S.rf
  have hP : va_P D vwCl [(md, .inr (12, [.ref m0, .ref m1, .int 0, .ref m3, .ref m4, .ref m5, .ref m6, .ref m7, .ref m8, .ref m9, .ref m10, .ref m11, .ref m12, .ref m13, .ref m14, .ref m15, .ref m16, .int 0, .int 0, .int 0, .int 0, .int 0, .int 0, .int 0, .ref m24, .int 0, .ref m26, .int 0, .ref m28, .long 0, .ref m30, .ref m31, .int 0, .int 0, .int 0, .ref m35, .ref m36, .int 0, .ref m38, .int 0, .int 0, .ref m41, .ref m42, .ref m43, .ref m44, .ref m45, .ref m46, .ref m47, .ref m48])), (m0, .inl (cy 0, 7666, .inl sd))] s.heap := hP
  have hl := lv_entry ([.ref md, .int p0, .int p1, .int p2, .int p3]) (n := 6) (Nat.le_of_ble_eq_true rfl)
  rw [lg_entry_eq]
  generalize (lg_sl ([.ref md, .int p0, .int p1, .int p2, .int p3]) ++ List.replicate (6 - (lg_sl ([.ref md, .int p0, .int p1, .int p2, .int p3])).length) Slot.unset).toArray = ls at hl ⊢
  have hl : lv_has ls 6 [(0, .ref md), (1, .int p0), (2, .int p1), (3, .int p2), (4, .int p3)] := hl
  refine lv_aload_n hx hb dX12_slip_0 rfl (lv_at hl 0 rfl) ?_
  refine va_get (D := D) (ci := 12) (v := .ref m0) (C := RX12) (T := TX12) (N := 49) hx hb hta inlX12 hown hK hP 0 rfl rfl 0 (by decide) (hta _ wk_149) (fun _ h9 => h9) rfl dX12_slip_1 ?_
  refine lv_iconst (v := 2) hx hb dX12_slip_4 (by decide) ?_
  refine va_iald (D := D) hx hb hK hP 1 0 rfl rfl (tl_in (by decide) (by decide)) dX12_slip_5 ?_
  refine W.eq (g2 := F0 m 6 ls ([.int 0])) (by rw [hsd _ (by decide)]) ?_
  refine lv_bipush (v := 40) hx hb dX12_slip_6 (by decide) ?_
  refine lv_icmp_eq (tgt := 57) hx hb dX12_slip_8 (by decide) (fun c => absurd c (by decide)) (fun _ => ?_)
  refine lv_iload_n hx hb dX12_slip_11 rfl (lv_at hl 1 rfl) ?_
  refine lv_i2l (v := p0.toInt64) hx hb dX12_slip_12 (by first | rfl | decide) ?_
  refine lv_lconst (v := 0) hx hb dX12_slip_13 (by decide) ?_
  refine lv_ldc2 (v := 3) hx hb hown (hta _ wk_221) dX12_slip_14 ?_
  have hPc := hP.sub (ws' := []) [] rfl
  have hDc := hD.sub (ws' := []) [] (by decide) rfl
  refine tl_si (tl_rS (As := [.long p0.toInt64, .long 0, .long 3]) (rest := []) ⟨hx, hb, hml, hown, hta⟩ hK hN hPc hDc lk_X12_112 (c_X12_in l D cy s.heap.size p0.toInt64 0 3 ) rfl rfl ⟨Nat.le_of_ble_eq_true rfl, Nat.le_of_ble_eq_true rfl⟩ rfl hl.1 rfl (Nat.le_of_ble_eq_true rfl) dX12_slip_17 ⟨Nat.le_of_ble_eq_true rfl, Nat.le_of_ble_eq_true rfl⟩) (fun r_2 hw_1 => ?_)
  simp only [Int32.toInt_toInt64] at hw_1
  have hw_1 : tl_E r_2 ((0 : Int) ≤ p0.toInt ∧ p0.toInt ≤ (3 : Int)) 1 0 := hw_1
  refine lv_if_eq (tgt := 57) hx hb dX12_slip_20 (by decide) (fun c_3 => ?_) (fun c_3 => ?_)
  · have c_3 := hw_1.f c_3
    refine lv_iconst (v := (-1)) hx hb dX12_slip_57 (by decide) ?_
    have hP9 := hP.sub (ws' := []) [] rfl
    have hD9 := hD.sub (ws' := []) [] (by decide) rfl
    have hS : va_S A s.heap s.heap [] := hS
    exact W.iret (v := (-1)) hx hb hr (fun t ht hW => ⟨⟨_, (), rfl, (Or.inr ⟨by omega, rfl⟩), by rw [ht]; exact hP9, hD9⟩, hS.F ht⟩) hS.2.2 dX12_slip_58
  · have c_3 := hw_1.t c_3
    refine lv_iload_n hx hb dX12_slip_23 rfl (lv_at hl 2 rfl) ?_
    have hPc := hP.sub (ws' := []) [] rfl
    have hDc := hD.sub (ws' := []) [] (by decide) rfl
    refine tl_si (tl_rS (As := [.int p1]) (rest := []) ⟨hx, hb, hml, hown, hta⟩ hK hN hPc hDc lk_X12_124 (c_X12_isColour l D cy s.heap.size p1 ) rfl rfl ⟨Nat.le_of_ble_eq_true rfl, Nat.le_of_ble_eq_true rfl⟩ rfl hl.1 rfl (Nat.le_of_ble_eq_true rfl) dX12_slip_24 ⟨Nat.le_of_ble_eq_true rfl, Nat.le_of_ble_eq_true rfl⟩) (fun r_5 hw_4 => ?_)
    have hw_4 : tl_E r_5 (0 ≤ p1.toInt ∧ p1.toInt ≤ 299) 1 0 := hw_4
    refine lv_if_eq (tgt := 57) hx hb dX12_slip_27 (by decide) (fun c_6 => ?_) (fun c_6 => ?_)
    · have c_6 := hw_4.f c_6
      refine lv_iconst (v := (-1)) hx hb dX12_slip_57 (by decide) ?_
      have hP9 := hP.sub (ws' := []) [] rfl
      have hD9 := hD.sub (ws' := []) [] (by decide) rfl
      have hS : va_S A s.heap s.heap [] := hS
      exact W.iret (v := (-1)) hx hb hr (fun t ht hW => ⟨⟨_, (), rfl, (Or.inr ⟨by omega, rfl⟩), by rw [ht]; exact hP9, hD9⟩, hS.F ht⟩) hS.2.2 dX12_slip_58
    · have c_6 := hw_4.t c_6
      refine lv_iload_n hx hb dX12_slip_30 rfl (lv_at hl 3 rfl) ?_
      have hPc := hP.sub (ws' := []) [] rfl
      have hDc := hD.sub (ws' := []) [] (by decide) rfl
      refine tl_si (tl_rS (As := [.int p2]) (rest := []) ⟨hx, hb, hml, hown, hta⟩ hK hN hPc hDc lk_X12_124 (c_X12_isColour l D cy s.heap.size p2 ) rfl rfl ⟨Nat.le_of_ble_eq_true rfl, Nat.le_of_ble_eq_true rfl⟩ rfl hl.1 rfl (Nat.le_of_ble_eq_true rfl) dX12_slip_31 ⟨Nat.le_of_ble_eq_true rfl, Nat.le_of_ble_eq_true rfl⟩) (fun r_8 hw_7 => ?_)
      have hw_7 : tl_E r_8 (0 ≤ p2.toInt ∧ p2.toInt ≤ 299) 1 0 := hw_7
      refine lv_if_eq (tgt := 57) hx hb dX12_slip_34 (by decide) (fun c_9 => ?_) (fun c_9 => ?_)
      · have c_9 := hw_7.f c_9
        refine lv_iconst (v := (-1)) hx hb dX12_slip_57 (by decide) ?_
        have hP9 := hP.sub (ws' := []) [] rfl
        have hD9 := hD.sub (ws' := []) [] (by decide) rfl
        have hS : va_S A s.heap s.heap [] := hS
        exact W.iret (v := (-1)) hx hb hr (fun t ht hW => ⟨⟨_, (), rfl, (Or.inr ⟨by omega, rfl⟩), by rw [ht]; exact hP9, hD9⟩, hS.F ht⟩) hS.2.2 dX12_slip_58
      · have c_9 := hw_7.t c_9
        refine lv_iload_n hx hb dX12_slip_37 rfl (lv_at hl 3 rfl) ?_
        refine lv_iload_n hx hb dX12_slip_38 rfl (lv_at hl 2 rfl) ?_
        refine lv_icmp_lt (tgt := 57) hx hb dX12_slip_39 (by decide) (fun c_10 => ?_) (fun c_10 => ?_)
        · have c_10 : p2.toInt < p1.toInt := tl_lt c_10
          refine lv_iconst (v := (-1)) hx hb dX12_slip_57 (by decide) ?_
          have hP9 := hP.sub (ws' := []) [] rfl
          have hD9 := hD.sub (ws' := []) [] (by decide) rfl
          have hS : va_S A s.heap s.heap [] := hS
          exact W.iret (v := (-1)) hx hb hr (fun t ht hW => ⟨⟨_, (), rfl, (Or.inr ⟨by omega, rfl⟩), by rw [ht]; exact hP9, hD9⟩, hS.F ht⟩) hS.2.2 dX12_slip_58
        · have c_10 : p1.toInt ≤ p2.toInt := tl_nlt c_10
          refine lv_iload hx hb dX12_slip_42 (lv_at hl 4 rfl) ?_
          refine lv_i2l (v := p3.toInt64) hx hb dX12_slip_44 (by first | rfl | decide) ?_
          refine lv_ldc2 (v := (-9999)) hx hb hown (hta _ wk_301) dX12_slip_45 ?_
          refine lv_ldc2 (v := 9999) hx hb hown (hta _ wk_302) dX12_slip_48 ?_
          have hPc := hP.sub (ws' := []) [] rfl
          have hDc := hD.sub (ws' := []) [] (by decide) rfl
          refine tl_si (tl_rS (As := [.long p3.toInt64, .long (-9999), .long 9999]) (rest := []) ⟨hx, hb, hml, hown, hta⟩ hK hN hPc hDc lk_X12_112 (c_X12_in l D cy s.heap.size p3.toInt64 (-9999) 9999 ) rfl rfl ⟨Nat.le_of_ble_eq_true rfl, Nat.le_of_ble_eq_true rfl⟩ rfl hl.1 rfl (Nat.le_of_ble_eq_true rfl) dX12_slip_51 ⟨Nat.le_of_ble_eq_true rfl, Nat.le_of_ble_eq_true rfl⟩) (fun r_12 hw_11 => ?_)
          simp only [Int32.toInt_toInt64] at hw_11
          have hw_11 : tl_E r_12 ((-9999 : Int) ≤ p3.toInt ∧ p3.toInt ≤ (9999 : Int)) 1 0 := hw_11
          refine lv_if_ne (tgt := 59) hx hb dX12_slip_54 (by decide) (fun c_13 => ?_) (fun c_13 => ?_)
          · have c_13 := hw_11.t c_13
            refine lv_bipush (v := 81) hx hb dX12_slip_59 (by decide) ?_
            refine lv_iconst (v := 4) hx hb dX12_slip_61 (by decide) ?_
            refine lv_aload_n hx hb dX12_slip_62 rfl (lv_at hl 0 rfl) ?_
            refine va_get (D := D) (ci := 12) (v := .ref m0) (C := RX12) (T := TX12) (N := 49) hx hb hta inlX12 hown hK hP 0 rfl rfl 0 (by decide) (hta _ wk_149) (fun _ h9 => h9) rfl dX12_slip_63 ?_
            refine lv_iconst (v := 2) hx hb dX12_slip_66 (by decide) ?_
            refine va_iald (D := D) hx hb hK hP 1 0 rfl rfl (tl_in (by decide) (by decide)) dX12_slip_67 ?_
            refine W.eq (g2 := F0 m 68 ls ([.int 0, .int 4, .int 81])) (by rw [hsd _ (by decide)]) ?_
            refine lv_imul hx hb dX12_slip_68 ?_
            refine lv_topi (fun z_14 ez_14 => ?_)
            obtain rfl : z_14 = (0 : Int32) := ez_14.trans (by decide)
            refine lv_iadd hx hb dX12_slip_69 ?_
            refine lv_topi (fun z_15 ez_15 => ?_)
            obtain rfl : z_15 = (81 : Int32) := ez_15.trans (by decide)
            refine lv_istore (lv' := [(5, .int 81), (0, .ref md), (1, .int p0), (2, .int p1), (3, .int p2), (4, .int p3)]) hx hb dX12_slip_70 hl (by decide) rfl (fun ls hl => ?_)
            refine lv_aload_n hx hb dX12_slip_72 rfl (lv_at hl 1 rfl) ?_
            refine va_get (D := D) (ci := 12) (v := .ref m0) (C := RX12) (T := TX12) (N := 49) hx hb hta inlX12 hown hK hP 0 rfl rfl 0 (by decide) (hta _ wk_149) (fun _ h9 => h9) rfl dX12_slip_73 ?_
            refine lv_iload hx hb dX12_slip_76 (lv_at hl 0 rfl) ?_
            refine lv_iload_n hx hb dX12_slip_78 rfl (lv_at hl 2 rfl) ?_
            refine va_iast (D := D) hx hb hK hP hD hS 1 0 rfl rfl (tl_in (by decide) (by decide)) dX12_slip_79 (fun H locs hP hD hS => ?_)
            have hP : va_P D vwCl [(md, .inr (12, [.ref m0, .ref m1, .int 0, .ref m3, .ref m4, .ref m5, .ref m6, .ref m7, .ref m8, .ref m9, .ref m10, .ref m11, .ref m12, .ref m13, .ref m14, .ref m15, .ref m16, .int 0, .int 0, .int 0, .int 0, .int 0, .int 0, .int 0, .ref m24, .int 0, .ref m26, .int 0, .ref m28, .long 0, .ref m30, .ref m31, .int 0, .int 0, .int 0, .ref m35, .ref m36, .int 0, .ref m38, .int 0, .int 0, .ref m41, .ref m42, .ref m43, .ref m44, .ref m45, .ref m46, .ref m47, .ref m48])), (m0, .inl (cy 0, 7666, .inl (upd sd (81 : Int32).toNatClampNeg p0)))] H := hP
            have hD : va_D A [(md, .inr (12, [.ref m0, .ref m1, .int 0, .ref m3, .ref m4, .ref m5, .ref m6, .ref m7, .ref m8, .ref m9, .ref m10, .ref m11, .ref m12, .ref m13, .ref m14, .ref m15, .ref m16, .int 0, .int 0, .int 0, .int 0, .int 0, .int 0, .int 0, .ref m24, .int 0, .ref m26, .int 0, .ref m28, .long 0, .ref m30, .ref m31, .int 0, .int 0, .int 0, .ref m35, .ref m36, .int 0, .ref m38, .int 0, .int 0, .ref m41, .ref m42, .ref m43, .ref m44, .ref m45, .ref m46, .ref m47, .ref m48])), (m0, .inl (cy 0, 7666, .inl (upd sd (81 : Int32).toNatClampNeg p0)))] := hD
            refine lv_aload_n hx hb dX12_slip_80 rfl (lv_at hl 1 rfl) ?_
            refine va_get (D := D) (ci := 12) (v := .ref m0) (C := RX12) (T := TX12) (N := 49) hx hb hta inlX12 hown hK hP 0 rfl rfl 0 (by decide) (hta _ wk_149) (fun _ h9 => h9) rfl dX12_slip_81 ?_
            refine lv_iload hx hb dX12_slip_84 (lv_at hl 0 rfl) ?_
            refine lv_iconst (v := 1) hx hb dX12_slip_86 (by decide) ?_
            refine lv_iadd hx hb dX12_slip_87 ?_
            refine lv_topi (fun z_16 ez_16 => ?_)
            obtain rfl : z_16 = (82 : Int32) := ez_16.trans (by decide)
            refine lv_iload_n hx hb dX12_slip_88 rfl (lv_at hl 3 rfl) ?_
            refine va_iast (D := D) hx hb hK hP hD hS 1 0 rfl rfl (tl_in (by decide) (by decide)) dX12_slip_89 (fun H locs hP hD hS => ?_)
            have hP : va_P D vwCl [(md, .inr (12, [.ref m0, .ref m1, .int 0, .ref m3, .ref m4, .ref m5, .ref m6, .ref m7, .ref m8, .ref m9, .ref m10, .ref m11, .ref m12, .ref m13, .ref m14, .ref m15, .ref m16, .int 0, .int 0, .int 0, .int 0, .int 0, .int 0, .int 0, .ref m24, .int 0, .ref m26, .int 0, .ref m28, .long 0, .ref m30, .ref m31, .int 0, .int 0, .int 0, .ref m35, .ref m36, .int 0, .ref m38, .int 0, .int 0, .ref m41, .ref m42, .ref m43, .ref m44, .ref m45, .ref m46, .ref m47, .ref m48])), (m0, .inl (cy 0, 7666, .inl (upd (upd sd (81 : Int32).toNatClampNeg p0) (82 : Int32).toNatClampNeg p1)))] H := hP
            have hD : va_D A [(md, .inr (12, [.ref m0, .ref m1, .int 0, .ref m3, .ref m4, .ref m5, .ref m6, .ref m7, .ref m8, .ref m9, .ref m10, .ref m11, .ref m12, .ref m13, .ref m14, .ref m15, .ref m16, .int 0, .int 0, .int 0, .int 0, .int 0, .int 0, .int 0, .ref m24, .int 0, .ref m26, .int 0, .ref m28, .long 0, .ref m30, .ref m31, .int 0, .int 0, .int 0, .ref m35, .ref m36, .int 0, .ref m38, .int 0, .int 0, .ref m41, .ref m42, .ref m43, .ref m44, .ref m45, .ref m46, .ref m47, .ref m48])), (m0, .inl (cy 0, 7666, .inl (upd (upd sd (81 : Int32).toNatClampNeg p0) (82 : Int32).toNatClampNeg p1)))] := hD
            refine lv_aload_n hx hb dX12_slip_90 rfl (lv_at hl 1 rfl) ?_
            refine va_get (D := D) (ci := 12) (v := .ref m0) (C := RX12) (T := TX12) (N := 49) hx hb hta inlX12 hown hK hP 0 rfl rfl 0 (by decide) (hta _ wk_149) (fun _ h9 => h9) rfl dX12_slip_91 ?_
            refine lv_iload hx hb dX12_slip_94 (lv_at hl 0 rfl) ?_
            refine lv_iconst (v := 2) hx hb dX12_slip_96 (by decide) ?_
            refine lv_iadd hx hb dX12_slip_97 ?_
            refine lv_topi (fun z_17 ez_17 => ?_)
            obtain rfl : z_17 = (83 : Int32) := ez_17.trans (by decide)
            refine lv_iload_n hx hb dX12_slip_98 rfl (lv_at hl 4 rfl) ?_
            refine va_iast (D := D) hx hb hK hP hD hS 1 0 rfl rfl (tl_in (by decide) (by decide)) dX12_slip_99 (fun H locs hP hD hS => ?_)
            have hP : va_P D vwCl [(md, .inr (12, [.ref m0, .ref m1, .int 0, .ref m3, .ref m4, .ref m5, .ref m6, .ref m7, .ref m8, .ref m9, .ref m10, .ref m11, .ref m12, .ref m13, .ref m14, .ref m15, .ref m16, .int 0, .int 0, .int 0, .int 0, .int 0, .int 0, .int 0, .ref m24, .int 0, .ref m26, .int 0, .ref m28, .long 0, .ref m30, .ref m31, .int 0, .int 0, .int 0, .ref m35, .ref m36, .int 0, .ref m38, .int 0, .int 0, .ref m41, .ref m42, .ref m43, .ref m44, .ref m45, .ref m46, .ref m47, .ref m48])), (m0, .inl (cy 0, 7666, .inl (upd (upd (upd sd (81 : Int32).toNatClampNeg p0) (82 : Int32).toNatClampNeg p1) (83 : Int32).toNatClampNeg p2)))] H := hP
            have hD : va_D A [(md, .inr (12, [.ref m0, .ref m1, .int 0, .ref m3, .ref m4, .ref m5, .ref m6, .ref m7, .ref m8, .ref m9, .ref m10, .ref m11, .ref m12, .ref m13, .ref m14, .ref m15, .ref m16, .int 0, .int 0, .int 0, .int 0, .int 0, .int 0, .int 0, .ref m24, .int 0, .ref m26, .int 0, .ref m28, .long 0, .ref m30, .ref m31, .int 0, .int 0, .int 0, .ref m35, .ref m36, .int 0, .ref m38, .int 0, .int 0, .ref m41, .ref m42, .ref m43, .ref m44, .ref m45, .ref m46, .ref m47, .ref m48])), (m0, .inl (cy 0, 7666, .inl (upd (upd (upd sd (81 : Int32).toNatClampNeg p0) (82 : Int32).toNatClampNeg p1) (83 : Int32).toNatClampNeg p2)))] := hD
            refine lv_aload_n hx hb dX12_slip_100 rfl (lv_at hl 1 rfl) ?_
            refine va_get (D := D) (ci := 12) (v := .ref m0) (C := RX12) (T := TX12) (N := 49) hx hb hta inlX12 hown hK hP 0 rfl rfl 0 (by decide) (hta _ wk_149) (fun _ h9 => h9) rfl dX12_slip_101 ?_
            refine lv_iload hx hb dX12_slip_104 (lv_at hl 0 rfl) ?_
            refine lv_iconst (v := 3) hx hb dX12_slip_106 (by decide) ?_
            refine lv_iadd hx hb dX12_slip_107 ?_
            refine lv_topi (fun z_18 ez_18 => ?_)
            obtain rfl : z_18 = (84 : Int32) := ez_18.trans (by decide)
            refine lv_iload hx hb dX12_slip_108 (lv_at hl 5 rfl) ?_
            refine va_iast (D := D) hx hb hK hP hD hS 1 0 rfl rfl (tl_in (by decide) (by decide)) dX12_slip_110 (fun H locs hP hD hS => ?_)
            have hP : va_P D vwCl [(md, .inr (12, [.ref m0, .ref m1, .int 0, .ref m3, .ref m4, .ref m5, .ref m6, .ref m7, .ref m8, .ref m9, .ref m10, .ref m11, .ref m12, .ref m13, .ref m14, .ref m15, .ref m16, .int 0, .int 0, .int 0, .int 0, .int 0, .int 0, .int 0, .ref m24, .int 0, .ref m26, .int 0, .ref m28, .long 0, .ref m30, .ref m31, .int 0, .int 0, .int 0, .ref m35, .ref m36, .int 0, .ref m38, .int 0, .int 0, .ref m41, .ref m42, .ref m43, .ref m44, .ref m45, .ref m46, .ref m47, .ref m48])), (m0, .inl (cy 0, 7666, .inl (upd (upd (upd (upd sd (81 : Int32).toNatClampNeg p0) (82 : Int32).toNatClampNeg p1) (83 : Int32).toNatClampNeg p2) (84 : Int32).toNatClampNeg p3)))] H := hP
            have hD : va_D A [(md, .inr (12, [.ref m0, .ref m1, .int 0, .ref m3, .ref m4, .ref m5, .ref m6, .ref m7, .ref m8, .ref m9, .ref m10, .ref m11, .ref m12, .ref m13, .ref m14, .ref m15, .ref m16, .int 0, .int 0, .int 0, .int 0, .int 0, .int 0, .int 0, .ref m24, .int 0, .ref m26, .int 0, .ref m28, .long 0, .ref m30, .ref m31, .int 0, .int 0, .int 0, .ref m35, .ref m36, .int 0, .ref m38, .int 0, .int 0, .ref m41, .ref m42, .ref m43, .ref m44, .ref m45, .ref m46, .ref m47, .ref m48])), (m0, .inl (cy 0, 7666, .inl (upd (upd (upd (upd sd (81 : Int32).toNatClampNeg p0) (82 : Int32).toNatClampNeg p1) (83 : Int32).toNatClampNeg p2) (84 : Int32).toNatClampNeg p3)))] := hD
            refine lv_aload_n hx hb dX12_slip_111 rfl (lv_at hl 1 rfl) ?_
            refine va_get (D := D) (ci := 12) (v := .ref m0) (C := RX12) (T := TX12) (N := 49) hx hb hta inlX12 hown hK hP 0 rfl rfl 0 (by decide) (hta _ wk_149) (fun _ h9 => h9) rfl dX12_slip_112 ?_
            refine lv_iconst (v := 2) hx hb dX12_slip_115 (by decide) ?_
            refine lv_dup2_11 hx hb dX12_slip_116 rfl rfl ?_
            refine va_iald (D := D) hx hb hK hP 1 0 rfl rfl (tl_in (by decide) (by decide)) dX12_slip_117 ?_
            refine W.eq (g2 := F0 m 118 ls ([.int 0, .int 2, .ref m0])) (by rw [pk_un (by decide), pk_un (by decide), pk_un (by decide), pk_un (by decide), hsd _ (by decide)]) ?_
            refine lv_iconst (v := 1) hx hb dX12_slip_118 (by decide) ?_
            refine lv_iadd hx hb dX12_slip_119 ?_
            refine lv_topi (fun z_19 ez_19 => ?_)
            obtain rfl : z_19 = (1 : Int32) := ez_19.trans (by decide)
            refine va_iast (D := D) hx hb hK hP hD hS 1 0 rfl rfl (tl_in (by decide) (by decide)) dX12_slip_120 (fun H locs hP hD hS => ?_)
            have hP : va_P D vwCl [(md, .inr (12, [.ref m0, .ref m1, .int 0, .ref m3, .ref m4, .ref m5, .ref m6, .ref m7, .ref m8, .ref m9, .ref m10, .ref m11, .ref m12, .ref m13, .ref m14, .ref m15, .ref m16, .int 0, .int 0, .int 0, .int 0, .int 0, .int 0, .int 0, .ref m24, .int 0, .ref m26, .int 0, .ref m28, .long 0, .ref m30, .ref m31, .int 0, .int 0, .int 0, .ref m35, .ref m36, .int 0, .ref m38, .int 0, .int 0, .ref m41, .ref m42, .ref m43, .ref m44, .ref m45, .ref m46, .ref m47, .ref m48])), (m0, .inl (cy 0, 7666, .inl (upd (upd (upd (upd (upd sd (81 : Int32).toNatClampNeg p0) (82 : Int32).toNatClampNeg p1) (83 : Int32).toNatClampNeg p2) (84 : Int32).toNatClampNeg p3) (2 : Int32).toNatClampNeg 1)))] H := hP
            have hD : va_D A [(md, .inr (12, [.ref m0, .ref m1, .int 0, .ref m3, .ref m4, .ref m5, .ref m6, .ref m7, .ref m8, .ref m9, .ref m10, .ref m11, .ref m12, .ref m13, .ref m14, .ref m15, .ref m16, .int 0, .int 0, .int 0, .int 0, .int 0, .int 0, .int 0, .ref m24, .int 0, .ref m26, .int 0, .ref m28, .long 0, .ref m30, .ref m31, .int 0, .int 0, .int 0, .ref m35, .ref m36, .int 0, .ref m38, .int 0, .int 0, .ref m41, .ref m42, .ref m43, .ref m44, .ref m45, .ref m46, .ref m47, .ref m48])), (m0, .inl (cy 0, 7666, .inl (upd (upd (upd (upd (upd sd (81 : Int32).toNatClampNeg p0) (82 : Int32).toNatClampNeg p1) (83 : Int32).toNatClampNeg p2) (84 : Int32).toNatClampNeg p3) (2 : Int32).toNatClampNeg 1)))] := hD
            refine lv_aload_n hx hb dX12_slip_121 rfl (lv_at hl 1 rfl) ?_
            refine va_get (D := D) (ci := 12) (v := .ref m0) (C := RX12) (T := TX12) (N := 49) hx hb hta inlX12 hown hK hP 0 rfl rfl 0 (by decide) (hta _ wk_149) (fun _ h9 => h9) rfl dX12_slip_122 ?_
            refine lv_iconst (v := 2) hx hb dX12_slip_125 (by decide) ?_
            refine va_iald (D := D) hx hb hK hP 1 0 rfl rfl (tl_in (by decide) (by decide)) dX12_slip_126 ?_
            refine W.eq (g2 := F0 m 127 ls ([.int 1])) (by rw [pk_us]) ?_
            refine lv_iconst (v := 1) hx hb dX12_slip_127 (by decide) ?_
            refine lv_isub hx hb dX12_slip_128 ?_
            refine lv_topi (fun z_20 ez_20 => ?_)
            obtain rfl : z_20 = (0 : Int32) := ez_20.trans (by decide)
            have hP9 := hP.sub (ws' := []) [] rfl
            have hD9 := hD.sub (ws' := []) [] (by decide) rfl
            exact W.iret (v := 0) hx hb hr (fun t ht hW => ⟨⟨_, (), rfl, (Or.inl ⟨by omega, rfl⟩), by rw [ht]; exact hP9, hD9⟩, hS.F ht⟩) hS.2.2 dX12_slip_129
          · have c_13 := hw_11.f c_13
            refine lv_iconst (v := (-1)) hx hb dX12_slip_57 (by decide) ?_
            have hP9 := hP.sub (ws' := []) [] rfl
            have hD9 := hD.sub (ws' := []) [] (by decide) rfl
            have hS : va_S A s.heap s.heap [] := hS
            exact W.iret (v := (-1)) hx hb hr (fun t ht hW => ⟨⟨_, (), rfl, (Or.inr ⟨by omega, rfl⟩), by rw [ht]; exact hP9, hD9⟩, hS.F ht⟩) hS.2.2 dX12_slip_58
set_option maxHeartbeats 4000000 in
set_option maxRecDepth 100000 in
theorem c_X12_depthOf (l : Launch) (D : va_G) (cy : Nat → ClassId) (sz : Nat) (md : Nat) (p0 : Int32) (p1 : Int32) (m0 : Nat) (m1 : Nat) (m3 : Nat) (m4 : Nat) (m5 : Nat) (m6 : Nat) (m7 : Nat) (m8 : Nat) (m9 : Nat) (m10 : Nat) (m11 : Nat) (m12 : Nat) (m13 : Nat) (m14 : Nat) (m15 : Nat) (m16 : Nat) (m24 : Nat) (m26 : Nat) (m28 : Nat) (m30 : Nat) (m31 : Nat) (m35 : Nat) (m36 : Nat) (m38 : Nat) (m41 : Nat) (m42 : Nat) (m43 : Nat) (m44 : Nat) (m45 : Nat) (m46 : Nat) (m47 : Nat) (m48 : Nat) (sd : Nat → Int32) (hsd : ∀ k : Nat, (k < 441 ∨ 7641 ≤ k) → sd k = 0) : Met l yX12_depthOf (tl_w yX12_depthOf cX12_depthOf 4 (some .int)) ({ frames := 0, cells := 0, slots := 0, locals := 0 }) (va_Pc [.ref md, .int p0, .int p1] (tl_P D cy [(md, .inr (12, [.ref m0, .ref m1, .int 0, .ref m3, .ref m4, .ref m5, .ref m6, .ref m7, .ref m8, .ref m9, .ref m10, .ref m11, .ref m12, .ref m13, .ref m14, .ref m15, .ref m16, .int 0, .int 0, .int 0, .int 0, .int 0, .int 0, .int 0, .ref m24, .int 0, .ref m26, .int 0, .ref m28, .long 0, .ref m30, .ref m31, .int 0, .int 0, .int 0, .ref m35, .ref m36, .int 0, .ref m38, .int 0, .int 0, .ref m41, .ref m42, .ref m43, .ref m44, .ref m45, .ref m46, .ref m47, .ref m48])), (m0, .inl (cy 0, 7666, .inl sd))] sz)) (vp_Si (fun r : Int32 => r = 0)) 0 0 (fun _ => False) := by
  refine Met.ofW (cc := cX12_depthOf) (maxL := 4) (ret := (some .int)) (by decide) rfl ?_
  intro p e s m args below meth c s₁ B hml hv
  obtain ⟨rfl, hsz, hP, hK, hD0, hN⟩ := hv
  have hx := B.exec
  have hb := B.bytes
  have hr := B.returns
  have hta := tl_hta (atoms_spec (ws := tl_w yX12_depthOf cX12_depthOf 4 (some .int)) B.pre)
  have hown : s.vm.findClass RX12 = some m.cls := findClass_of_methodNamed B.named
  have hlocks := B.notSynchronized
  subst hsz
  have hD := hD0
  have hP : va_P D vwCl [(md, .inr (12, [.ref m0, .ref m1, .int 0, .ref m3, .ref m4, .ref m5, .ref m6, .ref m7, .ref m8, .ref m9, .ref m10, .ref m11, .ref m12, .ref m13, .ref m14, .ref m15, .ref m16, .int 0, .int 0, .int 0, .int 0, .int 0, .int 0, .int 0, .ref m24, .int 0, .ref m26, .int 0, .ref m28, .long 0, .ref m30, .ref m31, .int 0, .int 0, .int 0, .ref m35, .ref m36, .int 0, .ref m38, .int 0, .int 0, .ref m41, .ref m42, .ref m43, .ref m44, .ref m45, .ref m46, .ref m47, .ref m48])), (m0, .inl (cy 0, 7666, .inl sd))] s.heap := hP
  have hl := lv_entry ([.ref md, .int p0, .int p1]) (n := 4) (Nat.le_of_ble_eq_true rfl)
  rw [lg_entry_eq]
  generalize (lg_sl ([.ref md, .int p0, .int p1]) ++ List.replicate (4 - (lg_sl ([.ref md, .int p0, .int p1])).length) Slot.unset).toArray = ls at hl ⊢
  have hl : lv_has ls 4 [(0, .ref md), (1, .int p0), (2, .int p1)] := hl
  refine lv_iconst (v := 0) hx hb dX12_depthOf_0 (by decide) ?_
  refine lv_istore_n (lv' := [(3, .int 0), (0, .ref md), (1, .int p0), (2, .int p1)]) hx hb dX12_depthOf_1 rfl hl (by decide) rfl (fun ls hl => ?_)
  refine lv_iload_n hx hb dX12_depthOf_2 rfl (lv_at hl 0 rfl) ?_
  refine lv_aload_n hx hb dX12_depthOf_3 rfl (lv_at hl 1 rfl) ?_
  refine va_get (D := D) (ci := 12) (v := .ref m0) (C := RX12) (T := TX12) (N := 49) hx hb hta inlX12 hown hK hP 0 rfl rfl 0 (by decide) (hta _ wk_149) (fun _ h9 => h9) rfl dX12_depthOf_4 ?_
  refine lv_iconst (v := 3) hx hb dX12_depthOf_7 (by decide) ?_
  refine va_iald (D := D) hx hb hK hP 1 0 rfl rfl (tl_in (by decide) (by decide)) dX12_depthOf_8 ?_
  refine W.eq (g2 := F0 m 9 ls ([.int 0, .int 0])) (by rw [hsd _ (by decide)]) ?_
  refine lv_icmp_ge (tgt := 45) hx hb dX12_depthOf_9 (by decide) (fun _ => ?_) (fun c => absurd c (by decide))
  refine lv_iconst (v := 0) hx hb dX12_depthOf_45 (by decide) ?_
  exact W.iret (v := 0) hx hb hr (fun t ht hW => ⟨_, rfl, rfl, ht⟩) (fun q h => by cases h) dX12_depthOf_46
set_option maxHeartbeats 4000000 in
set_option maxRecDepth 100000 in
theorem c_X12_line (l : Launch) (D : va_G) (cy : Nat → ClassId) (sz : Nat) (md : Nat) (p0 : Int32) (p1 : Int32) (p2 : Int32) (m0 : Nat) (m1 : Nat) (m3 : Nat) (m4 : Nat) (m5 : Nat) (m6 : Nat) (m7 : Nat) (m8 : Nat) (m9 : Nat) (m10 : Nat) (m11 : Nat) (m12 : Nat) (m13 : Nat) (m14 : Nat) (m15 : Nat) (m16 : Nat) (m24 : Nat) (m26 : Nat) (m28 : Nat) (m30 : Nat) (m31 : Nat) (m35 : Nat) (m36 : Nat) (m38 : Nat) (m41 : Nat) (m42 : Nat) (m43 : Nat) (m44 : Nat) (m45 : Nat) (m46 : Nat) (m47 : Nat) (m48 : Nat) (sd : Nat → Int32) (hsd : ∀ k : Nat, (k < 441 ∨ 7641 ≤ k) → sd k = 0) : Met l yX12_line (tl_w yX12_line cX12_line 5 (some .int)) ({ frames := 1, cells := 0, slots := 0, locals := 25 }) (va_Pc [.ref md, .int p0, .int p1, .int p2] (tl_P D cy [(md, .inr (12, [.ref m0, .ref m1, .int 0, .ref m3, .ref m4, .ref m5, .ref m6, .ref m7, .ref m8, .ref m9, .ref m10, .ref m11, .ref m12, .ref m13, .ref m14, .ref m15, .ref m16, .int 0, .int 0, .int 0, .int 0, .int 0, .int 0, .int 0, .ref m24, .int 0, .ref m26, .int 0, .ref m28, .long 0, .ref m30, .ref m31, .int 0, .int 0, .int 0, .ref m35, .ref m36, .int 0, .ref m38, .int 0, .int 0, .ref m41, .ref m42, .ref m43, .ref m44, .ref m45, .ref m46, .ref m47, .ref m48])), (m0, .inl (cy 0, 7666, .inl sd))] sz)) (va_Qi (fun (r : Int32) (u : Unit) => tl_E r (0 ≤ p0.toInt ∧ p0.toInt ≤ 11 ∧ 0 ≤ p1.toInt ∧ p1.toInt ≤ 299 ∧ 1 ≤ p2.toInt ∧ p2.toInt ≤ 1000) 1 (-1)) (tl_B D (va_A [(md, .inr (12, [.ref m0, .ref m1, .int 0, .ref m3, .ref m4, .ref m5, .ref m6, .ref m7, .ref m8, .ref m9, .ref m10, .ref m11, .ref m12, .ref m13, .ref m14, .ref m15, .ref m16, .int 0, .int 0, .int 0, .int 0, .int 0, .int 0, .int 0, .ref m24, .int 0, .ref m26, .int 0, .ref m28, .long 0, .ref m30, .ref m31, .int 0, .int 0, .int 0, .ref m35, .ref m36, .int 0, .ref m38, .int 0, .int 0, .ref m41, .ref m42, .ref m43, .ref m44, .ref m45, .ref m46, .ref m47, .ref m48])), (m0, .inl (cy 0, 7666, .inl sd))] sz) (fun u : Unit => [])) (va_A [(md, .inr (12, [.ref m0, .ref m1, .int 0, .ref m3, .ref m4, .ref m5, .ref m6, .ref m7, .ref m8, .ref m9, .ref m10, .ref m11, .ref m12, .ref m13, .ref m14, .ref m15, .ref m16, .int 0, .int 0, .int 0, .int 0, .int 0, .int 0, .int 0, .ref m24, .int 0, .ref m26, .int 0, .ref m28, .long 0, .ref m30, .ref m31, .int 0, .int 0, .int 0, .ref m35, .ref m36, .int 0, .ref m38, .int 0, .int 0, .ref m41, .ref m42, .ref m43, .ref m44, .ref m45, .ref m46, .ref m47, .ref m48])), (m0, .inl (cy 0, 7666, .inl sd))] sz)) 0 0 (va_A [(md, .inr (12, [.ref m0, .ref m1, .int 0, .ref m3, .ref m4, .ref m5, .ref m6, .ref m7, .ref m8, .ref m9, .ref m10, .ref m11, .ref m12, .ref m13, .ref m14, .ref m15, .ref m16, .int 0, .int 0, .int 0, .int 0, .int 0, .int 0, .int 0, .ref m24, .int 0, .ref m26, .int 0, .ref m28, .long 0, .ref m30, .ref m31, .int 0, .int 0, .int 0, .ref m35, .ref m36, .int 0, .ref m38, .int 0, .int 0, .ref m41, .ref m42, .ref m43, .ref m44, .ref m45, .ref m46, .ref m47, .ref m48])), (m0, .inl (cy 0, 7666, .inl sd))] sz) := by
  refine Met.ofW (cc := cX12_line) (maxL := 5) (ret := (some .int)) (by decide) rfl ?_
  intro p e s m args below meth c s₁ B hml hv
  obtain ⟨rfl, hsz, hP, hK, hD0, hN⟩ := hv
  have hx := B.exec
  have hb := B.bytes
  have hr := B.returns
  have hta := tl_hta (atoms_spec (ws := tl_w yX12_line cX12_line 5 (some .int)) B.pre)
  have hown : s.vm.findClass RX12 = some m.cls := findClass_of_methodNamed B.named
  have hlocks := B.notSynchronized
  subst hsz
  have hD := hD0.self (sz := s.heap.size)
  generalize hAe : va_A [(md, .inr (12, [.ref m0, .ref m1, .int 0, .ref m3, .ref m4, .ref m5, .ref m6, .ref m7, .ref m8, .ref m9, .ref m10, .ref m11, .ref m12, .ref m13, .ref m14, .ref m15, .ref m16, .int 0, .int 0, .int 0, .int 0, .int 0, .int 0, .int 0, .ref m24, .int 0, .ref m26, .int 0, .ref m28, .long 0, .ref m30, .ref m31, .int 0, .int 0, .int 0, .ref m35, .ref m36, .int 0, .ref m38, .int 0, .int 0, .ref m41, .ref m42, .ref m43, .ref m44, .ref m45, .ref m46, .ref m47, .ref m48])), (m0, .inl (cy 0, 7666, .inl sd))] s.heap.size = A at hD ⊢
  have hA : ∀ q : Nat, s.heap.size ≤ q → A q := fun q h => by rw [← hAe]; exact Or.inr h
  have hS : va_S A s.heap s.heap [] := va_S.rf
  have hP : va_P D vwCl [(md, .inr (12, [.ref m0, .ref m1, .int 0, .ref m3, .ref m4, .ref m5, .ref m6, .ref m7, .ref m8, .ref m9, .ref m10, .ref m11, .ref m12, .ref m13, .ref m14, .ref m15, .ref m16, .int 0, .int 0, .int 0, .int 0, .int 0, .int 0, .int 0, .ref m24, .int 0, .ref m26, .int 0, .ref m28, .long 0, .ref m30, .ref m31, .int 0, .int 0, .int 0, .ref m35, .ref m36, .int 0, .ref m38, .int 0, .int 0, .ref m41, .ref m42, .ref m43, .ref m44, .ref m45, .ref m46, .ref m47, .ref m48])), (m0, .inl (cy 0, 7666, .inl sd))] s.heap := hP
  have hl := lv_entry ([.ref md, .int p0, .int p1, .int p2]) (n := 5) (Nat.le_of_ble_eq_true rfl)
  rw [lg_entry_eq]
  generalize (lg_sl ([.ref md, .int p0, .int p1, .int p2]) ++ List.replicate (5 - (lg_sl ([.ref md, .int p0, .int p1, .int p2])).length) Slot.unset).toArray = ls at hl ⊢
  have hl : lv_has ls 5 [(0, .ref md), (1, .int p0), (2, .int p1), (3, .int p2)] := hl
  refine lv_aload_n hx hb dX12_line_0 rfl (lv_at hl 0 rfl) ?_
  refine va_get (D := D) (ci := 12) (v := .ref m0) (C := RX12) (T := TX12) (N := 49) hx hb hta inlX12 hown hK hP 0 rfl rfl 0 (by decide) (hta _ wk_149) (fun _ h9 => h9) rfl dX12_line_1 ?_
  refine lv_iconst (v := 3) hx hb dX12_line_4 (by decide) ?_
  refine va_iald (D := D) hx hb hK hP 1 0 rfl rfl (tl_in (by decide) (by decide)) dX12_line_5 ?_
  refine W.eq (g2 := F0 m 6 ls ([.int 0])) (by rw [hsd _ (by decide)]) ?_
  refine lv_bipush (v := 60) hx hb dX12_line_6 (by decide) ?_
  refine lv_icmp_eq (tgt := 51) hx hb dX12_line_8 (by decide) (fun c => absurd c (by decide)) (fun _ => ?_)
  refine lv_iload_n hx hb dX12_line_11 rfl (lv_at hl 1 rfl) ?_
  refine lv_i2l (v := p0.toInt64) hx hb dX12_line_12 (by first | rfl | decide) ?_
  refine lv_lconst (v := 0) hx hb dX12_line_13 (by decide) ?_
  refine lv_ldc2 (v := 11) hx hb hown (hta _ wk_325) dX12_line_14 ?_
  have hPc := hP.sub (ws' := []) [] rfl
  have hDc := hD.sub (ws' := []) [] (by decide) rfl
  refine tl_si (tl_rS (As := [.long p0.toInt64, .long 0, .long 11]) (rest := []) ⟨hx, hb, hml, hown, hta⟩ hK hN hPc hDc lk_X12_112 (c_X12_in l D cy s.heap.size p0.toInt64 0 11 ) rfl rfl ⟨Nat.le_of_ble_eq_true rfl, Nat.le_of_ble_eq_true rfl⟩ rfl hl.1 rfl (Nat.le_of_ble_eq_true rfl) dX12_line_17 ⟨Nat.le_of_ble_eq_true rfl, Nat.le_of_ble_eq_true rfl⟩) (fun r_2 hw_1 => ?_)
  simp only [Int32.toInt_toInt64] at hw_1
  have hw_1 : tl_E r_2 ((0 : Int) ≤ p0.toInt ∧ p0.toInt ≤ (11 : Int)) 1 0 := hw_1
  refine lv_if_eq (tgt := 51) hx hb dX12_line_20 (by decide) (fun c_3 => ?_) (fun c_3 => ?_)
  · have c_3 := hw_1.f c_3
    refine lv_iconst (v := (-1)) hx hb dX12_line_51 (by decide) ?_
    have hP9 := hP.sub (ws' := []) [] rfl
    have hD9 := hD.sub (ws' := []) [] (by decide) rfl
    have hS : va_S A s.heap s.heap [] := hS
    exact W.iret (v := (-1)) hx hb hr (fun t ht hW => ⟨⟨_, (), rfl, (Or.inr ⟨by omega, rfl⟩), by rw [ht]; exact hP9, hD9⟩, hS.F ht⟩) hS.2.2 dX12_line_52
  · have c_3 := hw_1.t c_3
    refine lv_iload_n hx hb dX12_line_23 rfl (lv_at hl 2 rfl) ?_
    have hPc := hP.sub (ws' := []) [] rfl
    have hDc := hD.sub (ws' := []) [] (by decide) rfl
    refine tl_si (tl_rS (As := [.int p1]) (rest := []) ⟨hx, hb, hml, hown, hta⟩ hK hN hPc hDc lk_X12_124 (c_X12_isColour l D cy s.heap.size p1 ) rfl rfl ⟨Nat.le_of_ble_eq_true rfl, Nat.le_of_ble_eq_true rfl⟩ rfl hl.1 rfl (Nat.le_of_ble_eq_true rfl) dX12_line_24 ⟨Nat.le_of_ble_eq_true rfl, Nat.le_of_ble_eq_true rfl⟩) (fun r_5 hw_4 => ?_)
    have hw_4 : tl_E r_5 (0 ≤ p1.toInt ∧ p1.toInt ≤ 299) 1 0 := hw_4
    refine lv_if_eq (tgt := 51) hx hb dX12_line_27 (by decide) (fun c_6 => ?_) (fun c_6 => ?_)
    · have c_6 := hw_4.f c_6
      refine lv_iconst (v := (-1)) hx hb dX12_line_51 (by decide) ?_
      have hP9 := hP.sub (ws' := []) [] rfl
      have hD9 := hD.sub (ws' := []) [] (by decide) rfl
      have hS : va_S A s.heap s.heap [] := hS
      exact W.iret (v := (-1)) hx hb hr (fun t ht hW => ⟨⟨_, (), rfl, (Or.inr ⟨by omega, rfl⟩), by rw [ht]; exact hP9, hD9⟩, hS.F ht⟩) hS.2.2 dX12_line_52
    · have c_6 := hw_4.t c_6
      refine lv_iload_n hx hb dX12_line_30 rfl (lv_at hl 3 rfl) ?_
      refine lv_i2l (v := p2.toInt64) hx hb dX12_line_31 (by first | rfl | decide) ?_
      refine lv_lconst (v := 1) hx hb dX12_line_32 (by decide) ?_
      refine lv_ldc2 (v := 1000) hx hb hown (hta _ wk_326) dX12_line_33 ?_
      have hPc := hP.sub (ws' := []) [] rfl
      have hDc := hD.sub (ws' := []) [] (by decide) rfl
      refine tl_si (tl_rS (As := [.long p2.toInt64, .long 1, .long 1000]) (rest := []) ⟨hx, hb, hml, hown, hta⟩ hK hN hPc hDc lk_X12_112 (c_X12_in l D cy s.heap.size p2.toInt64 1 1000 ) rfl rfl ⟨Nat.le_of_ble_eq_true rfl, Nat.le_of_ble_eq_true rfl⟩ rfl hl.1 rfl (Nat.le_of_ble_eq_true rfl) dX12_line_36 ⟨Nat.le_of_ble_eq_true rfl, Nat.le_of_ble_eq_true rfl⟩) (fun r_8 hw_7 => ?_)
      simp only [Int32.toInt_toInt64] at hw_7
      have hw_7 : tl_E r_8 ((1 : Int) ≤ p2.toInt ∧ p2.toInt ≤ (1000 : Int)) 1 0 := hw_7
      refine lv_if_eq (tgt := 51) hx hb dX12_line_39 (by decide) (fun c_9 => ?_) (fun c_9 => ?_)
      · have c_9 := hw_7.f c_9
        refine lv_iconst (v := (-1)) hx hb dX12_line_51 (by decide) ?_
        have hP9 := hP.sub (ws' := []) [] rfl
        have hD9 := hD.sub (ws' := []) [] (by decide) rfl
        have hS : va_S A s.heap s.heap [] := hS
        exact W.iret (v := (-1)) hx hb hr (fun t ht hW => ⟨⟨_, (), rfl, (Or.inr ⟨by omega, rfl⟩), by rw [ht]; exact hP9, hD9⟩, hS.F ht⟩) hS.2.2 dX12_line_52
      · have c_9 := hw_7.t c_9
        refine lv_aload_n hx hb dX12_line_42 rfl (lv_at hl 0 rfl) ?_
        refine lv_iload_n hx hb dX12_line_43 rfl (lv_at hl 1 rfl) ?_
        refine lv_iload_n hx hb dX12_line_44 rfl (lv_at hl 2 rfl) ?_
        refine tl_si (tl_rV (As := [.int p0, .int p1]) (rest := []) ⟨hx, hb, hml, hown, hta⟩ hK hN hP hD (ci := 12) rfl 0 rfl lk_X12_150 (c_X12_depthOf l D cy s.heap.size md p0 p1 m0 m1 m3 m4 m5 m6 m7 m8 m9 m10 m11 m12 m13 m14 m15 m16 m24 m26 m28 m30 m31 m35 m36 m38 m41 m42 m43 m44 m45 m46 m47 m48 sd hsd) rfl rfl ⟨Nat.le_of_ble_eq_true rfl, Nat.le_of_ble_eq_true rfl⟩ rfl hl.1 rfl (Nat.le_of_ble_eq_true rfl) dX12_line_45 ⟨Nat.le_of_ble_eq_true rfl, Nat.le_of_ble_eq_true rfl⟩) (fun r_11 hw_10 => ?_)
        subst hw_10
        refine lv_if_le (tgt := 53) hx hb dX12_line_48 (by decide) (fun _ => ?_) (fun c => absurd c (by decide))
        refine lv_sipush (v := 241) hx hb dX12_line_53 (by decide) ?_
        refine lv_iconst (v := 3) hx hb dX12_line_56 (by decide) ?_
        refine lv_aload_n hx hb dX12_line_57 rfl (lv_at hl 0 rfl) ?_
        refine va_get (D := D) (ci := 12) (v := .ref m0) (C := RX12) (T := TX12) (N := 49) hx hb hta inlX12 hown hK hP 0 rfl rfl 0 (by decide) (hta _ wk_149) (fun _ h9 => h9) rfl dX12_line_58 ?_
        refine lv_iconst (v := 3) hx hb dX12_line_61 (by decide) ?_
        refine va_iald (D := D) hx hb hK hP 1 0 rfl rfl (tl_in (by decide) (by decide)) dX12_line_62 ?_
        refine W.eq (g2 := F0 m 63 ls ([.int 0, .int 3, .int 241])) (by rw [hsd _ (by decide)]) ?_
        refine lv_imul hx hb dX12_line_63 ?_
        refine lv_topi (fun z_12 ez_12 => ?_)
        obtain rfl : z_12 = (0 : Int32) := ez_12.trans (by decide)
        refine lv_iadd hx hb dX12_line_64 ?_
        refine lv_topi (fun z_13 ez_13 => ?_)
        obtain rfl : z_13 = (241 : Int32) := ez_13.trans (by decide)
        refine lv_istore (lv' := [(4, .int 241), (0, .ref md), (1, .int p0), (2, .int p1), (3, .int p2)]) hx hb dX12_line_65 hl (by decide) rfl (fun ls hl => ?_)
        refine lv_aload_n hx hb dX12_line_67 rfl (lv_at hl 1 rfl) ?_
        refine va_get (D := D) (ci := 12) (v := .ref m0) (C := RX12) (T := TX12) (N := 49) hx hb hta inlX12 hown hK hP 0 rfl rfl 0 (by decide) (hta _ wk_149) (fun _ h9 => h9) rfl dX12_line_68 ?_
        refine lv_iload hx hb dX12_line_71 (lv_at hl 0 rfl) ?_
        refine lv_iload_n hx hb dX12_line_73 rfl (lv_at hl 2 rfl) ?_
        refine va_iast (D := D) hx hb hK hP hD hS 1 0 rfl rfl (tl_in (by decide) (by decide)) dX12_line_74 (fun H locs hP hD hS => ?_)
        have hP : va_P D vwCl [(md, .inr (12, [.ref m0, .ref m1, .int 0, .ref m3, .ref m4, .ref m5, .ref m6, .ref m7, .ref m8, .ref m9, .ref m10, .ref m11, .ref m12, .ref m13, .ref m14, .ref m15, .ref m16, .int 0, .int 0, .int 0, .int 0, .int 0, .int 0, .int 0, .ref m24, .int 0, .ref m26, .int 0, .ref m28, .long 0, .ref m30, .ref m31, .int 0, .int 0, .int 0, .ref m35, .ref m36, .int 0, .ref m38, .int 0, .int 0, .ref m41, .ref m42, .ref m43, .ref m44, .ref m45, .ref m46, .ref m47, .ref m48])), (m0, .inl (cy 0, 7666, .inl (upd sd (241 : Int32).toNatClampNeg p0)))] H := hP
        have hD : va_D A [(md, .inr (12, [.ref m0, .ref m1, .int 0, .ref m3, .ref m4, .ref m5, .ref m6, .ref m7, .ref m8, .ref m9, .ref m10, .ref m11, .ref m12, .ref m13, .ref m14, .ref m15, .ref m16, .int 0, .int 0, .int 0, .int 0, .int 0, .int 0, .int 0, .ref m24, .int 0, .ref m26, .int 0, .ref m28, .long 0, .ref m30, .ref m31, .int 0, .int 0, .int 0, .ref m35, .ref m36, .int 0, .ref m38, .int 0, .int 0, .ref m41, .ref m42, .ref m43, .ref m44, .ref m45, .ref m46, .ref m47, .ref m48])), (m0, .inl (cy 0, 7666, .inl (upd sd (241 : Int32).toNatClampNeg p0)))] := hD
        refine lv_aload_n hx hb dX12_line_75 rfl (lv_at hl 1 rfl) ?_
        refine va_get (D := D) (ci := 12) (v := .ref m0) (C := RX12) (T := TX12) (N := 49) hx hb hta inlX12 hown hK hP 0 rfl rfl 0 (by decide) (hta _ wk_149) (fun _ h9 => h9) rfl dX12_line_76 ?_
        refine lv_iload hx hb dX12_line_79 (lv_at hl 0 rfl) ?_
        refine lv_iconst (v := 1) hx hb dX12_line_81 (by decide) ?_
        refine lv_iadd hx hb dX12_line_82 ?_
        refine lv_topi (fun z_14 ez_14 => ?_)
        obtain rfl : z_14 = (242 : Int32) := ez_14.trans (by decide)
        refine lv_iload_n hx hb dX12_line_83 rfl (lv_at hl 3 rfl) ?_
        refine va_iast (D := D) hx hb hK hP hD hS 1 0 rfl rfl (tl_in (by decide) (by decide)) dX12_line_84 (fun H locs hP hD hS => ?_)
        have hP : va_P D vwCl [(md, .inr (12, [.ref m0, .ref m1, .int 0, .ref m3, .ref m4, .ref m5, .ref m6, .ref m7, .ref m8, .ref m9, .ref m10, .ref m11, .ref m12, .ref m13, .ref m14, .ref m15, .ref m16, .int 0, .int 0, .int 0, .int 0, .int 0, .int 0, .int 0, .ref m24, .int 0, .ref m26, .int 0, .ref m28, .long 0, .ref m30, .ref m31, .int 0, .int 0, .int 0, .ref m35, .ref m36, .int 0, .ref m38, .int 0, .int 0, .ref m41, .ref m42, .ref m43, .ref m44, .ref m45, .ref m46, .ref m47, .ref m48])), (m0, .inl (cy 0, 7666, .inl (upd (upd sd (241 : Int32).toNatClampNeg p0) (242 : Int32).toNatClampNeg p1)))] H := hP
        have hD : va_D A [(md, .inr (12, [.ref m0, .ref m1, .int 0, .ref m3, .ref m4, .ref m5, .ref m6, .ref m7, .ref m8, .ref m9, .ref m10, .ref m11, .ref m12, .ref m13, .ref m14, .ref m15, .ref m16, .int 0, .int 0, .int 0, .int 0, .int 0, .int 0, .int 0, .ref m24, .int 0, .ref m26, .int 0, .ref m28, .long 0, .ref m30, .ref m31, .int 0, .int 0, .int 0, .ref m35, .ref m36, .int 0, .ref m38, .int 0, .int 0, .ref m41, .ref m42, .ref m43, .ref m44, .ref m45, .ref m46, .ref m47, .ref m48])), (m0, .inl (cy 0, 7666, .inl (upd (upd sd (241 : Int32).toNatClampNeg p0) (242 : Int32).toNatClampNeg p1)))] := hD
        refine lv_aload_n hx hb dX12_line_85 rfl (lv_at hl 1 rfl) ?_
        refine va_get (D := D) (ci := 12) (v := .ref m0) (C := RX12) (T := TX12) (N := 49) hx hb hta inlX12 hown hK hP 0 rfl rfl 0 (by decide) (hta _ wk_149) (fun _ h9 => h9) rfl dX12_line_86 ?_
        refine lv_iload hx hb dX12_line_89 (lv_at hl 0 rfl) ?_
        refine lv_iconst (v := 2) hx hb dX12_line_91 (by decide) ?_
        refine lv_iadd hx hb dX12_line_92 ?_
        refine lv_topi (fun z_15 ez_15 => ?_)
        obtain rfl : z_15 = (243 : Int32) := ez_15.trans (by decide)
        refine lv_iload_n hx hb dX12_line_93 rfl (lv_at hl 4 rfl) ?_
        refine va_iast (D := D) hx hb hK hP hD hS 1 0 rfl rfl (tl_in (by decide) (by decide)) dX12_line_94 (fun H locs hP hD hS => ?_)
        have hP : va_P D vwCl [(md, .inr (12, [.ref m0, .ref m1, .int 0, .ref m3, .ref m4, .ref m5, .ref m6, .ref m7, .ref m8, .ref m9, .ref m10, .ref m11, .ref m12, .ref m13, .ref m14, .ref m15, .ref m16, .int 0, .int 0, .int 0, .int 0, .int 0, .int 0, .int 0, .ref m24, .int 0, .ref m26, .int 0, .ref m28, .long 0, .ref m30, .ref m31, .int 0, .int 0, .int 0, .ref m35, .ref m36, .int 0, .ref m38, .int 0, .int 0, .ref m41, .ref m42, .ref m43, .ref m44, .ref m45, .ref m46, .ref m47, .ref m48])), (m0, .inl (cy 0, 7666, .inl (upd (upd (upd sd (241 : Int32).toNatClampNeg p0) (242 : Int32).toNatClampNeg p1) (243 : Int32).toNatClampNeg p2)))] H := hP
        have hD : va_D A [(md, .inr (12, [.ref m0, .ref m1, .int 0, .ref m3, .ref m4, .ref m5, .ref m6, .ref m7, .ref m8, .ref m9, .ref m10, .ref m11, .ref m12, .ref m13, .ref m14, .ref m15, .ref m16, .int 0, .int 0, .int 0, .int 0, .int 0, .int 0, .int 0, .ref m24, .int 0, .ref m26, .int 0, .ref m28, .long 0, .ref m30, .ref m31, .int 0, .int 0, .int 0, .ref m35, .ref m36, .int 0, .ref m38, .int 0, .int 0, .ref m41, .ref m42, .ref m43, .ref m44, .ref m45, .ref m46, .ref m47, .ref m48])), (m0, .inl (cy 0, 7666, .inl (upd (upd (upd sd (241 : Int32).toNatClampNeg p0) (242 : Int32).toNatClampNeg p1) (243 : Int32).toNatClampNeg p2)))] := hD
        refine lv_aload_n hx hb dX12_line_95 rfl (lv_at hl 1 rfl) ?_
        refine va_get (D := D) (ci := 12) (v := .ref m0) (C := RX12) (T := TX12) (N := 49) hx hb hta inlX12 hown hK hP 0 rfl rfl 0 (by decide) (hta _ wk_149) (fun _ h9 => h9) rfl dX12_line_96 ?_
        refine lv_iconst (v := 3) hx hb dX12_line_99 (by decide) ?_
        refine lv_dup2_11 hx hb dX12_line_100 rfl rfl ?_
        refine va_iald (D := D) hx hb hK hP 1 0 rfl rfl (tl_in (by decide) (by decide)) dX12_line_101 ?_
        refine W.eq (g2 := F0 m 102 ls ([.int 0, .int 3, .ref m0])) (by rw [pk_un (by decide), pk_un (by decide), pk_un (by decide), hsd _ (by decide)]) ?_
        refine lv_iconst (v := 1) hx hb dX12_line_102 (by decide) ?_
        refine lv_iadd hx hb dX12_line_103 ?_
        refine lv_topi (fun z_16 ez_16 => ?_)
        obtain rfl : z_16 = (1 : Int32) := ez_16.trans (by decide)
        refine va_iast (D := D) hx hb hK hP hD hS 1 0 rfl rfl (tl_in (by decide) (by decide)) dX12_line_104 (fun H locs hP hD hS => ?_)
        have hP : va_P D vwCl [(md, .inr (12, [.ref m0, .ref m1, .int 0, .ref m3, .ref m4, .ref m5, .ref m6, .ref m7, .ref m8, .ref m9, .ref m10, .ref m11, .ref m12, .ref m13, .ref m14, .ref m15, .ref m16, .int 0, .int 0, .int 0, .int 0, .int 0, .int 0, .int 0, .ref m24, .int 0, .ref m26, .int 0, .ref m28, .long 0, .ref m30, .ref m31, .int 0, .int 0, .int 0, .ref m35, .ref m36, .int 0, .ref m38, .int 0, .int 0, .ref m41, .ref m42, .ref m43, .ref m44, .ref m45, .ref m46, .ref m47, .ref m48])), (m0, .inl (cy 0, 7666, .inl (upd (upd (upd (upd sd (241 : Int32).toNatClampNeg p0) (242 : Int32).toNatClampNeg p1) (243 : Int32).toNatClampNeg p2) (3 : Int32).toNatClampNeg 1)))] H := hP
        have hD : va_D A [(md, .inr (12, [.ref m0, .ref m1, .int 0, .ref m3, .ref m4, .ref m5, .ref m6, .ref m7, .ref m8, .ref m9, .ref m10, .ref m11, .ref m12, .ref m13, .ref m14, .ref m15, .ref m16, .int 0, .int 0, .int 0, .int 0, .int 0, .int 0, .int 0, .ref m24, .int 0, .ref m26, .int 0, .ref m28, .long 0, .ref m30, .ref m31, .int 0, .int 0, .int 0, .ref m35, .ref m36, .int 0, .ref m38, .int 0, .int 0, .ref m41, .ref m42, .ref m43, .ref m44, .ref m45, .ref m46, .ref m47, .ref m48])), (m0, .inl (cy 0, 7666, .inl (upd (upd (upd (upd sd (241 : Int32).toNatClampNeg p0) (242 : Int32).toNatClampNeg p1) (243 : Int32).toNatClampNeg p2) (3 : Int32).toNatClampNeg 1)))] := hD
        refine lv_aload_n hx hb dX12_line_105 rfl (lv_at hl 1 rfl) ?_
        refine va_get (D := D) (ci := 12) (v := .ref m0) (C := RX12) (T := TX12) (N := 49) hx hb hta inlX12 hown hK hP 0 rfl rfl 0 (by decide) (hta _ wk_149) (fun _ h9 => h9) rfl dX12_line_106 ?_
        refine lv_iconst (v := 3) hx hb dX12_line_109 (by decide) ?_
        refine va_iald (D := D) hx hb hK hP 1 0 rfl rfl (tl_in (by decide) (by decide)) dX12_line_110 ?_
        refine W.eq (g2 := F0 m 111 ls ([.int 1])) (by rw [pk_us]) ?_
        have hP9 := hP.sub (ws' := []) [] rfl
        have hD9 := hD.sub (ws' := []) [] (by decide) rfl
        exact W.iret (v := 1) hx hb hr (fun t ht hW => ⟨⟨_, (), rfl, (Or.inl ⟨by omega, rfl⟩), by rw [ht]; exact hP9, hD9⟩, hS.F ht⟩) hS.2.2 dX12_line_111
set_option maxHeartbeats 4000000 in
set_option maxRecDepth 100000 in
theorem c_X12_row (l : Launch) (D : va_G) (cy : Nat → ClassId) (sz : Nat) (md : Nat) (p0 : Int32) (p1 : Int32) (m0 : Nat) (m1 : Nat) (m3 : Nat) (m4 : Nat) (m5 : Nat) (m6 : Nat) (m7 : Nat) (m8 : Nat) (m9 : Nat) (m10 : Nat) (m11 : Nat) (m12 : Nat) (m13 : Nat) (m14 : Nat) (m15 : Nat) (m16 : Nat) (m24 : Nat) (m26 : Nat) (m28 : Nat) (m30 : Nat) (m31 : Nat) (m35 : Nat) (m36 : Nat) (m38 : Nat) (m41 : Nat) (m42 : Nat) (m43 : Nat) (m44 : Nat) (m45 : Nat) (m46 : Nat) (m47 : Nat) (m48 : Nat) (sd : Nat → Int32) (hsd : ∀ k : Nat, (k < 441 ∨ 7641 ≤ k) → sd k = 0) : Met l yX12_row (tl_w yX12_row cX12_row 5 (some .int)) ({ frames := 1, cells := 0, slots := 0, locals := 25 }) (va_Pc [.ref md, .int p0, .int p1] (tl_P D cy [(md, .inr (12, [.ref m0, .ref m1, .int 0, .ref m3, .ref m4, .ref m5, .ref m6, .ref m7, .ref m8, .ref m9, .ref m10, .ref m11, .ref m12, .ref m13, .ref m14, .ref m15, .ref m16, .int 0, .int 0, .int 0, .int 0, .int 0, .int 0, .int 0, .ref m24, .int 0, .ref m26, .int 0, .ref m28, .long 0, .ref m30, .ref m31, .int 0, .int 0, .int 0, .ref m35, .ref m36, .int 0, .ref m38, .int 0, .int 0, .ref m41, .ref m42, .ref m43, .ref m44, .ref m45, .ref m46, .ref m47, .ref m48])), (m0, .inl (cy 0, 7666, .inl sd))] sz)) (va_Qi (fun (r : Int32) (u : Unit) => tl_E r (0 ≤ p0.toInt ∧ p0.toInt ≤ 3 ∧ 0 ≤ p1.toInt ∧ p1.toInt ≤ 999) 0 (-1)) (tl_B D (va_A [(md, .inr (12, [.ref m0, .ref m1, .int 0, .ref m3, .ref m4, .ref m5, .ref m6, .ref m7, .ref m8, .ref m9, .ref m10, .ref m11, .ref m12, .ref m13, .ref m14, .ref m15, .ref m16, .int 0, .int 0, .int 0, .int 0, .int 0, .int 0, .int 0, .ref m24, .int 0, .ref m26, .int 0, .ref m28, .long 0, .ref m30, .ref m31, .int 0, .int 0, .int 0, .ref m35, .ref m36, .int 0, .ref m38, .int 0, .int 0, .ref m41, .ref m42, .ref m43, .ref m44, .ref m45, .ref m46, .ref m47, .ref m48])), (m0, .inl (cy 0, 7666, .inl sd))] sz) (fun u : Unit => [])) (va_A [(md, .inr (12, [.ref m0, .ref m1, .int 0, .ref m3, .ref m4, .ref m5, .ref m6, .ref m7, .ref m8, .ref m9, .ref m10, .ref m11, .ref m12, .ref m13, .ref m14, .ref m15, .ref m16, .int 0, .int 0, .int 0, .int 0, .int 0, .int 0, .int 0, .ref m24, .int 0, .ref m26, .int 0, .ref m28, .long 0, .ref m30, .ref m31, .int 0, .int 0, .int 0, .ref m35, .ref m36, .int 0, .ref m38, .int 0, .int 0, .ref m41, .ref m42, .ref m43, .ref m44, .ref m45, .ref m46, .ref m47, .ref m48])), (m0, .inl (cy 0, 7666, .inl sd))] sz)) 0 0 (va_A [(md, .inr (12, [.ref m0, .ref m1, .int 0, .ref m3, .ref m4, .ref m5, .ref m6, .ref m7, .ref m8, .ref m9, .ref m10, .ref m11, .ref m12, .ref m13, .ref m14, .ref m15, .ref m16, .int 0, .int 0, .int 0, .int 0, .int 0, .int 0, .int 0, .ref m24, .int 0, .ref m26, .int 0, .ref m28, .long 0, .ref m30, .ref m31, .int 0, .int 0, .int 0, .ref m35, .ref m36, .int 0, .ref m38, .int 0, .int 0, .ref m41, .ref m42, .ref m43, .ref m44, .ref m45, .ref m46, .ref m47, .ref m48])), (m0, .inl (cy 0, 7666, .inl sd))] sz) := by
  refine Met.ofW (cc := cX12_row) (maxL := 5) (ret := (some .int)) (by decide) rfl ?_
  intro p e s m args below meth c s₁ B hml hv
  obtain ⟨rfl, hsz, hP, hK, hD0, hN⟩ := hv
  have hx := B.exec
  have hb := B.bytes
  have hr := B.returns
  have hta := tl_hta (atoms_spec (ws := tl_w yX12_row cX12_row 5 (some .int)) B.pre)
  have hown : s.vm.findClass RX12 = some m.cls := findClass_of_methodNamed B.named
  have hlocks := B.notSynchronized
  subst hsz
  have hD := hD0.self (sz := s.heap.size)
  generalize hAe : va_A [(md, .inr (12, [.ref m0, .ref m1, .int 0, .ref m3, .ref m4, .ref m5, .ref m6, .ref m7, .ref m8, .ref m9, .ref m10, .ref m11, .ref m12, .ref m13, .ref m14, .ref m15, .ref m16, .int 0, .int 0, .int 0, .int 0, .int 0, .int 0, .int 0, .ref m24, .int 0, .ref m26, .int 0, .ref m28, .long 0, .ref m30, .ref m31, .int 0, .int 0, .int 0, .ref m35, .ref m36, .int 0, .ref m38, .int 0, .int 0, .ref m41, .ref m42, .ref m43, .ref m44, .ref m45, .ref m46, .ref m47, .ref m48])), (m0, .inl (cy 0, 7666, .inl sd))] s.heap.size = A at hD ⊢
  have hA : ∀ q : Nat, s.heap.size ≤ q → A q := fun q h => by rw [← hAe]; exact Or.inr h
  have hS : va_S A s.heap s.heap [] := va_S.rf
  have hP : va_P D vwCl [(md, .inr (12, [.ref m0, .ref m1, .int 0, .ref m3, .ref m4, .ref m5, .ref m6, .ref m7, .ref m8, .ref m9, .ref m10, .ref m11, .ref m12, .ref m13, .ref m14, .ref m15, .ref m16, .int 0, .int 0, .int 0, .int 0, .int 0, .int 0, .int 0, .ref m24, .int 0, .ref m26, .int 0, .ref m28, .long 0, .ref m30, .ref m31, .int 0, .int 0, .int 0, .ref m35, .ref m36, .int 0, .ref m38, .int 0, .int 0, .ref m41, .ref m42, .ref m43, .ref m44, .ref m45, .ref m46, .ref m47, .ref m48])), (m0, .inl (cy 0, 7666, .inl sd))] s.heap := hP
  have hl := lv_entry ([.ref md, .int p0, .int p1]) (n := 5) (Nat.le_of_ble_eq_true rfl)
  rw [lg_entry_eq]
  generalize (lg_sl ([.ref md, .int p0, .int p1]) ++ List.replicate (5 - (lg_sl ([.ref md, .int p0, .int p1])).length) Slot.unset).toArray = ls at hl ⊢
  have hl : lv_has ls 5 [(0, .ref md), (1, .int p0), (2, .int p1)] := hl
  refine lv_aload_n hx hb dX12_row_0 rfl (lv_at hl 0 rfl) ?_
  refine va_get (D := D) (ci := 12) (v := .ref m0) (C := RX12) (T := TX12) (N := 49) hx hb hta inlX12 hown hK hP 0 rfl rfl 0 (by decide) (hta _ wk_149) (fun _ h9 => h9) rfl dX12_row_1 ?_
  refine lv_iconst (v := 1) hx hb dX12_row_4 (by decide) ?_
  refine va_iald (D := D) hx hb hK hP 1 0 rfl rfl (tl_in (by decide) (by decide)) dX12_row_5 ?_
  refine W.eq (g2 := F0 m 6 ls ([.int 0])) (by rw [hsd _ (by decide)]) ?_
  refine lv_bipush (v := 24) hx hb dX12_row_6 (by decide) ?_
  refine lv_icmp_eq (tgt := 35) hx hb dX12_row_8 (by decide) (fun c => absurd c (by decide)) (fun _ => ?_)
  refine lv_iload_n hx hb dX12_row_11 rfl (lv_at hl 1 rfl) ?_
  refine lv_i2l (v := p0.toInt64) hx hb dX12_row_12 (by first | rfl | decide) ?_
  refine lv_lconst (v := 0) hx hb dX12_row_13 (by decide) ?_
  refine lv_ldc2 (v := 3) hx hb hown (hta _ wk_221) dX12_row_14 ?_
  have hPc := hP.sub (ws' := []) [] rfl
  have hDc := hD.sub (ws' := []) [] (by decide) rfl
  refine tl_si (tl_rS (As := [.long p0.toInt64, .long 0, .long 3]) (rest := []) ⟨hx, hb, hml, hown, hta⟩ hK hN hPc hDc lk_X12_112 (c_X12_in l D cy s.heap.size p0.toInt64 0 3 ) rfl rfl ⟨Nat.le_of_ble_eq_true rfl, Nat.le_of_ble_eq_true rfl⟩ rfl hl.1 rfl (Nat.le_of_ble_eq_true rfl) dX12_row_17 ⟨Nat.le_of_ble_eq_true rfl, Nat.le_of_ble_eq_true rfl⟩) (fun r_2 hw_1 => ?_)
  simp only [Int32.toInt_toInt64] at hw_1
  have hw_1 : tl_E r_2 ((0 : Int) ≤ p0.toInt ∧ p0.toInt ≤ (3 : Int)) 1 0 := hw_1
  refine lv_if_eq (tgt := 35) hx hb dX12_row_20 (by decide) (fun c_3 => ?_) (fun c_3 => ?_)
  · have c_3 := hw_1.f c_3
    refine lv_iconst (v := (-1)) hx hb dX12_row_35 (by decide) ?_
    have hP9 := hP.sub (ws' := []) [] rfl
    have hD9 := hD.sub (ws' := []) [] (by decide) rfl
    have hS : va_S A s.heap s.heap [] := hS
    exact W.iret (v := (-1)) hx hb hr (fun t ht hW => ⟨⟨_, (), rfl, (Or.inr ⟨by omega, rfl⟩), by rw [ht]; exact hP9, hD9⟩, hS.F ht⟩) hS.2.2 dX12_row_36
  · have c_3 := hw_1.t c_3
    refine lv_iload_n hx hb dX12_row_23 rfl (lv_at hl 2 rfl) ?_
    refine lv_i2l (v := p1.toInt64) hx hb dX12_row_24 (by first | rfl | decide) ?_
    refine lv_lconst (v := 0) hx hb dX12_row_25 (by decide) ?_
    refine lv_ldc2 (v := 999) hx hb hown (hta _ wk_222) dX12_row_26 ?_
    have hPc := hP.sub (ws' := []) [] rfl
    have hDc := hD.sub (ws' := []) [] (by decide) rfl
    refine tl_si (tl_rS (As := [.long p1.toInt64, .long 0, .long 999]) (rest := []) ⟨hx, hb, hml, hown, hta⟩ hK hN hPc hDc lk_X12_112 (c_X12_in l D cy s.heap.size p1.toInt64 0 999 ) rfl rfl ⟨Nat.le_of_ble_eq_true rfl, Nat.le_of_ble_eq_true rfl⟩ rfl hl.1 rfl (Nat.le_of_ble_eq_true rfl) dX12_row_29 ⟨Nat.le_of_ble_eq_true rfl, Nat.le_of_ble_eq_true rfl⟩) (fun r_5 hw_4 => ?_)
    simp only [Int32.toInt_toInt64] at hw_4
    have hw_4 : tl_E r_5 ((0 : Int) ≤ p1.toInt ∧ p1.toInt ≤ (999 : Int)) 1 0 := hw_4
    refine lv_if_ne (tgt := 37) hx hb dX12_row_32 (by decide) (fun c_6 => ?_) (fun c_6 => ?_)
    · have c_6 := hw_4.t c_6
      refine lv_aload_n hx hb dX12_row_37 rfl (lv_at hl 0 rfl) ?_
      refine va_get (D := D) (ci := 12) (v := .ref m0) (C := RX12) (T := TX12) (N := 49) hx hb hta inlX12 hown hK hP 0 rfl rfl 0 (by decide) (hta _ wk_149) (fun _ h9 => h9) rfl dX12_row_38 ?_
      refine lv_iconst (v := 1) hx hb dX12_row_41 (by decide) ?_
      refine va_iald (D := D) hx hb hK hP 1 0 rfl rfl (tl_in (by decide) (by decide)) dX12_row_42 ?_
      refine W.eq (g2 := F0 m 43 ls ([.int 0])) (by rw [hsd _ (by decide)]) ?_
      refine lv_istore_n (lv' := [(3, .int 0), (0, .ref md), (1, .int p0), (2, .int p1)]) hx hb dX12_row_43 rfl hl (by decide) rfl (fun ls hl => ?_)
      refine lv_aload_n hx hb dX12_row_44 rfl (lv_at hl 1 rfl) ?_
      refine va_get (D := D) (ci := 12) (v := .ref m0) (C := RX12) (T := TX12) (N := 49) hx hb hta inlX12 hown hK hP 0 rfl rfl 0 (by decide) (hta _ wk_149) (fun _ h9 => h9) rfl dX12_row_45 ?_
      refine lv_bipush (v := 9) hx hb dX12_row_48 (by decide) ?_
      refine lv_iconst (v := 3) hx hb dX12_row_50 (by decide) ?_
      refine lv_iload_n hx hb dX12_row_51 rfl (lv_at hl 0 rfl) ?_
      refine lv_imul hx hb dX12_row_52 ?_
      refine lv_topi (fun z_7 ez_7 => ?_)
      obtain rfl : z_7 = (0 : Int32) := ez_7.trans (by decide)
      refine lv_iadd hx hb dX12_row_53 ?_
      refine lv_topi (fun z_8 ez_8 => ?_)
      obtain rfl : z_8 = (9 : Int32) := ez_8.trans (by decide)
      refine lv_iload_n hx hb dX12_row_54 rfl (lv_at hl 2 rfl) ?_
      refine va_iast (D := D) hx hb hK hP hD hS 1 0 rfl rfl (tl_in (by decide) (by decide)) dX12_row_55 (fun H locs hP hD hS => ?_)
      have hP : va_P D vwCl [(md, .inr (12, [.ref m0, .ref m1, .int 0, .ref m3, .ref m4, .ref m5, .ref m6, .ref m7, .ref m8, .ref m9, .ref m10, .ref m11, .ref m12, .ref m13, .ref m14, .ref m15, .ref m16, .int 0, .int 0, .int 0, .int 0, .int 0, .int 0, .int 0, .ref m24, .int 0, .ref m26, .int 0, .ref m28, .long 0, .ref m30, .ref m31, .int 0, .int 0, .int 0, .ref m35, .ref m36, .int 0, .ref m38, .int 0, .int 0, .ref m41, .ref m42, .ref m43, .ref m44, .ref m45, .ref m46, .ref m47, .ref m48])), (m0, .inl (cy 0, 7666, .inl (upd sd (9 : Int32).toNatClampNeg p0)))] H := hP
      have hD : va_D A [(md, .inr (12, [.ref m0, .ref m1, .int 0, .ref m3, .ref m4, .ref m5, .ref m6, .ref m7, .ref m8, .ref m9, .ref m10, .ref m11, .ref m12, .ref m13, .ref m14, .ref m15, .ref m16, .int 0, .int 0, .int 0, .int 0, .int 0, .int 0, .int 0, .ref m24, .int 0, .ref m26, .int 0, .ref m28, .long 0, .ref m30, .ref m31, .int 0, .int 0, .int 0, .ref m35, .ref m36, .int 0, .ref m38, .int 0, .int 0, .ref m41, .ref m42, .ref m43, .ref m44, .ref m45, .ref m46, .ref m47, .ref m48])), (m0, .inl (cy 0, 7666, .inl (upd sd (9 : Int32).toNatClampNeg p0)))] := hD
      generalize (upd sd (9 : Int32).toNatClampNeg p0) = f_9 at hP hD
      refine lv_aload_n hx hb dX12_row_56 rfl (lv_at hl 1 rfl) ?_
      refine va_get (D := D) (ci := 12) (v := .ref m0) (C := RX12) (T := TX12) (N := 49) hx hb hta inlX12 hown hK hP 0 rfl rfl 0 (by decide) (hta _ wk_149) (fun _ h9 => h9) rfl dX12_row_57 ?_
      refine lv_bipush (v := 9) hx hb dX12_row_60 (by decide) ?_
      refine lv_iconst (v := 3) hx hb dX12_row_62 (by decide) ?_
      refine lv_iload_n hx hb dX12_row_63 rfl (lv_at hl 0 rfl) ?_
      refine lv_imul hx hb dX12_row_64 ?_
      refine lv_topi (fun z_10 ez_10 => ?_)
      obtain rfl : z_10 = (0 : Int32) := ez_10.trans (by decide)
      refine lv_iadd hx hb dX12_row_65 ?_
      refine lv_topi (fun z_11 ez_11 => ?_)
      obtain rfl : z_11 = (9 : Int32) := ez_11.trans (by decide)
      refine lv_iconst (v := 1) hx hb dX12_row_66 (by decide) ?_
      refine lv_iadd hx hb dX12_row_67 ?_
      refine lv_topi (fun z_12 ez_12 => ?_)
      obtain rfl : z_12 = (10 : Int32) := ez_12.trans (by decide)
      refine lv_iload_n hx hb dX12_row_68 rfl (lv_at hl 3 rfl) ?_
      refine va_iast (D := D) hx hb hK hP hD hS 1 0 rfl rfl (tl_in (by decide) (by decide)) dX12_row_69 (fun H locs hP hD hS => ?_)
      have hP : va_P D vwCl [(md, .inr (12, [.ref m0, .ref m1, .int 0, .ref m3, .ref m4, .ref m5, .ref m6, .ref m7, .ref m8, .ref m9, .ref m10, .ref m11, .ref m12, .ref m13, .ref m14, .ref m15, .ref m16, .int 0, .int 0, .int 0, .int 0, .int 0, .int 0, .int 0, .ref m24, .int 0, .ref m26, .int 0, .ref m28, .long 0, .ref m30, .ref m31, .int 0, .int 0, .int 0, .ref m35, .ref m36, .int 0, .ref m38, .int 0, .int 0, .ref m41, .ref m42, .ref m43, .ref m44, .ref m45, .ref m46, .ref m47, .ref m48])), (m0, .inl (cy 0, 7666, .inl (upd f_9 (10 : Int32).toNatClampNeg p1)))] H := hP
      have hD : va_D A [(md, .inr (12, [.ref m0, .ref m1, .int 0, .ref m3, .ref m4, .ref m5, .ref m6, .ref m7, .ref m8, .ref m9, .ref m10, .ref m11, .ref m12, .ref m13, .ref m14, .ref m15, .ref m16, .int 0, .int 0, .int 0, .int 0, .int 0, .int 0, .int 0, .ref m24, .int 0, .ref m26, .int 0, .ref m28, .long 0, .ref m30, .ref m31, .int 0, .int 0, .int 0, .ref m35, .ref m36, .int 0, .ref m38, .int 0, .int 0, .ref m41, .ref m42, .ref m43, .ref m44, .ref m45, .ref m46, .ref m47, .ref m48])), (m0, .inl (cy 0, 7666, .inl (upd f_9 (10 : Int32).toNatClampNeg p1)))] := hD
      generalize (upd f_9 (10 : Int32).toNatClampNeg p1) = f_13 at hP hD
      refine lv_aload_n hx hb dX12_row_70 rfl (lv_at hl 1 rfl) ?_
      refine va_get (D := D) (ci := 12) (v := .ref m0) (C := RX12) (T := TX12) (N := 49) hx hb hta inlX12 hown hK hP 0 rfl rfl 0 (by decide) (hta _ wk_149) (fun _ h9 => h9) rfl dX12_row_71 ?_
      refine lv_bipush (v := 9) hx hb dX12_row_74 (by decide) ?_
      refine lv_iconst (v := 3) hx hb dX12_row_76 (by decide) ?_
      refine lv_iload_n hx hb dX12_row_77 rfl (lv_at hl 0 rfl) ?_
      refine lv_imul hx hb dX12_row_78 ?_
      refine lv_topi (fun z_14 ez_14 => ?_)
      obtain rfl : z_14 = (0 : Int32) := ez_14.trans (by decide)
      refine lv_iadd hx hb dX12_row_79 ?_
      refine lv_topi (fun z_15 ez_15 => ?_)
      obtain rfl : z_15 = (9 : Int32) := ez_15.trans (by decide)
      refine lv_iconst (v := 2) hx hb dX12_row_80 (by decide) ?_
      refine lv_iadd hx hb dX12_row_81 ?_
      refine lv_topi (fun z_16 ez_16 => ?_)
      obtain rfl : z_16 = (11 : Int32) := ez_16.trans (by decide)
      refine lv_aload_n hx hb dX12_row_82 rfl (lv_at hl 1 rfl) ?_
      refine va_get (D := D) (ci := 12) (v := .ref m0) (C := RX12) (T := TX12) (N := 49) hx hb hta inlX12 hown hK hP 0 rfl rfl 0 (by decide) (hta _ wk_149) (fun _ h9 => h9) rfl dX12_row_83 ?_
      refine lv_iconst (v := 0) hx hb dX12_row_86 (by decide) ?_
      refine va_iald (D := D) hx hb hK hP 1 0 rfl rfl (tl_in (by decide) (by decide)) dX12_row_87 ?_
      refine lv_topi (fun z_17 ez_17 => ?_)
      refine va_iast (D := D) hx hb hK hP hD hS 1 0 rfl rfl (tl_in (by decide) (by decide)) dX12_row_88 (fun H locs hP hD hS => ?_)
      have hP : va_P D vwCl [(md, .inr (12, [.ref m0, .ref m1, .int 0, .ref m3, .ref m4, .ref m5, .ref m6, .ref m7, .ref m8, .ref m9, .ref m10, .ref m11, .ref m12, .ref m13, .ref m14, .ref m15, .ref m16, .int 0, .int 0, .int 0, .int 0, .int 0, .int 0, .int 0, .ref m24, .int 0, .ref m26, .int 0, .ref m28, .long 0, .ref m30, .ref m31, .int 0, .int 0, .int 0, .ref m35, .ref m36, .int 0, .ref m38, .int 0, .int 0, .ref m41, .ref m42, .ref m43, .ref m44, .ref m45, .ref m46, .ref m47, .ref m48])), (m0, .inl (cy 0, 7666, .inl (upd f_13 (11 : Int32).toNatClampNeg z_17)))] H := hP
      have hD : va_D A [(md, .inr (12, [.ref m0, .ref m1, .int 0, .ref m3, .ref m4, .ref m5, .ref m6, .ref m7, .ref m8, .ref m9, .ref m10, .ref m11, .ref m12, .ref m13, .ref m14, .ref m15, .ref m16, .int 0, .int 0, .int 0, .int 0, .int 0, .int 0, .int 0, .ref m24, .int 0, .ref m26, .int 0, .ref m28, .long 0, .ref m30, .ref m31, .int 0, .int 0, .int 0, .ref m35, .ref m36, .int 0, .ref m38, .int 0, .int 0, .ref m41, .ref m42, .ref m43, .ref m44, .ref m45, .ref m46, .ref m47, .ref m48])), (m0, .inl (cy 0, 7666, .inl (upd f_13 (11 : Int32).toNatClampNeg z_17)))] := hD
      generalize (upd f_13 (11 : Int32).toNatClampNeg z_17) = f_18 at hP hD
      refine lv_iconst (v := 0) hx hb dX12_row_89 (by decide) ?_
      refine lv_istore (lv' := [(4, .int 0), (3, .int 0), (0, .ref md), (1, .int p0), (2, .int p1)]) hx hb dX12_row_90 hl (by decide) rfl (fun ls hl => ?_)
      refine tl_ind (G := fun H locs ls => W p l e ((headSpec (tl_w yX12_row cX12_row 5 (some .int)) ({ frames := 1, cells := 0, slots := 0, locals := 25 })).room) s m #[.ref md, .int p0, .int p1] below meth c H locs 0 0 (MQ below (va_Qi (fun (r : Int32) (u : Unit) => tl_E r (0 ≤ p0.toInt ∧ p0.toInt ≤ 3 ∧ 0 ≤ p1.toInt ∧ p1.toInt ≤ 999) 0 (-1)) (tl_B D A (fun u : Unit => [])) A) #[.ref md, .int p0, .int p1] s 0 0 A) (F0 m 92 ls [])) (α := Int32 × (Nat → Int32)) (fun aq => (300 - aq.1.toInt).toNat) (fun aq H locs ls => (0 ≤ aq.1.toInt) ∧ (aq.1.toInt ≤ 300) ∧ va_P D vwCl [(md, .inr (12, [.ref m0, .ref m1, .int 0, .ref m3, .ref m4, .ref m5, .ref m6, .ref m7, .ref m8, .ref m9, .ref m10, .ref m11, .ref m12, .ref m13, .ref m14, .ref m15, .ref m16, .int 0, .int 0, .int 0, .int 0, .int 0, .int 0, .int 0, .ref m24, .int 0, .ref m26, .int 0, .ref m28, .long 0, .ref m30, .ref m31, .int 0, .int 0, .int 0, .ref m35, .ref m36, .int 0, .ref m38, .int 0, .int 0, .ref m41, .ref m42, .ref m43, .ref m44, .ref m45, .ref m46, .ref m47, .ref m48])), (m0, .inl (cy 0, 7666, .inl aq.2))] H ∧ va_D A [(md, .inr (12, [.ref m0, .ref m1, .int 0, .ref m3, .ref m4, .ref m5, .ref m6, .ref m7, .ref m8, .ref m9, .ref m10, .ref m11, .ref m12, .ref m13, .ref m14, .ref m15, .ref m16, .int 0, .int 0, .int 0, .int 0, .int 0, .int 0, .int 0, .ref m24, .int 0, .ref m26, .int 0, .ref m28, .long 0, .ref m30, .ref m31, .int 0, .int 0, .int 0, .ref m35, .ref m36, .int 0, .ref m38, .int 0, .int 0, .ref m41, .ref m42, .ref m43, .ref m44, .ref m45, .ref m46, .ref m47, .ref m48])), (m0, .inl (cy 0, 7666, .inl aq.2))] ∧ va_S A s.heap H locs ∧ lv_has ls 5 [(4, .int aq.1), (0, .ref md), (1, .int p0), (2, .int p1), (3, .int 0)]) ?_ (0, f_18) H locs ls ⟨(show 0 ≤ (0 : Int) from (by omega)), (show (0 : Int) ≤ 300 from (by omega)), hP, hD, hS, lv_sub hl [0, 2, 3, 4, 1] rfl⟩
      rintro ⟨i, f1⟩ H locs ls ⟨h0, h1, hP, hD, hS, hl⟩ ih
      have hP : va_P D vwCl [(md, .inr (12, [.ref m0, .ref m1, .int 0, .ref m3, .ref m4, .ref m5, .ref m6, .ref m7, .ref m8, .ref m9, .ref m10, .ref m11, .ref m12, .ref m13, .ref m14, .ref m15, .ref m16, .int 0, .int 0, .int 0, .int 0, .int 0, .int 0, .int 0, .ref m24, .int 0, .ref m26, .int 0, .ref m28, .long 0, .ref m30, .ref m31, .int 0, .int 0, .int 0, .ref m35, .ref m36, .int 0, .ref m38, .int 0, .int 0, .ref m41, .ref m42, .ref m43, .ref m44, .ref m45, .ref m46, .ref m47, .ref m48])), (m0, .inl (cy 0, 7666, .inl f1))] H := hP
      have hD : va_D A [(md, .inr (12, [.ref m0, .ref m1, .int 0, .ref m3, .ref m4, .ref m5, .ref m6, .ref m7, .ref m8, .ref m9, .ref m10, .ref m11, .ref m12, .ref m13, .ref m14, .ref m15, .ref m16, .int 0, .int 0, .int 0, .int 0, .int 0, .int 0, .int 0, .ref m24, .int 0, .ref m26, .int 0, .ref m28, .long 0, .ref m30, .ref m31, .int 0, .int 0, .int 0, .ref m35, .ref m36, .int 0, .ref m38, .int 0, .int 0, .ref m41, .ref m42, .ref m43, .ref m44, .ref m45, .ref m46, .ref m47, .ref m48])), (m0, .inl (cy 0, 7666, .inl f1))] := hD
      have h0 : 0 ≤ i.toInt := h0
      have h1 : i.toInt ≤ 300 := h1
      have hl : lv_has ls 5 [(4, .int i), (0, .ref md), (1, .int p0), (2, .int p1), (3, .int 0)] := hl
      refine lv_iload hx hb dX12_row_92 (lv_at hl 0 rfl) ?_
      refine lv_sipush (v := 300) hx hb dX12_row_94 (by decide) ?_
      refine lv_icmp_ge (tgt := 125) hx hb dX12_row_97 (by decide) (fun c_19 => ?_) (fun c_19 => ?_)
      · have c_19 : (300 : Int) ≤ i.toInt := tl_le c_19
        refine lv_aload_n hx hb dX12_row_125 rfl (lv_at hl 1 rfl) ?_
        refine va_get (D := D) (ci := 12) (v := .ref m0) (C := RX12) (T := TX12) (N := 49) hx hb hta inlX12 hown hK hP 0 rfl rfl 0 (by decide) (hta _ wk_149) (fun _ h9 => h9) rfl dX12_row_126 ?_
        refine lv_iconst (v := 1) hx hb dX12_row_129 (by decide) ?_
        refine lv_dup2_11 hx hb dX12_row_130 rfl rfl ?_
        refine va_iald (D := D) hx hb hK hP 1 0 rfl rfl (tl_in (by decide) (by decide)) dX12_row_131 ?_
        refine lv_topi (fun z_20 ez_20 => ?_)
        refine lv_iconst (v := 1) hx hb dX12_row_132 (by decide) ?_
        refine lv_iadd hx hb dX12_row_133 ?_
        refine lv_topi (fun z_21 ez_21 => ?_)
        refine va_iast (D := D) hx hb hK hP hD hS 1 0 rfl rfl (tl_in (by decide) (by decide)) dX12_row_134 (fun H locs hP hD hS => ?_)
        have hP : va_P D vwCl [(md, .inr (12, [.ref m0, .ref m1, .int 0, .ref m3, .ref m4, .ref m5, .ref m6, .ref m7, .ref m8, .ref m9, .ref m10, .ref m11, .ref m12, .ref m13, .ref m14, .ref m15, .ref m16, .int 0, .int 0, .int 0, .int 0, .int 0, .int 0, .int 0, .ref m24, .int 0, .ref m26, .int 0, .ref m28, .long 0, .ref m30, .ref m31, .int 0, .int 0, .int 0, .ref m35, .ref m36, .int 0, .ref m38, .int 0, .int 0, .ref m41, .ref m42, .ref m43, .ref m44, .ref m45, .ref m46, .ref m47, .ref m48])), (m0, .inl (cy 0, 7666, .inl (upd f1 (1 : Int32).toNatClampNeg z_21)))] H := hP
        have hD : va_D A [(md, .inr (12, [.ref m0, .ref m1, .int 0, .ref m3, .ref m4, .ref m5, .ref m6, .ref m7, .ref m8, .ref m9, .ref m10, .ref m11, .ref m12, .ref m13, .ref m14, .ref m15, .ref m16, .int 0, .int 0, .int 0, .int 0, .int 0, .int 0, .int 0, .ref m24, .int 0, .ref m26, .int 0, .ref m28, .long 0, .ref m30, .ref m31, .int 0, .int 0, .int 0, .ref m35, .ref m36, .int 0, .ref m38, .int 0, .int 0, .ref m41, .ref m42, .ref m43, .ref m44, .ref m45, .ref m46, .ref m47, .ref m48])), (m0, .inl (cy 0, 7666, .inl (upd f1 (1 : Int32).toNatClampNeg z_21)))] := hD
        generalize (upd f1 (1 : Int32).toNatClampNeg z_21) = f_22 at hP hD
        refine lv_iload_n hx hb dX12_row_135 rfl (lv_at hl 4 rfl) ?_
        have hP9 := hP.sub (ws' := []) [] rfl
        have hD9 := hD.sub (ws' := []) [] (by decide) rfl
        exact W.iret (v := 0) hx hb hr (fun t ht hW => ⟨⟨_, (), rfl, (Or.inl ⟨by omega, rfl⟩), by rw [ht]; exact hP9, hD9⟩, hS.F ht⟩) hS.2.2 dX12_row_136
      · have c_19 : i.toInt < (300 : Int) := tl_nle c_19
        refine lv_aload_n hx hb dX12_row_100 rfl (lv_at hl 1 rfl) ?_
        refine va_get (D := D) (ci := 12) (v := .ref m0) (C := RX12) (T := TX12) (N := 49) hx hb hta inlX12 hown hK hP 0 rfl rfl 0 (by decide) (hta _ wk_149) (fun _ h9 => h9) rfl dX12_row_101 ?_
        refine lv_sipush (v := 441) hx hb dX12_row_104 (by decide) ?_
        refine lv_sipush (v := 300) hx hb dX12_row_107 (by decide) ?_
        refine lv_iload_n hx hb dX12_row_110 rfl (lv_at hl 4 rfl) ?_
        refine lv_imul hx hb dX12_row_111 ?_
        refine lv_topi (fun z_23 ez_23 => ?_)
        obtain rfl : z_23 = (0 : Int32) := ez_23.trans (by decide)
        refine lv_iadd hx hb dX12_row_112 ?_
        refine lv_topi (fun z_24 ez_24 => ?_)
        obtain rfl : z_24 = (441 : Int32) := ez_24.trans (by decide)
        refine lv_iload hx hb dX12_row_113 (lv_at hl 0 rfl) ?_
        refine lv_iadd hx hb dX12_row_115 ?_
        refine lv_topi (fun z_25 ez_25 => ?_)
        have iz_25 : z_25.toInt = (441 : Int) + i.toInt := by rw [ez_25]; exact tl_addN 441 i rfl rfl (by omega) (by omega)
        refine lv_ldc (v := (-1000000)) hx hb hown (hta _ wk_182) dX12_row_116 ?_
        refine va_iast (D := D) hx hb hK hP hD hS 1 0 rfl rfl (tl_in (by omega) (by omega)) dX12_row_118 (fun H locs hP hD hS => ?_)
        have hP : va_P D vwCl [(md, .inr (12, [.ref m0, .ref m1, .int 0, .ref m3, .ref m4, .ref m5, .ref m6, .ref m7, .ref m8, .ref m9, .ref m10, .ref m11, .ref m12, .ref m13, .ref m14, .ref m15, .ref m16, .int 0, .int 0, .int 0, .int 0, .int 0, .int 0, .int 0, .ref m24, .int 0, .ref m26, .int 0, .ref m28, .long 0, .ref m30, .ref m31, .int 0, .int 0, .int 0, .ref m35, .ref m36, .int 0, .ref m38, .int 0, .int 0, .ref m41, .ref m42, .ref m43, .ref m44, .ref m45, .ref m46, .ref m47, .ref m48])), (m0, .inl (cy 0, 7666, .inl (upd f1 z_25.toNatClampNeg (-1000000))))] H := hP
        have hD : va_D A [(md, .inr (12, [.ref m0, .ref m1, .int 0, .ref m3, .ref m4, .ref m5, .ref m6, .ref m7, .ref m8, .ref m9, .ref m10, .ref m11, .ref m12, .ref m13, .ref m14, .ref m15, .ref m16, .int 0, .int 0, .int 0, .int 0, .int 0, .int 0, .int 0, .ref m24, .int 0, .ref m26, .int 0, .ref m28, .long 0, .ref m30, .ref m31, .int 0, .int 0, .int 0, .ref m35, .ref m36, .int 0, .ref m38, .int 0, .int 0, .ref m41, .ref m42, .ref m43, .ref m44, .ref m45, .ref m46, .ref m47, .ref m48])), (m0, .inl (cy 0, 7666, .inl (upd f1 z_25.toNatClampNeg (-1000000))))] := hD
        generalize (upd f1 z_25.toNatClampNeg (-1000000)) = f_26 at hP hD
        obtain ⟨z_27, ez_27⟩ : ∃ y : Int32, y = i + 1 := ⟨_, rfl⟩
        refine lv_iinc (v := z_27) (lv' := [(4, .int z_27), (0, .ref md), (1, .int p0), (2, .int p1), (3, .int 0)]) hx hb dX12_row_119 hl (k := 0) rfl (by rw [ez_27]; rfl) (by decide) rfl (fun ls hl => ?_)
        have iz_27 : z_27.toInt = i.toInt + 1 := by rw [ez_27]; exact tl_addL i 1 (by decide) (by omega) (by omega)
        refine lv_goto (tgt := 92) hx hb dX12_row_122 (by decide) ?_
        exact ih (z_27, f_26) H locs ls (by show (300 - z_27.toInt).toNat < (300 - i.toInt).toNat; omega) ⟨(show 0 ≤ z_27.toInt from (by omega)), (show z_27.toInt ≤ 300 from (by omega)), hP, hD, hS, lv_sub hl [0, 1, 2, 3, 4] rfl⟩
    · have c_6 := hw_4.f c_6
      refine lv_iconst (v := (-1)) hx hb dX12_row_35 (by decide) ?_
      have hP9 := hP.sub (ws' := []) [] rfl
      have hD9 := hD.sub (ws' := []) [] (by decide) rfl
      have hS : va_S A s.heap s.heap [] := hS
      exact W.iret (v := (-1)) hx hb hr (fun t ht hW => ⟨⟨_, (), rfl, (Or.inr ⟨by omega, rfl⟩), by rw [ht]; exact hP9, hD9⟩, hS.F ht⟩) hS.2.2 dX12_row_36
set_option maxHeartbeats 4000000 in
set_option maxRecDepth 100000 in
theorem c_X12_four_0 (l : Launch) (D : va_G) (cy : Nat → ClassId) (sz : Nat) (md : Nat) (p0 : Int32) (m0 : Nat) (m1 : Nat) (m3 : Nat) (m4 : Nat) (m5 : Nat) (m6 : Nat) (m7 : Nat) (m8 : Nat) (m9 : Nat) (m10 : Nat) (m11 : Nat) (m12 : Nat) (m13 : Nat) (m14 : Nat) (m15 : Nat) (m16 : Nat) (m24 : Nat) (m26 : Nat) (m28 : Nat) (m30 : Nat) (m31 : Nat) (m35 : Nat) (m36 : Nat) (m38 : Nat) (m41 : Nat) (m42 : Nat) (m43 : Nat) (m44 : Nat) (m45 : Nat) (m46 : Nat) (m47 : Nat) (m48 : Nat) (f : Nat → Int32)  : Met l yX12_four (tl_w yX12_four cX12_four 3 none) ({ frames := 0, cells := 0, slots := 0, locals := 0 }) (va_Pc [.ref md, .int p0] (tl_P D cy [(md, .inr (12, [.ref m0, .ref m1, .int 0, .ref m3, .ref m4, .ref m5, .ref m6, .ref m7, .ref m8, .ref m9, .ref m10, .ref m11, .ref m12, .ref m13, .ref m14, .ref m15, .ref m16, .int 0, .int 0, .int 0, .int 0, .int 0, .int 0, .int 0, .ref m24, .int 0, .ref m26, .int 0, .ref m28, .long 0, .ref m30, .ref m31, .int 0, .int 0, .int 0, .ref m35, .ref m36, .int 0, .ref m38, .int 0, .int 0, .ref m41, .ref m42, .ref m43, .ref m44, .ref m45, .ref m46, .ref m47, .ref m48])), (m1, .inl (cy 3, 400, .inl f))] sz)) (va_Qv (fun (u : Nat → Int32) => True) (tl_B D (va_A [(md, .inr (12, [.ref m0, .ref m1, .int 0, .ref m3, .ref m4, .ref m5, .ref m6, .ref m7, .ref m8, .ref m9, .ref m10, .ref m11, .ref m12, .ref m13, .ref m14, .ref m15, .ref m16, .int 0, .int 0, .int 0, .int 0, .int 0, .int 0, .int 0, .ref m24, .int 0, .ref m26, .int 0, .ref m28, .long 0, .ref m30, .ref m31, .int 0, .int 0, .int 0, .ref m35, .ref m36, .int 0, .ref m38, .int 0, .int 0, .ref m41, .ref m42, .ref m43, .ref m44, .ref m45, .ref m46, .ref m47, .ref m48])), (m1, .inl (cy 3, 400, .inl f))] sz) (fun u : Nat → Int32 => [(md, .inr (12, [.ref m0, .ref m1, .int 4, .ref m3, .ref m4, .ref m5, .ref m6, .ref m7, .ref m8, .ref m9, .ref m10, .ref m11, .ref m12, .ref m13, .ref m14, .ref m15, .ref m16, .int 0, .int 0, .int 0, .int 0, .int 0, .int 0, .int 0, .ref m24, .int 0, .ref m26, .int 0, .ref m28, .long 0, .ref m30, .ref m31, .int 0, .int 0, .int 0, .ref m35, .ref m36, .int 0, .ref m38, .int 0, .int 0, .ref m41, .ref m42, .ref m43, .ref m44, .ref m45, .ref m46, .ref m47, .ref m48])), (m1, .inl (cy 3, 400, .inl u))])) (va_A [(md, .inr (12, [.ref m0, .ref m1, .int 0, .ref m3, .ref m4, .ref m5, .ref m6, .ref m7, .ref m8, .ref m9, .ref m10, .ref m11, .ref m12, .ref m13, .ref m14, .ref m15, .ref m16, .int 0, .int 0, .int 0, .int 0, .int 0, .int 0, .int 0, .ref m24, .int 0, .ref m26, .int 0, .ref m28, .long 0, .ref m30, .ref m31, .int 0, .int 0, .int 0, .ref m35, .ref m36, .int 0, .ref m38, .int 0, .int 0, .ref m41, .ref m42, .ref m43, .ref m44, .ref m45, .ref m46, .ref m47, .ref m48])), (m1, .inl (cy 3, 400, .inl f))] sz)) 0 0 (va_A [(md, .inr (12, [.ref m0, .ref m1, .int 0, .ref m3, .ref m4, .ref m5, .ref m6, .ref m7, .ref m8, .ref m9, .ref m10, .ref m11, .ref m12, .ref m13, .ref m14, .ref m15, .ref m16, .int 0, .int 0, .int 0, .int 0, .int 0, .int 0, .int 0, .ref m24, .int 0, .ref m26, .int 0, .ref m28, .long 0, .ref m30, .ref m31, .int 0, .int 0, .int 0, .ref m35, .ref m36, .int 0, .ref m38, .int 0, .int 0, .ref m41, .ref m42, .ref m43, .ref m44, .ref m45, .ref m46, .ref m47, .ref m48])), (m1, .inl (cy 3, 400, .inl f))] sz) := by
  refine Met.ofW (cc := cX12_four) (maxL := 3) (ret := none) (by decide) rfl ?_
  intro p e s m args below meth c s₁ B hml hv
  obtain ⟨rfl, hsz, hP, hK, hD0, hN⟩ := hv
  have hx := B.exec
  have hb := B.bytes
  have hr := B.returns
  have hta := tl_hta (atoms_spec (ws := tl_w yX12_four cX12_four 3 none) B.pre)
  have hown : s.vm.findClass RX12 = some m.cls := findClass_of_methodNamed B.named
  have hlocks := B.notSynchronized
  subst hsz
  have hD := hD0.self (sz := s.heap.size)
  generalize hAe : va_A [(md, .inr (12, [.ref m0, .ref m1, .int 0, .ref m3, .ref m4, .ref m5, .ref m6, .ref m7, .ref m8, .ref m9, .ref m10, .ref m11, .ref m12, .ref m13, .ref m14, .ref m15, .ref m16, .int 0, .int 0, .int 0, .int 0, .int 0, .int 0, .int 0, .ref m24, .int 0, .ref m26, .int 0, .ref m28, .long 0, .ref m30, .ref m31, .int 0, .int 0, .int 0, .ref m35, .ref m36, .int 0, .ref m38, .int 0, .int 0, .ref m41, .ref m42, .ref m43, .ref m44, .ref m45, .ref m46, .ref m47, .ref m48])), (m1, .inl (cy 3, 400, .inl f))] s.heap.size = A at hD ⊢
  have hA : ∀ q : Nat, s.heap.size ≤ q → A q := fun q h => by rw [← hAe]; exact Or.inr h
  have hS : va_S A s.heap s.heap [] := va_S.rf
  have hP : va_P D vwCl [(md, .inr (12, [.ref m0, .ref m1, .int 0, .ref m3, .ref m4, .ref m5, .ref m6, .ref m7, .ref m8, .ref m9, .ref m10, .ref m11, .ref m12, .ref m13, .ref m14, .ref m15, .ref m16, .int 0, .int 0, .int 0, .int 0, .int 0, .int 0, .int 0, .ref m24, .int 0, .ref m26, .int 0, .ref m28, .long 0, .ref m30, .ref m31, .int 0, .int 0, .int 0, .ref m35, .ref m36, .int 0, .ref m38, .int 0, .int 0, .ref m41, .ref m42, .ref m43, .ref m44, .ref m45, .ref m46, .ref m47, .ref m48])), (m1, .inl (cy 3, 400, .inl f))] s.heap := hP
  have hl := lv_entry ([.ref md, .int p0]) (n := 3) (Nat.le_of_ble_eq_true rfl)
  rw [lg_entry_eq]
  generalize (lg_sl ([.ref md, .int p0]) ++ List.replicate (3 - (lg_sl ([.ref md, .int p0])).length) Slot.unset).toArray = ls at hl ⊢
  have hl : lv_has ls 3 [(0, .ref md), (1, .int p0)] := hl
  refine lv_bipush (v := 24) hx hb dX12_four_0 (by decide) ?_
  refine lv_istore_n (lv' := [(2, .int 24), (0, .ref md), (1, .int p0)]) hx hb dX12_four_2 rfl hl (by decide) rfl (fun ls hl => ?_)
  refine lv_iload_n hx hb dX12_four_3 rfl (lv_at hl 0 rfl) ?_
  refine lv_if_lt (tgt := 36) hx hb dX12_four_4 (by decide) (fun c => absurd c (by decide)) (fun _ => ?_)
  refine lv_aload_n hx hb dX12_four_7 rfl (lv_at hl 1 rfl) ?_
  refine va_get (D := D) (ci := 12) (v := .ref m1) (C := RX12) (T := TX12) (N := 49) hx hb hta inlX12 hown hK hP 0 rfl rfl 1 (by decide) (hta _ wk_151) (fun _ h9 => h9) rfl dX12_four_8 ?_
  refine lv_aload_n hx hb dX12_four_11 rfl (lv_at hl 1 rfl) ?_
  refine va_get (D := D) (ci := 12) (v := .int 0) (C := RX12) (T := TX12) (N := 49) hx hb hta inlX12 hown hK hP 0 rfl rfl 2 (by decide) (hta _ wk_347) (fun _ h9 => h9) rfl dX12_four_12 ?_
  refine lv_iload_n hx hb dX12_four_15 rfl (lv_at hl 2 rfl) ?_
  refine lv_iload_n hx hb dX12_four_16 rfl (lv_at hl 0 rfl) ?_
  refine lv_ishr hx hb dX12_four_17 ?_
  refine lv_topi (fun z_1 ez_1 => ?_)
  refine lv_i2b hx hb dX12_four_18 rfl ?_
  refine lv_topi (fun z_2 ez_2 => ?_)
  refine va_bast (D := D) hx hb hK hP hD hS 1 3 rfl rfl (tl_in (by decide) (by decide)) dX12_four_19 (fun H locs hP hD hS => ?_)
  have hP : va_P D vwCl [(md, .inr (12, [.ref m0, .ref m1, .int 0, .ref m3, .ref m4, .ref m5, .ref m6, .ref m7, .ref m8, .ref m9, .ref m10, .ref m11, .ref m12, .ref m13, .ref m14, .ref m15, .ref m16, .int 0, .int 0, .int 0, .int 0, .int 0, .int 0, .int 0, .ref m24, .int 0, .ref m26, .int 0, .ref m28, .long 0, .ref m30, .ref m31, .int 0, .int 0, .int 0, .ref m35, .ref m36, .int 0, .ref m38, .int 0, .int 0, .ref m41, .ref m42, .ref m43, .ref m44, .ref m45, .ref m46, .ref m47, .ref m48])), (m1, .inl (cy 3, 400, .inl (upd f (0 : Int32).toNatClampNeg (vp_nar .byte z_2))))] H := hP
  have hD : va_D A [(md, .inr (12, [.ref m0, .ref m1, .int 0, .ref m3, .ref m4, .ref m5, .ref m6, .ref m7, .ref m8, .ref m9, .ref m10, .ref m11, .ref m12, .ref m13, .ref m14, .ref m15, .ref m16, .int 0, .int 0, .int 0, .int 0, .int 0, .int 0, .int 0, .ref m24, .int 0, .ref m26, .int 0, .ref m28, .long 0, .ref m30, .ref m31, .int 0, .int 0, .int 0, .ref m35, .ref m36, .int 0, .ref m38, .int 0, .int 0, .ref m41, .ref m42, .ref m43, .ref m44, .ref m45, .ref m46, .ref m47, .ref m48])), (m1, .inl (cy 3, 400, .inl (upd f (0 : Int32).toNatClampNeg (vp_nar .byte z_2))))] := hD
  generalize (upd f (0 : Int32).toNatClampNeg (vp_nar .byte z_2)) = f_3 at hP hD
  refine lv_aload_n hx hb dX12_four_20 rfl (lv_at hl 1 rfl) ?_
  refine lv_dup hx hb dX12_four_21 rfl ?_
  refine va_get (D := D) (ci := 12) (v := .int 0) (C := RX12) (T := TX12) (N := 49) hx hb hta inlX12 hown hK hP 0 rfl rfl 2 (by decide) (hta _ wk_347) (fun _ h9 => h9) rfl dX12_four_22 ?_
  refine lv_iconst (v := 1) hx hb dX12_four_25 (by decide) ?_
  refine lv_iadd hx hb dX12_four_26 ?_
  refine lv_topi (fun z_4 ez_4 => ?_)
  obtain rfl : z_4 = (1 : Int32) := ez_4.trans (by decide)
  refine va_put (D := D) (ci := 12) (v := .int 1) (ty := tyX12 2) (C := RX12) (T := TX12) (N := 49) hx hb hta inlX12 tyX12 tyX12_ok nmX12 hown hK hP hD hS 0 rfl rfl 2 (by decide) (hta _ wk_347) (fun _ h9 => h9) rfl (tyX12_ok 2 (by decide)) rfl rfl (Nat.le_of_ble_eq_true rfl) dX12_four_27 (fun H locs hP hD hS => ?_)
  have hP : va_P D vwCl [(md, .inr (12, [.ref m0, .ref m1, .int 1, .ref m3, .ref m4, .ref m5, .ref m6, .ref m7, .ref m8, .ref m9, .ref m10, .ref m11, .ref m12, .ref m13, .ref m14, .ref m15, .ref m16, .int 0, .int 0, .int 0, .int 0, .int 0, .int 0, .int 0, .ref m24, .int 0, .ref m26, .int 0, .ref m28, .long 0, .ref m30, .ref m31, .int 0, .int 0, .int 0, .ref m35, .ref m36, .int 0, .ref m38, .int 0, .int 0, .ref m41, .ref m42, .ref m43, .ref m44, .ref m45, .ref m46, .ref m47, .ref m48])), (m1, .inl (cy 3, 400, .inl f_3))] H := hP
  have hD : va_D A [(md, .inr (12, [.ref m0, .ref m1, .int 1, .ref m3, .ref m4, .ref m5, .ref m6, .ref m7, .ref m8, .ref m9, .ref m10, .ref m11, .ref m12, .ref m13, .ref m14, .ref m15, .ref m16, .int 0, .int 0, .int 0, .int 0, .int 0, .int 0, .int 0, .ref m24, .int 0, .ref m26, .int 0, .ref m28, .long 0, .ref m30, .ref m31, .int 0, .int 0, .int 0, .ref m35, .ref m36, .int 0, .ref m38, .int 0, .int 0, .ref m41, .ref m42, .ref m43, .ref m44, .ref m45, .ref m46, .ref m47, .ref m48])), (m1, .inl (cy 3, 400, .inl f_3))] := hD
  refine lv_iinc (v := 16) (lv' := [(2, .int 16), (0, .ref md), (1, .int p0)]) hx hb dX12_four_30 hl (k := 0) rfl (by decide) (by decide) rfl (fun ls hl => ?_)
  refine lv_goto (tgt := 3) hx hb dX12_four_33 (by decide) ?_
  refine lv_iload_n hx hb dX12_four_3 rfl (lv_at hl 0 rfl) ?_
  refine lv_if_lt (tgt := 36) hx hb dX12_four_4 (by decide) (fun c => absurd c (by decide)) (fun _ => ?_)
  refine lv_aload_n hx hb dX12_four_7 rfl (lv_at hl 1 rfl) ?_
  refine va_get (D := D) (ci := 12) (v := .ref m1) (C := RX12) (T := TX12) (N := 49) hx hb hta inlX12 hown hK hP 0 rfl rfl 1 (by decide) (hta _ wk_151) (fun _ h9 => h9) rfl dX12_four_8 ?_
  refine lv_aload_n hx hb dX12_four_11 rfl (lv_at hl 1 rfl) ?_
  refine va_get (D := D) (ci := 12) (v := .int 1) (C := RX12) (T := TX12) (N := 49) hx hb hta inlX12 hown hK hP 0 rfl rfl 2 (by decide) (hta _ wk_347) (fun _ h9 => h9) rfl dX12_four_12 ?_
  refine lv_iload_n hx hb dX12_four_15 rfl (lv_at hl 2 rfl) ?_
  refine lv_iload_n hx hb dX12_four_16 rfl (lv_at hl 0 rfl) ?_
  refine lv_ishr hx hb dX12_four_17 ?_
  refine lv_topi (fun z_5 ez_5 => ?_)
  refine lv_i2b hx hb dX12_four_18 rfl ?_
  refine lv_topi (fun z_6 ez_6 => ?_)
  refine va_bast (D := D) hx hb hK hP hD hS 1 3 rfl rfl (tl_in (by decide) (by decide)) dX12_four_19 (fun H locs hP hD hS => ?_)
  have hP : va_P D vwCl [(md, .inr (12, [.ref m0, .ref m1, .int 1, .ref m3, .ref m4, .ref m5, .ref m6, .ref m7, .ref m8, .ref m9, .ref m10, .ref m11, .ref m12, .ref m13, .ref m14, .ref m15, .ref m16, .int 0, .int 0, .int 0, .int 0, .int 0, .int 0, .int 0, .ref m24, .int 0, .ref m26, .int 0, .ref m28, .long 0, .ref m30, .ref m31, .int 0, .int 0, .int 0, .ref m35, .ref m36, .int 0, .ref m38, .int 0, .int 0, .ref m41, .ref m42, .ref m43, .ref m44, .ref m45, .ref m46, .ref m47, .ref m48])), (m1, .inl (cy 3, 400, .inl (upd f_3 (1 : Int32).toNatClampNeg (vp_nar .byte z_6))))] H := hP
  have hD : va_D A [(md, .inr (12, [.ref m0, .ref m1, .int 1, .ref m3, .ref m4, .ref m5, .ref m6, .ref m7, .ref m8, .ref m9, .ref m10, .ref m11, .ref m12, .ref m13, .ref m14, .ref m15, .ref m16, .int 0, .int 0, .int 0, .int 0, .int 0, .int 0, .int 0, .ref m24, .int 0, .ref m26, .int 0, .ref m28, .long 0, .ref m30, .ref m31, .int 0, .int 0, .int 0, .ref m35, .ref m36, .int 0, .ref m38, .int 0, .int 0, .ref m41, .ref m42, .ref m43, .ref m44, .ref m45, .ref m46, .ref m47, .ref m48])), (m1, .inl (cy 3, 400, .inl (upd f_3 (1 : Int32).toNatClampNeg (vp_nar .byte z_6))))] := hD
  generalize (upd f_3 (1 : Int32).toNatClampNeg (vp_nar .byte z_6)) = f_7 at hP hD
  refine lv_aload_n hx hb dX12_four_20 rfl (lv_at hl 1 rfl) ?_
  refine lv_dup hx hb dX12_four_21 rfl ?_
  refine va_get (D := D) (ci := 12) (v := .int 1) (C := RX12) (T := TX12) (N := 49) hx hb hta inlX12 hown hK hP 0 rfl rfl 2 (by decide) (hta _ wk_347) (fun _ h9 => h9) rfl dX12_four_22 ?_
  refine lv_iconst (v := 1) hx hb dX12_four_25 (by decide) ?_
  refine lv_iadd hx hb dX12_four_26 ?_
  refine lv_topi (fun z_8 ez_8 => ?_)
  obtain rfl : z_8 = (2 : Int32) := ez_8.trans (by decide)
  refine va_put (D := D) (ci := 12) (v := .int 2) (ty := tyX12 2) (C := RX12) (T := TX12) (N := 49) hx hb hta inlX12 tyX12 tyX12_ok nmX12 hown hK hP hD hS 0 rfl rfl 2 (by decide) (hta _ wk_347) (fun _ h9 => h9) rfl (tyX12_ok 2 (by decide)) rfl rfl (Nat.le_of_ble_eq_true rfl) dX12_four_27 (fun H locs hP hD hS => ?_)
  have hP : va_P D vwCl [(md, .inr (12, [.ref m0, .ref m1, .int 2, .ref m3, .ref m4, .ref m5, .ref m6, .ref m7, .ref m8, .ref m9, .ref m10, .ref m11, .ref m12, .ref m13, .ref m14, .ref m15, .ref m16, .int 0, .int 0, .int 0, .int 0, .int 0, .int 0, .int 0, .ref m24, .int 0, .ref m26, .int 0, .ref m28, .long 0, .ref m30, .ref m31, .int 0, .int 0, .int 0, .ref m35, .ref m36, .int 0, .ref m38, .int 0, .int 0, .ref m41, .ref m42, .ref m43, .ref m44, .ref m45, .ref m46, .ref m47, .ref m48])), (m1, .inl (cy 3, 400, .inl f_7))] H := hP
  have hD : va_D A [(md, .inr (12, [.ref m0, .ref m1, .int 2, .ref m3, .ref m4, .ref m5, .ref m6, .ref m7, .ref m8, .ref m9, .ref m10, .ref m11, .ref m12, .ref m13, .ref m14, .ref m15, .ref m16, .int 0, .int 0, .int 0, .int 0, .int 0, .int 0, .int 0, .ref m24, .int 0, .ref m26, .int 0, .ref m28, .long 0, .ref m30, .ref m31, .int 0, .int 0, .int 0, .ref m35, .ref m36, .int 0, .ref m38, .int 0, .int 0, .ref m41, .ref m42, .ref m43, .ref m44, .ref m45, .ref m46, .ref m47, .ref m48])), (m1, .inl (cy 3, 400, .inl f_7))] := hD
  refine lv_iinc (v := 8) (lv' := [(2, .int 8), (0, .ref md), (1, .int p0)]) hx hb dX12_four_30 hl (k := 0) rfl (by decide) (by decide) rfl (fun ls hl => ?_)
  refine lv_goto (tgt := 3) hx hb dX12_four_33 (by decide) ?_
  refine lv_iload_n hx hb dX12_four_3 rfl (lv_at hl 0 rfl) ?_
  refine lv_if_lt (tgt := 36) hx hb dX12_four_4 (by decide) (fun c => absurd c (by decide)) (fun _ => ?_)
  refine lv_aload_n hx hb dX12_four_7 rfl (lv_at hl 1 rfl) ?_
  refine va_get (D := D) (ci := 12) (v := .ref m1) (C := RX12) (T := TX12) (N := 49) hx hb hta inlX12 hown hK hP 0 rfl rfl 1 (by decide) (hta _ wk_151) (fun _ h9 => h9) rfl dX12_four_8 ?_
  refine lv_aload_n hx hb dX12_four_11 rfl (lv_at hl 1 rfl) ?_
  refine va_get (D := D) (ci := 12) (v := .int 2) (C := RX12) (T := TX12) (N := 49) hx hb hta inlX12 hown hK hP 0 rfl rfl 2 (by decide) (hta _ wk_347) (fun _ h9 => h9) rfl dX12_four_12 ?_
  refine lv_iload_n hx hb dX12_four_15 rfl (lv_at hl 2 rfl) ?_
  refine lv_iload_n hx hb dX12_four_16 rfl (lv_at hl 0 rfl) ?_
  refine lv_ishr hx hb dX12_four_17 ?_
  refine lv_topi (fun z_9 ez_9 => ?_)
  refine lv_i2b hx hb dX12_four_18 rfl ?_
  refine lv_topi (fun z_10 ez_10 => ?_)
  refine va_bast (D := D) hx hb hK hP hD hS 1 3 rfl rfl (tl_in (by decide) (by decide)) dX12_four_19 (fun H locs hP hD hS => ?_)
  have hP : va_P D vwCl [(md, .inr (12, [.ref m0, .ref m1, .int 2, .ref m3, .ref m4, .ref m5, .ref m6, .ref m7, .ref m8, .ref m9, .ref m10, .ref m11, .ref m12, .ref m13, .ref m14, .ref m15, .ref m16, .int 0, .int 0, .int 0, .int 0, .int 0, .int 0, .int 0, .ref m24, .int 0, .ref m26, .int 0, .ref m28, .long 0, .ref m30, .ref m31, .int 0, .int 0, .int 0, .ref m35, .ref m36, .int 0, .ref m38, .int 0, .int 0, .ref m41, .ref m42, .ref m43, .ref m44, .ref m45, .ref m46, .ref m47, .ref m48])), (m1, .inl (cy 3, 400, .inl (upd f_7 (2 : Int32).toNatClampNeg (vp_nar .byte z_10))))] H := hP
  have hD : va_D A [(md, .inr (12, [.ref m0, .ref m1, .int 2, .ref m3, .ref m4, .ref m5, .ref m6, .ref m7, .ref m8, .ref m9, .ref m10, .ref m11, .ref m12, .ref m13, .ref m14, .ref m15, .ref m16, .int 0, .int 0, .int 0, .int 0, .int 0, .int 0, .int 0, .ref m24, .int 0, .ref m26, .int 0, .ref m28, .long 0, .ref m30, .ref m31, .int 0, .int 0, .int 0, .ref m35, .ref m36, .int 0, .ref m38, .int 0, .int 0, .ref m41, .ref m42, .ref m43, .ref m44, .ref m45, .ref m46, .ref m47, .ref m48])), (m1, .inl (cy 3, 400, .inl (upd f_7 (2 : Int32).toNatClampNeg (vp_nar .byte z_10))))] := hD
  generalize (upd f_7 (2 : Int32).toNatClampNeg (vp_nar .byte z_10)) = f_11 at hP hD
  refine lv_aload_n hx hb dX12_four_20 rfl (lv_at hl 1 rfl) ?_
  refine lv_dup hx hb dX12_four_21 rfl ?_
  refine va_get (D := D) (ci := 12) (v := .int 2) (C := RX12) (T := TX12) (N := 49) hx hb hta inlX12 hown hK hP 0 rfl rfl 2 (by decide) (hta _ wk_347) (fun _ h9 => h9) rfl dX12_four_22 ?_
  refine lv_iconst (v := 1) hx hb dX12_four_25 (by decide) ?_
  refine lv_iadd hx hb dX12_four_26 ?_
  refine lv_topi (fun z_12 ez_12 => ?_)
  obtain rfl : z_12 = (3 : Int32) := ez_12.trans (by decide)
  refine va_put (D := D) (ci := 12) (v := .int 3) (ty := tyX12 2) (C := RX12) (T := TX12) (N := 49) hx hb hta inlX12 tyX12 tyX12_ok nmX12 hown hK hP hD hS 0 rfl rfl 2 (by decide) (hta _ wk_347) (fun _ h9 => h9) rfl (tyX12_ok 2 (by decide)) rfl rfl (Nat.le_of_ble_eq_true rfl) dX12_four_27 (fun H locs hP hD hS => ?_)
  have hP : va_P D vwCl [(md, .inr (12, [.ref m0, .ref m1, .int 3, .ref m3, .ref m4, .ref m5, .ref m6, .ref m7, .ref m8, .ref m9, .ref m10, .ref m11, .ref m12, .ref m13, .ref m14, .ref m15, .ref m16, .int 0, .int 0, .int 0, .int 0, .int 0, .int 0, .int 0, .ref m24, .int 0, .ref m26, .int 0, .ref m28, .long 0, .ref m30, .ref m31, .int 0, .int 0, .int 0, .ref m35, .ref m36, .int 0, .ref m38, .int 0, .int 0, .ref m41, .ref m42, .ref m43, .ref m44, .ref m45, .ref m46, .ref m47, .ref m48])), (m1, .inl (cy 3, 400, .inl f_11))] H := hP
  have hD : va_D A [(md, .inr (12, [.ref m0, .ref m1, .int 3, .ref m3, .ref m4, .ref m5, .ref m6, .ref m7, .ref m8, .ref m9, .ref m10, .ref m11, .ref m12, .ref m13, .ref m14, .ref m15, .ref m16, .int 0, .int 0, .int 0, .int 0, .int 0, .int 0, .int 0, .ref m24, .int 0, .ref m26, .int 0, .ref m28, .long 0, .ref m30, .ref m31, .int 0, .int 0, .int 0, .ref m35, .ref m36, .int 0, .ref m38, .int 0, .int 0, .ref m41, .ref m42, .ref m43, .ref m44, .ref m45, .ref m46, .ref m47, .ref m48])), (m1, .inl (cy 3, 400, .inl f_11))] := hD
  refine lv_iinc (v := 0) (lv' := [(2, .int 0), (0, .ref md), (1, .int p0)]) hx hb dX12_four_30 hl (k := 0) rfl (by decide) (by decide) rfl (fun ls hl => ?_)
  refine lv_goto (tgt := 3) hx hb dX12_four_33 (by decide) ?_
  refine lv_iload_n hx hb dX12_four_3 rfl (lv_at hl 0 rfl) ?_
  refine lv_if_lt (tgt := 36) hx hb dX12_four_4 (by decide) (fun c => absurd c (by decide)) (fun _ => ?_)
  refine lv_aload_n hx hb dX12_four_7 rfl (lv_at hl 1 rfl) ?_
  refine va_get (D := D) (ci := 12) (v := .ref m1) (C := RX12) (T := TX12) (N := 49) hx hb hta inlX12 hown hK hP 0 rfl rfl 1 (by decide) (hta _ wk_151) (fun _ h9 => h9) rfl dX12_four_8 ?_
  refine lv_aload_n hx hb dX12_four_11 rfl (lv_at hl 1 rfl) ?_
  refine va_get (D := D) (ci := 12) (v := .int 3) (C := RX12) (T := TX12) (N := 49) hx hb hta inlX12 hown hK hP 0 rfl rfl 2 (by decide) (hta _ wk_347) (fun _ h9 => h9) rfl dX12_four_12 ?_
  refine lv_iload_n hx hb dX12_four_15 rfl (lv_at hl 2 rfl) ?_
  refine lv_iload_n hx hb dX12_four_16 rfl (lv_at hl 0 rfl) ?_
  refine lv_ishr hx hb dX12_four_17 ?_
  refine lv_topi (fun z_13 ez_13 => ?_)
  refine lv_i2b hx hb dX12_four_18 rfl ?_
  refine lv_topi (fun z_14 ez_14 => ?_)
  refine va_bast (D := D) hx hb hK hP hD hS 1 3 rfl rfl (tl_in (by decide) (by decide)) dX12_four_19 (fun H locs hP hD hS => ?_)
  have hP : va_P D vwCl [(md, .inr (12, [.ref m0, .ref m1, .int 3, .ref m3, .ref m4, .ref m5, .ref m6, .ref m7, .ref m8, .ref m9, .ref m10, .ref m11, .ref m12, .ref m13, .ref m14, .ref m15, .ref m16, .int 0, .int 0, .int 0, .int 0, .int 0, .int 0, .int 0, .ref m24, .int 0, .ref m26, .int 0, .ref m28, .long 0, .ref m30, .ref m31, .int 0, .int 0, .int 0, .ref m35, .ref m36, .int 0, .ref m38, .int 0, .int 0, .ref m41, .ref m42, .ref m43, .ref m44, .ref m45, .ref m46, .ref m47, .ref m48])), (m1, .inl (cy 3, 400, .inl (upd f_11 (3 : Int32).toNatClampNeg (vp_nar .byte z_14))))] H := hP
  have hD : va_D A [(md, .inr (12, [.ref m0, .ref m1, .int 3, .ref m3, .ref m4, .ref m5, .ref m6, .ref m7, .ref m8, .ref m9, .ref m10, .ref m11, .ref m12, .ref m13, .ref m14, .ref m15, .ref m16, .int 0, .int 0, .int 0, .int 0, .int 0, .int 0, .int 0, .ref m24, .int 0, .ref m26, .int 0, .ref m28, .long 0, .ref m30, .ref m31, .int 0, .int 0, .int 0, .ref m35, .ref m36, .int 0, .ref m38, .int 0, .int 0, .ref m41, .ref m42, .ref m43, .ref m44, .ref m45, .ref m46, .ref m47, .ref m48])), (m1, .inl (cy 3, 400, .inl (upd f_11 (3 : Int32).toNatClampNeg (vp_nar .byte z_14))))] := hD
  generalize (upd f_11 (3 : Int32).toNatClampNeg (vp_nar .byte z_14)) = f_15 at hP hD
  refine lv_aload_n hx hb dX12_four_20 rfl (lv_at hl 1 rfl) ?_
  refine lv_dup hx hb dX12_four_21 rfl ?_
  refine va_get (D := D) (ci := 12) (v := .int 3) (C := RX12) (T := TX12) (N := 49) hx hb hta inlX12 hown hK hP 0 rfl rfl 2 (by decide) (hta _ wk_347) (fun _ h9 => h9) rfl dX12_four_22 ?_
  refine lv_iconst (v := 1) hx hb dX12_four_25 (by decide) ?_
  refine lv_iadd hx hb dX12_four_26 ?_
  refine lv_topi (fun z_16 ez_16 => ?_)
  obtain rfl : z_16 = (4 : Int32) := ez_16.trans (by decide)
  refine va_put (D := D) (ci := 12) (v := .int 4) (ty := tyX12 2) (C := RX12) (T := TX12) (N := 49) hx hb hta inlX12 tyX12 tyX12_ok nmX12 hown hK hP hD hS 0 rfl rfl 2 (by decide) (hta _ wk_347) (fun _ h9 => h9) rfl (tyX12_ok 2 (by decide)) rfl rfl (Nat.le_of_ble_eq_true rfl) dX12_four_27 (fun H locs hP hD hS => ?_)
  have hP : va_P D vwCl [(md, .inr (12, [.ref m0, .ref m1, .int 4, .ref m3, .ref m4, .ref m5, .ref m6, .ref m7, .ref m8, .ref m9, .ref m10, .ref m11, .ref m12, .ref m13, .ref m14, .ref m15, .ref m16, .int 0, .int 0, .int 0, .int 0, .int 0, .int 0, .int 0, .ref m24, .int 0, .ref m26, .int 0, .ref m28, .long 0, .ref m30, .ref m31, .int 0, .int 0, .int 0, .ref m35, .ref m36, .int 0, .ref m38, .int 0, .int 0, .ref m41, .ref m42, .ref m43, .ref m44, .ref m45, .ref m46, .ref m47, .ref m48])), (m1, .inl (cy 3, 400, .inl f_15))] H := hP
  have hD : va_D A [(md, .inr (12, [.ref m0, .ref m1, .int 4, .ref m3, .ref m4, .ref m5, .ref m6, .ref m7, .ref m8, .ref m9, .ref m10, .ref m11, .ref m12, .ref m13, .ref m14, .ref m15, .ref m16, .int 0, .int 0, .int 0, .int 0, .int 0, .int 0, .int 0, .ref m24, .int 0, .ref m26, .int 0, .ref m28, .long 0, .ref m30, .ref m31, .int 0, .int 0, .int 0, .ref m35, .ref m36, .int 0, .ref m38, .int 0, .int 0, .ref m41, .ref m42, .ref m43, .ref m44, .ref m45, .ref m46, .ref m47, .ref m48])), (m1, .inl (cy 3, 400, .inl f_15))] := hD
  refine lv_iinc (v := (-8)) (lv' := [(2, .int (-8)), (0, .ref md), (1, .int p0)]) hx hb dX12_four_30 hl (k := 0) rfl (by decide) (by decide) rfl (fun ls hl => ?_)
  refine lv_goto (tgt := 3) hx hb dX12_four_33 (by decide) ?_
  refine lv_iload_n hx hb dX12_four_3 rfl (lv_at hl 0 rfl) ?_
  refine lv_if_lt (tgt := 36) hx hb dX12_four_4 (by decide) (fun _ => ?_) (fun c => absurd c (by decide))
  have hP9 := hP.sub (ws' := [(md, .inr (12, [.ref m0, .ref m1, .int 4, .ref m3, .ref m4, .ref m5, .ref m6, .ref m7, .ref m8, .ref m9, .ref m10, .ref m11, .ref m12, .ref m13, .ref m14, .ref m15, .ref m16, .int 0, .int 0, .int 0, .int 0, .int 0, .int 0, .int 0, .ref m24, .int 0, .ref m26, .int 0, .ref m28, .long 0, .ref m30, .ref m31, .int 0, .int 0, .int 0, .ref m35, .ref m36, .int 0, .ref m38, .int 0, .int 0, .ref m41, .ref m42, .ref m43, .ref m44, .ref m45, .ref m46, .ref m47, .ref m48])), (m1, .inl (cy 3, 400, .inl f_15))]) [0, 1] rfl
  have hD9 := hD.sub (ws' := [(md, .inr (12, [.ref m0, .ref m1, .int 4, .ref m3, .ref m4, .ref m5, .ref m6, .ref m7, .ref m8, .ref m9, .ref m10, .ref m11, .ref m12, .ref m13, .ref m14, .ref m15, .ref m16, .int 0, .int 0, .int 0, .int 0, .int 0, .int 0, .int 0, .ref m24, .int 0, .ref m26, .int 0, .ref m28, .long 0, .ref m30, .ref m31, .int 0, .int 0, .int 0, .ref m35, .ref m36, .int 0, .ref m38, .int 0, .int 0, .ref m41, .ref m42, .ref m43, .ref m44, .ref m45, .ref m46, .ref m47, .ref m48])), (m1, .inl (cy 3, 400, .inl f_15))]) [0, 1] (by decide) rfl
  exact W.vret hx hb hr (fun t ht hW => ⟨⟨f_15, rfl, trivial, by rw [ht]; exact hP9, hD9⟩, hS.F ht⟩) hS.2.2 dX12_four_36
set_option maxHeartbeats 4000000 in
set_option maxRecDepth 100000 in
theorem c_X12_four_4 (l : Launch) (D : va_G) (cy : Nat → ClassId) (sz : Nat) (md : Nat) (p0 : Int32) (m0 : Nat) (m1 : Nat) (m3 : Nat) (m4 : Nat) (m5 : Nat) (m6 : Nat) (m7 : Nat) (m8 : Nat) (m9 : Nat) (m10 : Nat) (m11 : Nat) (m12 : Nat) (m13 : Nat) (m14 : Nat) (m15 : Nat) (m16 : Nat) (m24 : Nat) (m26 : Nat) (m28 : Nat) (m30 : Nat) (m31 : Nat) (m35 : Nat) (m36 : Nat) (m38 : Nat) (m41 : Nat) (m42 : Nat) (m43 : Nat) (m44 : Nat) (m45 : Nat) (m46 : Nat) (m47 : Nat) (m48 : Nat) (f : Nat → Int32)  : Met l yX12_four (tl_w yX12_four cX12_four 3 none) ({ frames := 0, cells := 0, slots := 0, locals := 0 }) (va_Pc [.ref md, .int p0] (tl_P D cy [(md, .inr (12, [.ref m0, .ref m1, .int 4, .ref m3, .ref m4, .ref m5, .ref m6, .ref m7, .ref m8, .ref m9, .ref m10, .ref m11, .ref m12, .ref m13, .ref m14, .ref m15, .ref m16, .int 0, .int 0, .int 0, .int 0, .int 0, .int 0, .int 0, .ref m24, .int 0, .ref m26, .int 0, .ref m28, .long 0, .ref m30, .ref m31, .int 0, .int 0, .int 0, .ref m35, .ref m36, .int 0, .ref m38, .int 0, .int 0, .ref m41, .ref m42, .ref m43, .ref m44, .ref m45, .ref m46, .ref m47, .ref m48])), (m1, .inl (cy 3, 400, .inl f))] sz)) (va_Qv (fun (u : Nat → Int32) => True) (tl_B D (va_A [(md, .inr (12, [.ref m0, .ref m1, .int 4, .ref m3, .ref m4, .ref m5, .ref m6, .ref m7, .ref m8, .ref m9, .ref m10, .ref m11, .ref m12, .ref m13, .ref m14, .ref m15, .ref m16, .int 0, .int 0, .int 0, .int 0, .int 0, .int 0, .int 0, .ref m24, .int 0, .ref m26, .int 0, .ref m28, .long 0, .ref m30, .ref m31, .int 0, .int 0, .int 0, .ref m35, .ref m36, .int 0, .ref m38, .int 0, .int 0, .ref m41, .ref m42, .ref m43, .ref m44, .ref m45, .ref m46, .ref m47, .ref m48])), (m1, .inl (cy 3, 400, .inl f))] sz) (fun u : Nat → Int32 => [(md, .inr (12, [.ref m0, .ref m1, .int 8, .ref m3, .ref m4, .ref m5, .ref m6, .ref m7, .ref m8, .ref m9, .ref m10, .ref m11, .ref m12, .ref m13, .ref m14, .ref m15, .ref m16, .int 0, .int 0, .int 0, .int 0, .int 0, .int 0, .int 0, .ref m24, .int 0, .ref m26, .int 0, .ref m28, .long 0, .ref m30, .ref m31, .int 0, .int 0, .int 0, .ref m35, .ref m36, .int 0, .ref m38, .int 0, .int 0, .ref m41, .ref m42, .ref m43, .ref m44, .ref m45, .ref m46, .ref m47, .ref m48])), (m1, .inl (cy 3, 400, .inl u))])) (va_A [(md, .inr (12, [.ref m0, .ref m1, .int 4, .ref m3, .ref m4, .ref m5, .ref m6, .ref m7, .ref m8, .ref m9, .ref m10, .ref m11, .ref m12, .ref m13, .ref m14, .ref m15, .ref m16, .int 0, .int 0, .int 0, .int 0, .int 0, .int 0, .int 0, .ref m24, .int 0, .ref m26, .int 0, .ref m28, .long 0, .ref m30, .ref m31, .int 0, .int 0, .int 0, .ref m35, .ref m36, .int 0, .ref m38, .int 0, .int 0, .ref m41, .ref m42, .ref m43, .ref m44, .ref m45, .ref m46, .ref m47, .ref m48])), (m1, .inl (cy 3, 400, .inl f))] sz)) 0 0 (va_A [(md, .inr (12, [.ref m0, .ref m1, .int 4, .ref m3, .ref m4, .ref m5, .ref m6, .ref m7, .ref m8, .ref m9, .ref m10, .ref m11, .ref m12, .ref m13, .ref m14, .ref m15, .ref m16, .int 0, .int 0, .int 0, .int 0, .int 0, .int 0, .int 0, .ref m24, .int 0, .ref m26, .int 0, .ref m28, .long 0, .ref m30, .ref m31, .int 0, .int 0, .int 0, .ref m35, .ref m36, .int 0, .ref m38, .int 0, .int 0, .ref m41, .ref m42, .ref m43, .ref m44, .ref m45, .ref m46, .ref m47, .ref m48])), (m1, .inl (cy 3, 400, .inl f))] sz) := by
  refine Met.ofW (cc := cX12_four) (maxL := 3) (ret := none) (by decide) rfl ?_
  intro p e s m args below meth c s₁ B hml hv
  obtain ⟨rfl, hsz, hP, hK, hD0, hN⟩ := hv
  have hx := B.exec
  have hb := B.bytes
  have hr := B.returns
  have hta := tl_hta (atoms_spec (ws := tl_w yX12_four cX12_four 3 none) B.pre)
  have hown : s.vm.findClass RX12 = some m.cls := findClass_of_methodNamed B.named
  have hlocks := B.notSynchronized
  subst hsz
  have hD := hD0.self (sz := s.heap.size)
  generalize hAe : va_A [(md, .inr (12, [.ref m0, .ref m1, .int 4, .ref m3, .ref m4, .ref m5, .ref m6, .ref m7, .ref m8, .ref m9, .ref m10, .ref m11, .ref m12, .ref m13, .ref m14, .ref m15, .ref m16, .int 0, .int 0, .int 0, .int 0, .int 0, .int 0, .int 0, .ref m24, .int 0, .ref m26, .int 0, .ref m28, .long 0, .ref m30, .ref m31, .int 0, .int 0, .int 0, .ref m35, .ref m36, .int 0, .ref m38, .int 0, .int 0, .ref m41, .ref m42, .ref m43, .ref m44, .ref m45, .ref m46, .ref m47, .ref m48])), (m1, .inl (cy 3, 400, .inl f))] s.heap.size = A at hD ⊢
  have hA : ∀ q : Nat, s.heap.size ≤ q → A q := fun q h => by rw [← hAe]; exact Or.inr h
  have hS : va_S A s.heap s.heap [] := va_S.rf
  have hP : va_P D vwCl [(md, .inr (12, [.ref m0, .ref m1, .int 4, .ref m3, .ref m4, .ref m5, .ref m6, .ref m7, .ref m8, .ref m9, .ref m10, .ref m11, .ref m12, .ref m13, .ref m14, .ref m15, .ref m16, .int 0, .int 0, .int 0, .int 0, .int 0, .int 0, .int 0, .ref m24, .int 0, .ref m26, .int 0, .ref m28, .long 0, .ref m30, .ref m31, .int 0, .int 0, .int 0, .ref m35, .ref m36, .int 0, .ref m38, .int 0, .int 0, .ref m41, .ref m42, .ref m43, .ref m44, .ref m45, .ref m46, .ref m47, .ref m48])), (m1, .inl (cy 3, 400, .inl f))] s.heap := hP
  have hl := lv_entry ([.ref md, .int p0]) (n := 3) (Nat.le_of_ble_eq_true rfl)
  rw [lg_entry_eq]
  generalize (lg_sl ([.ref md, .int p0]) ++ List.replicate (3 - (lg_sl ([.ref md, .int p0])).length) Slot.unset).toArray = ls at hl ⊢
  have hl : lv_has ls 3 [(0, .ref md), (1, .int p0)] := hl
  refine lv_bipush (v := 24) hx hb dX12_four_0 (by decide) ?_
  refine lv_istore_n (lv' := [(2, .int 24), (0, .ref md), (1, .int p0)]) hx hb dX12_four_2 rfl hl (by decide) rfl (fun ls hl => ?_)
  refine lv_iload_n hx hb dX12_four_3 rfl (lv_at hl 0 rfl) ?_
  refine lv_if_lt (tgt := 36) hx hb dX12_four_4 (by decide) (fun c => absurd c (by decide)) (fun _ => ?_)
  refine lv_aload_n hx hb dX12_four_7 rfl (lv_at hl 1 rfl) ?_
  refine va_get (D := D) (ci := 12) (v := .ref m1) (C := RX12) (T := TX12) (N := 49) hx hb hta inlX12 hown hK hP 0 rfl rfl 1 (by decide) (hta _ wk_151) (fun _ h9 => h9) rfl dX12_four_8 ?_
  refine lv_aload_n hx hb dX12_four_11 rfl (lv_at hl 1 rfl) ?_
  refine va_get (D := D) (ci := 12) (v := .int 4) (C := RX12) (T := TX12) (N := 49) hx hb hta inlX12 hown hK hP 0 rfl rfl 2 (by decide) (hta _ wk_347) (fun _ h9 => h9) rfl dX12_four_12 ?_
  refine lv_iload_n hx hb dX12_four_15 rfl (lv_at hl 2 rfl) ?_
  refine lv_iload_n hx hb dX12_four_16 rfl (lv_at hl 0 rfl) ?_
  refine lv_ishr hx hb dX12_four_17 ?_
  refine lv_topi (fun z_1 ez_1 => ?_)
  refine lv_i2b hx hb dX12_four_18 rfl ?_
  refine lv_topi (fun z_2 ez_2 => ?_)
  refine va_bast (D := D) hx hb hK hP hD hS 1 3 rfl rfl (tl_in (by decide) (by decide)) dX12_four_19 (fun H locs hP hD hS => ?_)
  have hP : va_P D vwCl [(md, .inr (12, [.ref m0, .ref m1, .int 4, .ref m3, .ref m4, .ref m5, .ref m6, .ref m7, .ref m8, .ref m9, .ref m10, .ref m11, .ref m12, .ref m13, .ref m14, .ref m15, .ref m16, .int 0, .int 0, .int 0, .int 0, .int 0, .int 0, .int 0, .ref m24, .int 0, .ref m26, .int 0, .ref m28, .long 0, .ref m30, .ref m31, .int 0, .int 0, .int 0, .ref m35, .ref m36, .int 0, .ref m38, .int 0, .int 0, .ref m41, .ref m42, .ref m43, .ref m44, .ref m45, .ref m46, .ref m47, .ref m48])), (m1, .inl (cy 3, 400, .inl (upd f (4 : Int32).toNatClampNeg (vp_nar .byte z_2))))] H := hP
  have hD : va_D A [(md, .inr (12, [.ref m0, .ref m1, .int 4, .ref m3, .ref m4, .ref m5, .ref m6, .ref m7, .ref m8, .ref m9, .ref m10, .ref m11, .ref m12, .ref m13, .ref m14, .ref m15, .ref m16, .int 0, .int 0, .int 0, .int 0, .int 0, .int 0, .int 0, .ref m24, .int 0, .ref m26, .int 0, .ref m28, .long 0, .ref m30, .ref m31, .int 0, .int 0, .int 0, .ref m35, .ref m36, .int 0, .ref m38, .int 0, .int 0, .ref m41, .ref m42, .ref m43, .ref m44, .ref m45, .ref m46, .ref m47, .ref m48])), (m1, .inl (cy 3, 400, .inl (upd f (4 : Int32).toNatClampNeg (vp_nar .byte z_2))))] := hD
  generalize (upd f (4 : Int32).toNatClampNeg (vp_nar .byte z_2)) = f_3 at hP hD
  refine lv_aload_n hx hb dX12_four_20 rfl (lv_at hl 1 rfl) ?_
  refine lv_dup hx hb dX12_four_21 rfl ?_
  refine va_get (D := D) (ci := 12) (v := .int 4) (C := RX12) (T := TX12) (N := 49) hx hb hta inlX12 hown hK hP 0 rfl rfl 2 (by decide) (hta _ wk_347) (fun _ h9 => h9) rfl dX12_four_22 ?_
  refine lv_iconst (v := 1) hx hb dX12_four_25 (by decide) ?_
  refine lv_iadd hx hb dX12_four_26 ?_
  refine lv_topi (fun z_4 ez_4 => ?_)
  obtain rfl : z_4 = (5 : Int32) := ez_4.trans (by decide)
  refine va_put (D := D) (ci := 12) (v := .int 5) (ty := tyX12 2) (C := RX12) (T := TX12) (N := 49) hx hb hta inlX12 tyX12 tyX12_ok nmX12 hown hK hP hD hS 0 rfl rfl 2 (by decide) (hta _ wk_347) (fun _ h9 => h9) rfl (tyX12_ok 2 (by decide)) rfl rfl (Nat.le_of_ble_eq_true rfl) dX12_four_27 (fun H locs hP hD hS => ?_)
  have hP : va_P D vwCl [(md, .inr (12, [.ref m0, .ref m1, .int 5, .ref m3, .ref m4, .ref m5, .ref m6, .ref m7, .ref m8, .ref m9, .ref m10, .ref m11, .ref m12, .ref m13, .ref m14, .ref m15, .ref m16, .int 0, .int 0, .int 0, .int 0, .int 0, .int 0, .int 0, .ref m24, .int 0, .ref m26, .int 0, .ref m28, .long 0, .ref m30, .ref m31, .int 0, .int 0, .int 0, .ref m35, .ref m36, .int 0, .ref m38, .int 0, .int 0, .ref m41, .ref m42, .ref m43, .ref m44, .ref m45, .ref m46, .ref m47, .ref m48])), (m1, .inl (cy 3, 400, .inl f_3))] H := hP
  have hD : va_D A [(md, .inr (12, [.ref m0, .ref m1, .int 5, .ref m3, .ref m4, .ref m5, .ref m6, .ref m7, .ref m8, .ref m9, .ref m10, .ref m11, .ref m12, .ref m13, .ref m14, .ref m15, .ref m16, .int 0, .int 0, .int 0, .int 0, .int 0, .int 0, .int 0, .ref m24, .int 0, .ref m26, .int 0, .ref m28, .long 0, .ref m30, .ref m31, .int 0, .int 0, .int 0, .ref m35, .ref m36, .int 0, .ref m38, .int 0, .int 0, .ref m41, .ref m42, .ref m43, .ref m44, .ref m45, .ref m46, .ref m47, .ref m48])), (m1, .inl (cy 3, 400, .inl f_3))] := hD
  refine lv_iinc (v := 16) (lv' := [(2, .int 16), (0, .ref md), (1, .int p0)]) hx hb dX12_four_30 hl (k := 0) rfl (by decide) (by decide) rfl (fun ls hl => ?_)
  refine lv_goto (tgt := 3) hx hb dX12_four_33 (by decide) ?_
  refine lv_iload_n hx hb dX12_four_3 rfl (lv_at hl 0 rfl) ?_
  refine lv_if_lt (tgt := 36) hx hb dX12_four_4 (by decide) (fun c => absurd c (by decide)) (fun _ => ?_)
  refine lv_aload_n hx hb dX12_four_7 rfl (lv_at hl 1 rfl) ?_
  refine va_get (D := D) (ci := 12) (v := .ref m1) (C := RX12) (T := TX12) (N := 49) hx hb hta inlX12 hown hK hP 0 rfl rfl 1 (by decide) (hta _ wk_151) (fun _ h9 => h9) rfl dX12_four_8 ?_
  refine lv_aload_n hx hb dX12_four_11 rfl (lv_at hl 1 rfl) ?_
  refine va_get (D := D) (ci := 12) (v := .int 5) (C := RX12) (T := TX12) (N := 49) hx hb hta inlX12 hown hK hP 0 rfl rfl 2 (by decide) (hta _ wk_347) (fun _ h9 => h9) rfl dX12_four_12 ?_
  refine lv_iload_n hx hb dX12_four_15 rfl (lv_at hl 2 rfl) ?_
  refine lv_iload_n hx hb dX12_four_16 rfl (lv_at hl 0 rfl) ?_
  refine lv_ishr hx hb dX12_four_17 ?_
  refine lv_topi (fun z_5 ez_5 => ?_)
  refine lv_i2b hx hb dX12_four_18 rfl ?_
  refine lv_topi (fun z_6 ez_6 => ?_)
  refine va_bast (D := D) hx hb hK hP hD hS 1 3 rfl rfl (tl_in (by decide) (by decide)) dX12_four_19 (fun H locs hP hD hS => ?_)
  have hP : va_P D vwCl [(md, .inr (12, [.ref m0, .ref m1, .int 5, .ref m3, .ref m4, .ref m5, .ref m6, .ref m7, .ref m8, .ref m9, .ref m10, .ref m11, .ref m12, .ref m13, .ref m14, .ref m15, .ref m16, .int 0, .int 0, .int 0, .int 0, .int 0, .int 0, .int 0, .ref m24, .int 0, .ref m26, .int 0, .ref m28, .long 0, .ref m30, .ref m31, .int 0, .int 0, .int 0, .ref m35, .ref m36, .int 0, .ref m38, .int 0, .int 0, .ref m41, .ref m42, .ref m43, .ref m44, .ref m45, .ref m46, .ref m47, .ref m48])), (m1, .inl (cy 3, 400, .inl (upd f_3 (5 : Int32).toNatClampNeg (vp_nar .byte z_6))))] H := hP
  have hD : va_D A [(md, .inr (12, [.ref m0, .ref m1, .int 5, .ref m3, .ref m4, .ref m5, .ref m6, .ref m7, .ref m8, .ref m9, .ref m10, .ref m11, .ref m12, .ref m13, .ref m14, .ref m15, .ref m16, .int 0, .int 0, .int 0, .int 0, .int 0, .int 0, .int 0, .ref m24, .int 0, .ref m26, .int 0, .ref m28, .long 0, .ref m30, .ref m31, .int 0, .int 0, .int 0, .ref m35, .ref m36, .int 0, .ref m38, .int 0, .int 0, .ref m41, .ref m42, .ref m43, .ref m44, .ref m45, .ref m46, .ref m47, .ref m48])), (m1, .inl (cy 3, 400, .inl (upd f_3 (5 : Int32).toNatClampNeg (vp_nar .byte z_6))))] := hD
  generalize (upd f_3 (5 : Int32).toNatClampNeg (vp_nar .byte z_6)) = f_7 at hP hD
  refine lv_aload_n hx hb dX12_four_20 rfl (lv_at hl 1 rfl) ?_
  refine lv_dup hx hb dX12_four_21 rfl ?_
  refine va_get (D := D) (ci := 12) (v := .int 5) (C := RX12) (T := TX12) (N := 49) hx hb hta inlX12 hown hK hP 0 rfl rfl 2 (by decide) (hta _ wk_347) (fun _ h9 => h9) rfl dX12_four_22 ?_
  refine lv_iconst (v := 1) hx hb dX12_four_25 (by decide) ?_
  refine lv_iadd hx hb dX12_four_26 ?_
  refine lv_topi (fun z_8 ez_8 => ?_)
  obtain rfl : z_8 = (6 : Int32) := ez_8.trans (by decide)
  refine va_put (D := D) (ci := 12) (v := .int 6) (ty := tyX12 2) (C := RX12) (T := TX12) (N := 49) hx hb hta inlX12 tyX12 tyX12_ok nmX12 hown hK hP hD hS 0 rfl rfl 2 (by decide) (hta _ wk_347) (fun _ h9 => h9) rfl (tyX12_ok 2 (by decide)) rfl rfl (Nat.le_of_ble_eq_true rfl) dX12_four_27 (fun H locs hP hD hS => ?_)
  have hP : va_P D vwCl [(md, .inr (12, [.ref m0, .ref m1, .int 6, .ref m3, .ref m4, .ref m5, .ref m6, .ref m7, .ref m8, .ref m9, .ref m10, .ref m11, .ref m12, .ref m13, .ref m14, .ref m15, .ref m16, .int 0, .int 0, .int 0, .int 0, .int 0, .int 0, .int 0, .ref m24, .int 0, .ref m26, .int 0, .ref m28, .long 0, .ref m30, .ref m31, .int 0, .int 0, .int 0, .ref m35, .ref m36, .int 0, .ref m38, .int 0, .int 0, .ref m41, .ref m42, .ref m43, .ref m44, .ref m45, .ref m46, .ref m47, .ref m48])), (m1, .inl (cy 3, 400, .inl f_7))] H := hP
  have hD : va_D A [(md, .inr (12, [.ref m0, .ref m1, .int 6, .ref m3, .ref m4, .ref m5, .ref m6, .ref m7, .ref m8, .ref m9, .ref m10, .ref m11, .ref m12, .ref m13, .ref m14, .ref m15, .ref m16, .int 0, .int 0, .int 0, .int 0, .int 0, .int 0, .int 0, .ref m24, .int 0, .ref m26, .int 0, .ref m28, .long 0, .ref m30, .ref m31, .int 0, .int 0, .int 0, .ref m35, .ref m36, .int 0, .ref m38, .int 0, .int 0, .ref m41, .ref m42, .ref m43, .ref m44, .ref m45, .ref m46, .ref m47, .ref m48])), (m1, .inl (cy 3, 400, .inl f_7))] := hD
  refine lv_iinc (v := 8) (lv' := [(2, .int 8), (0, .ref md), (1, .int p0)]) hx hb dX12_four_30 hl (k := 0) rfl (by decide) (by decide) rfl (fun ls hl => ?_)
  refine lv_goto (tgt := 3) hx hb dX12_four_33 (by decide) ?_
  refine lv_iload_n hx hb dX12_four_3 rfl (lv_at hl 0 rfl) ?_
  refine lv_if_lt (tgt := 36) hx hb dX12_four_4 (by decide) (fun c => absurd c (by decide)) (fun _ => ?_)
  refine lv_aload_n hx hb dX12_four_7 rfl (lv_at hl 1 rfl) ?_
  refine va_get (D := D) (ci := 12) (v := .ref m1) (C := RX12) (T := TX12) (N := 49) hx hb hta inlX12 hown hK hP 0 rfl rfl 1 (by decide) (hta _ wk_151) (fun _ h9 => h9) rfl dX12_four_8 ?_
  refine lv_aload_n hx hb dX12_four_11 rfl (lv_at hl 1 rfl) ?_
  refine va_get (D := D) (ci := 12) (v := .int 6) (C := RX12) (T := TX12) (N := 49) hx hb hta inlX12 hown hK hP 0 rfl rfl 2 (by decide) (hta _ wk_347) (fun _ h9 => h9) rfl dX12_four_12 ?_
  refine lv_iload_n hx hb dX12_four_15 rfl (lv_at hl 2 rfl) ?_
  refine lv_iload_n hx hb dX12_four_16 rfl (lv_at hl 0 rfl) ?_
  refine lv_ishr hx hb dX12_four_17 ?_
  refine lv_topi (fun z_9 ez_9 => ?_)
  refine lv_i2b hx hb dX12_four_18 rfl ?_
  refine lv_topi (fun z_10 ez_10 => ?_)
  refine va_bast (D := D) hx hb hK hP hD hS 1 3 rfl rfl (tl_in (by decide) (by decide)) dX12_four_19 (fun H locs hP hD hS => ?_)
  have hP : va_P D vwCl [(md, .inr (12, [.ref m0, .ref m1, .int 6, .ref m3, .ref m4, .ref m5, .ref m6, .ref m7, .ref m8, .ref m9, .ref m10, .ref m11, .ref m12, .ref m13, .ref m14, .ref m15, .ref m16, .int 0, .int 0, .int 0, .int 0, .int 0, .int 0, .int 0, .ref m24, .int 0, .ref m26, .int 0, .ref m28, .long 0, .ref m30, .ref m31, .int 0, .int 0, .int 0, .ref m35, .ref m36, .int 0, .ref m38, .int 0, .int 0, .ref m41, .ref m42, .ref m43, .ref m44, .ref m45, .ref m46, .ref m47, .ref m48])), (m1, .inl (cy 3, 400, .inl (upd f_7 (6 : Int32).toNatClampNeg (vp_nar .byte z_10))))] H := hP
  have hD : va_D A [(md, .inr (12, [.ref m0, .ref m1, .int 6, .ref m3, .ref m4, .ref m5, .ref m6, .ref m7, .ref m8, .ref m9, .ref m10, .ref m11, .ref m12, .ref m13, .ref m14, .ref m15, .ref m16, .int 0, .int 0, .int 0, .int 0, .int 0, .int 0, .int 0, .ref m24, .int 0, .ref m26, .int 0, .ref m28, .long 0, .ref m30, .ref m31, .int 0, .int 0, .int 0, .ref m35, .ref m36, .int 0, .ref m38, .int 0, .int 0, .ref m41, .ref m42, .ref m43, .ref m44, .ref m45, .ref m46, .ref m47, .ref m48])), (m1, .inl (cy 3, 400, .inl (upd f_7 (6 : Int32).toNatClampNeg (vp_nar .byte z_10))))] := hD
  generalize (upd f_7 (6 : Int32).toNatClampNeg (vp_nar .byte z_10)) = f_11 at hP hD
  refine lv_aload_n hx hb dX12_four_20 rfl (lv_at hl 1 rfl) ?_
  refine lv_dup hx hb dX12_four_21 rfl ?_
  refine va_get (D := D) (ci := 12) (v := .int 6) (C := RX12) (T := TX12) (N := 49) hx hb hta inlX12 hown hK hP 0 rfl rfl 2 (by decide) (hta _ wk_347) (fun _ h9 => h9) rfl dX12_four_22 ?_
  refine lv_iconst (v := 1) hx hb dX12_four_25 (by decide) ?_
  refine lv_iadd hx hb dX12_four_26 ?_
  refine lv_topi (fun z_12 ez_12 => ?_)
  obtain rfl : z_12 = (7 : Int32) := ez_12.trans (by decide)
  refine va_put (D := D) (ci := 12) (v := .int 7) (ty := tyX12 2) (C := RX12) (T := TX12) (N := 49) hx hb hta inlX12 tyX12 tyX12_ok nmX12 hown hK hP hD hS 0 rfl rfl 2 (by decide) (hta _ wk_347) (fun _ h9 => h9) rfl (tyX12_ok 2 (by decide)) rfl rfl (Nat.le_of_ble_eq_true rfl) dX12_four_27 (fun H locs hP hD hS => ?_)
  have hP : va_P D vwCl [(md, .inr (12, [.ref m0, .ref m1, .int 7, .ref m3, .ref m4, .ref m5, .ref m6, .ref m7, .ref m8, .ref m9, .ref m10, .ref m11, .ref m12, .ref m13, .ref m14, .ref m15, .ref m16, .int 0, .int 0, .int 0, .int 0, .int 0, .int 0, .int 0, .ref m24, .int 0, .ref m26, .int 0, .ref m28, .long 0, .ref m30, .ref m31, .int 0, .int 0, .int 0, .ref m35, .ref m36, .int 0, .ref m38, .int 0, .int 0, .ref m41, .ref m42, .ref m43, .ref m44, .ref m45, .ref m46, .ref m47, .ref m48])), (m1, .inl (cy 3, 400, .inl f_11))] H := hP
  have hD : va_D A [(md, .inr (12, [.ref m0, .ref m1, .int 7, .ref m3, .ref m4, .ref m5, .ref m6, .ref m7, .ref m8, .ref m9, .ref m10, .ref m11, .ref m12, .ref m13, .ref m14, .ref m15, .ref m16, .int 0, .int 0, .int 0, .int 0, .int 0, .int 0, .int 0, .ref m24, .int 0, .ref m26, .int 0, .ref m28, .long 0, .ref m30, .ref m31, .int 0, .int 0, .int 0, .ref m35, .ref m36, .int 0, .ref m38, .int 0, .int 0, .ref m41, .ref m42, .ref m43, .ref m44, .ref m45, .ref m46, .ref m47, .ref m48])), (m1, .inl (cy 3, 400, .inl f_11))] := hD
  refine lv_iinc (v := 0) (lv' := [(2, .int 0), (0, .ref md), (1, .int p0)]) hx hb dX12_four_30 hl (k := 0) rfl (by decide) (by decide) rfl (fun ls hl => ?_)
  refine lv_goto (tgt := 3) hx hb dX12_four_33 (by decide) ?_
  refine lv_iload_n hx hb dX12_four_3 rfl (lv_at hl 0 rfl) ?_
  refine lv_if_lt (tgt := 36) hx hb dX12_four_4 (by decide) (fun c => absurd c (by decide)) (fun _ => ?_)
  refine lv_aload_n hx hb dX12_four_7 rfl (lv_at hl 1 rfl) ?_
  refine va_get (D := D) (ci := 12) (v := .ref m1) (C := RX12) (T := TX12) (N := 49) hx hb hta inlX12 hown hK hP 0 rfl rfl 1 (by decide) (hta _ wk_151) (fun _ h9 => h9) rfl dX12_four_8 ?_
  refine lv_aload_n hx hb dX12_four_11 rfl (lv_at hl 1 rfl) ?_
  refine va_get (D := D) (ci := 12) (v := .int 7) (C := RX12) (T := TX12) (N := 49) hx hb hta inlX12 hown hK hP 0 rfl rfl 2 (by decide) (hta _ wk_347) (fun _ h9 => h9) rfl dX12_four_12 ?_
  refine lv_iload_n hx hb dX12_four_15 rfl (lv_at hl 2 rfl) ?_
  refine lv_iload_n hx hb dX12_four_16 rfl (lv_at hl 0 rfl) ?_
  refine lv_ishr hx hb dX12_four_17 ?_
  refine lv_topi (fun z_13 ez_13 => ?_)
  refine lv_i2b hx hb dX12_four_18 rfl ?_
  refine lv_topi (fun z_14 ez_14 => ?_)
  refine va_bast (D := D) hx hb hK hP hD hS 1 3 rfl rfl (tl_in (by decide) (by decide)) dX12_four_19 (fun H locs hP hD hS => ?_)
  have hP : va_P D vwCl [(md, .inr (12, [.ref m0, .ref m1, .int 7, .ref m3, .ref m4, .ref m5, .ref m6, .ref m7, .ref m8, .ref m9, .ref m10, .ref m11, .ref m12, .ref m13, .ref m14, .ref m15, .ref m16, .int 0, .int 0, .int 0, .int 0, .int 0, .int 0, .int 0, .ref m24, .int 0, .ref m26, .int 0, .ref m28, .long 0, .ref m30, .ref m31, .int 0, .int 0, .int 0, .ref m35, .ref m36, .int 0, .ref m38, .int 0, .int 0, .ref m41, .ref m42, .ref m43, .ref m44, .ref m45, .ref m46, .ref m47, .ref m48])), (m1, .inl (cy 3, 400, .inl (upd f_11 (7 : Int32).toNatClampNeg (vp_nar .byte z_14))))] H := hP
  have hD : va_D A [(md, .inr (12, [.ref m0, .ref m1, .int 7, .ref m3, .ref m4, .ref m5, .ref m6, .ref m7, .ref m8, .ref m9, .ref m10, .ref m11, .ref m12, .ref m13, .ref m14, .ref m15, .ref m16, .int 0, .int 0, .int 0, .int 0, .int 0, .int 0, .int 0, .ref m24, .int 0, .ref m26, .int 0, .ref m28, .long 0, .ref m30, .ref m31, .int 0, .int 0, .int 0, .ref m35, .ref m36, .int 0, .ref m38, .int 0, .int 0, .ref m41, .ref m42, .ref m43, .ref m44, .ref m45, .ref m46, .ref m47, .ref m48])), (m1, .inl (cy 3, 400, .inl (upd f_11 (7 : Int32).toNatClampNeg (vp_nar .byte z_14))))] := hD
  generalize (upd f_11 (7 : Int32).toNatClampNeg (vp_nar .byte z_14)) = f_15 at hP hD
  refine lv_aload_n hx hb dX12_four_20 rfl (lv_at hl 1 rfl) ?_
  refine lv_dup hx hb dX12_four_21 rfl ?_
  refine va_get (D := D) (ci := 12) (v := .int 7) (C := RX12) (T := TX12) (N := 49) hx hb hta inlX12 hown hK hP 0 rfl rfl 2 (by decide) (hta _ wk_347) (fun _ h9 => h9) rfl dX12_four_22 ?_
  refine lv_iconst (v := 1) hx hb dX12_four_25 (by decide) ?_
  refine lv_iadd hx hb dX12_four_26 ?_
  refine lv_topi (fun z_16 ez_16 => ?_)
  obtain rfl : z_16 = (8 : Int32) := ez_16.trans (by decide)
  refine va_put (D := D) (ci := 12) (v := .int 8) (ty := tyX12 2) (C := RX12) (T := TX12) (N := 49) hx hb hta inlX12 tyX12 tyX12_ok nmX12 hown hK hP hD hS 0 rfl rfl 2 (by decide) (hta _ wk_347) (fun _ h9 => h9) rfl (tyX12_ok 2 (by decide)) rfl rfl (Nat.le_of_ble_eq_true rfl) dX12_four_27 (fun H locs hP hD hS => ?_)
  have hP : va_P D vwCl [(md, .inr (12, [.ref m0, .ref m1, .int 8, .ref m3, .ref m4, .ref m5, .ref m6, .ref m7, .ref m8, .ref m9, .ref m10, .ref m11, .ref m12, .ref m13, .ref m14, .ref m15, .ref m16, .int 0, .int 0, .int 0, .int 0, .int 0, .int 0, .int 0, .ref m24, .int 0, .ref m26, .int 0, .ref m28, .long 0, .ref m30, .ref m31, .int 0, .int 0, .int 0, .ref m35, .ref m36, .int 0, .ref m38, .int 0, .int 0, .ref m41, .ref m42, .ref m43, .ref m44, .ref m45, .ref m46, .ref m47, .ref m48])), (m1, .inl (cy 3, 400, .inl f_15))] H := hP
  have hD : va_D A [(md, .inr (12, [.ref m0, .ref m1, .int 8, .ref m3, .ref m4, .ref m5, .ref m6, .ref m7, .ref m8, .ref m9, .ref m10, .ref m11, .ref m12, .ref m13, .ref m14, .ref m15, .ref m16, .int 0, .int 0, .int 0, .int 0, .int 0, .int 0, .int 0, .ref m24, .int 0, .ref m26, .int 0, .ref m28, .long 0, .ref m30, .ref m31, .int 0, .int 0, .int 0, .ref m35, .ref m36, .int 0, .ref m38, .int 0, .int 0, .ref m41, .ref m42, .ref m43, .ref m44, .ref m45, .ref m46, .ref m47, .ref m48])), (m1, .inl (cy 3, 400, .inl f_15))] := hD
  refine lv_iinc (v := (-8)) (lv' := [(2, .int (-8)), (0, .ref md), (1, .int p0)]) hx hb dX12_four_30 hl (k := 0) rfl (by decide) (by decide) rfl (fun ls hl => ?_)
  refine lv_goto (tgt := 3) hx hb dX12_four_33 (by decide) ?_
  refine lv_iload_n hx hb dX12_four_3 rfl (lv_at hl 0 rfl) ?_
  refine lv_if_lt (tgt := 36) hx hb dX12_four_4 (by decide) (fun _ => ?_) (fun c => absurd c (by decide))
  have hP9 := hP.sub (ws' := [(md, .inr (12, [.ref m0, .ref m1, .int 8, .ref m3, .ref m4, .ref m5, .ref m6, .ref m7, .ref m8, .ref m9, .ref m10, .ref m11, .ref m12, .ref m13, .ref m14, .ref m15, .ref m16, .int 0, .int 0, .int 0, .int 0, .int 0, .int 0, .int 0, .ref m24, .int 0, .ref m26, .int 0, .ref m28, .long 0, .ref m30, .ref m31, .int 0, .int 0, .int 0, .ref m35, .ref m36, .int 0, .ref m38, .int 0, .int 0, .ref m41, .ref m42, .ref m43, .ref m44, .ref m45, .ref m46, .ref m47, .ref m48])), (m1, .inl (cy 3, 400, .inl f_15))]) [0, 1] rfl
  have hD9 := hD.sub (ws' := [(md, .inr (12, [.ref m0, .ref m1, .int 8, .ref m3, .ref m4, .ref m5, .ref m6, .ref m7, .ref m8, .ref m9, .ref m10, .ref m11, .ref m12, .ref m13, .ref m14, .ref m15, .ref m16, .int 0, .int 0, .int 0, .int 0, .int 0, .int 0, .int 0, .ref m24, .int 0, .ref m26, .int 0, .ref m28, .long 0, .ref m30, .ref m31, .int 0, .int 0, .int 0, .ref m35, .ref m36, .int 0, .ref m38, .int 0, .int 0, .ref m41, .ref m42, .ref m43, .ref m44, .ref m45, .ref m46, .ref m47, .ref m48])), (m1, .inl (cy 3, 400, .inl f_15))]) [0, 1] (by decide) rfl
  exact W.vret hx hb hr (fun t ht hW => ⟨⟨f_15, rfl, trivial, by rw [ht]; exact hP9, hD9⟩, hS.F ht⟩) hS.2.2 dX12_four_36
set_option maxHeartbeats 4000000 in
set_option maxRecDepth 100000 in
theorem c_X12_four_8 (l : Launch) (D : va_G) (cy : Nat → ClassId) (sz : Nat) (md : Nat) (p0 : Int32) (m0 : Nat) (m1 : Nat) (m3 : Nat) (m4 : Nat) (m5 : Nat) (m6 : Nat) (m7 : Nat) (m8 : Nat) (m9 : Nat) (m10 : Nat) (m11 : Nat) (m12 : Nat) (m13 : Nat) (m14 : Nat) (m15 : Nat) (m16 : Nat) (m24 : Nat) (m26 : Nat) (m28 : Nat) (m30 : Nat) (m31 : Nat) (m35 : Nat) (m36 : Nat) (m38 : Nat) (m41 : Nat) (m42 : Nat) (m43 : Nat) (m44 : Nat) (m45 : Nat) (m46 : Nat) (m47 : Nat) (m48 : Nat) (f : Nat → Int32)  : Met l yX12_four (tl_w yX12_four cX12_four 3 none) ({ frames := 0, cells := 0, slots := 0, locals := 0 }) (va_Pc [.ref md, .int p0] (tl_P D cy [(md, .inr (12, [.ref m0, .ref m1, .int 8, .ref m3, .ref m4, .ref m5, .ref m6, .ref m7, .ref m8, .ref m9, .ref m10, .ref m11, .ref m12, .ref m13, .ref m14, .ref m15, .ref m16, .int 0, .int 0, .int 0, .int 0, .int 0, .int 0, .int 0, .ref m24, .int 0, .ref m26, .int 0, .ref m28, .long 0, .ref m30, .ref m31, .int 0, .int 0, .int 0, .ref m35, .ref m36, .int 0, .ref m38, .int 0, .int 0, .ref m41, .ref m42, .ref m43, .ref m44, .ref m45, .ref m46, .ref m47, .ref m48])), (m1, .inl (cy 3, 400, .inl f))] sz)) (va_Qv (fun (u : Nat → Int32) => True) (tl_B D (va_A [(md, .inr (12, [.ref m0, .ref m1, .int 8, .ref m3, .ref m4, .ref m5, .ref m6, .ref m7, .ref m8, .ref m9, .ref m10, .ref m11, .ref m12, .ref m13, .ref m14, .ref m15, .ref m16, .int 0, .int 0, .int 0, .int 0, .int 0, .int 0, .int 0, .ref m24, .int 0, .ref m26, .int 0, .ref m28, .long 0, .ref m30, .ref m31, .int 0, .int 0, .int 0, .ref m35, .ref m36, .int 0, .ref m38, .int 0, .int 0, .ref m41, .ref m42, .ref m43, .ref m44, .ref m45, .ref m46, .ref m47, .ref m48])), (m1, .inl (cy 3, 400, .inl f))] sz) (fun u : Nat → Int32 => [(md, .inr (12, [.ref m0, .ref m1, .int 12, .ref m3, .ref m4, .ref m5, .ref m6, .ref m7, .ref m8, .ref m9, .ref m10, .ref m11, .ref m12, .ref m13, .ref m14, .ref m15, .ref m16, .int 0, .int 0, .int 0, .int 0, .int 0, .int 0, .int 0, .ref m24, .int 0, .ref m26, .int 0, .ref m28, .long 0, .ref m30, .ref m31, .int 0, .int 0, .int 0, .ref m35, .ref m36, .int 0, .ref m38, .int 0, .int 0, .ref m41, .ref m42, .ref m43, .ref m44, .ref m45, .ref m46, .ref m47, .ref m48])), (m1, .inl (cy 3, 400, .inl u))])) (va_A [(md, .inr (12, [.ref m0, .ref m1, .int 8, .ref m3, .ref m4, .ref m5, .ref m6, .ref m7, .ref m8, .ref m9, .ref m10, .ref m11, .ref m12, .ref m13, .ref m14, .ref m15, .ref m16, .int 0, .int 0, .int 0, .int 0, .int 0, .int 0, .int 0, .ref m24, .int 0, .ref m26, .int 0, .ref m28, .long 0, .ref m30, .ref m31, .int 0, .int 0, .int 0, .ref m35, .ref m36, .int 0, .ref m38, .int 0, .int 0, .ref m41, .ref m42, .ref m43, .ref m44, .ref m45, .ref m46, .ref m47, .ref m48])), (m1, .inl (cy 3, 400, .inl f))] sz)) 0 0 (va_A [(md, .inr (12, [.ref m0, .ref m1, .int 8, .ref m3, .ref m4, .ref m5, .ref m6, .ref m7, .ref m8, .ref m9, .ref m10, .ref m11, .ref m12, .ref m13, .ref m14, .ref m15, .ref m16, .int 0, .int 0, .int 0, .int 0, .int 0, .int 0, .int 0, .ref m24, .int 0, .ref m26, .int 0, .ref m28, .long 0, .ref m30, .ref m31, .int 0, .int 0, .int 0, .ref m35, .ref m36, .int 0, .ref m38, .int 0, .int 0, .ref m41, .ref m42, .ref m43, .ref m44, .ref m45, .ref m46, .ref m47, .ref m48])), (m1, .inl (cy 3, 400, .inl f))] sz) := by
  refine Met.ofW (cc := cX12_four) (maxL := 3) (ret := none) (by decide) rfl ?_
  intro p e s m args below meth c s₁ B hml hv
  obtain ⟨rfl, hsz, hP, hK, hD0, hN⟩ := hv
  have hx := B.exec
  have hb := B.bytes
  have hr := B.returns
  have hta := tl_hta (atoms_spec (ws := tl_w yX12_four cX12_four 3 none) B.pre)
  have hown : s.vm.findClass RX12 = some m.cls := findClass_of_methodNamed B.named
  have hlocks := B.notSynchronized
  subst hsz
  have hD := hD0.self (sz := s.heap.size)
  generalize hAe : va_A [(md, .inr (12, [.ref m0, .ref m1, .int 8, .ref m3, .ref m4, .ref m5, .ref m6, .ref m7, .ref m8, .ref m9, .ref m10, .ref m11, .ref m12, .ref m13, .ref m14, .ref m15, .ref m16, .int 0, .int 0, .int 0, .int 0, .int 0, .int 0, .int 0, .ref m24, .int 0, .ref m26, .int 0, .ref m28, .long 0, .ref m30, .ref m31, .int 0, .int 0, .int 0, .ref m35, .ref m36, .int 0, .ref m38, .int 0, .int 0, .ref m41, .ref m42, .ref m43, .ref m44, .ref m45, .ref m46, .ref m47, .ref m48])), (m1, .inl (cy 3, 400, .inl f))] s.heap.size = A at hD ⊢
  have hA : ∀ q : Nat, s.heap.size ≤ q → A q := fun q h => by rw [← hAe]; exact Or.inr h
  have hS : va_S A s.heap s.heap [] := va_S.rf
  have hP : va_P D vwCl [(md, .inr (12, [.ref m0, .ref m1, .int 8, .ref m3, .ref m4, .ref m5, .ref m6, .ref m7, .ref m8, .ref m9, .ref m10, .ref m11, .ref m12, .ref m13, .ref m14, .ref m15, .ref m16, .int 0, .int 0, .int 0, .int 0, .int 0, .int 0, .int 0, .ref m24, .int 0, .ref m26, .int 0, .ref m28, .long 0, .ref m30, .ref m31, .int 0, .int 0, .int 0, .ref m35, .ref m36, .int 0, .ref m38, .int 0, .int 0, .ref m41, .ref m42, .ref m43, .ref m44, .ref m45, .ref m46, .ref m47, .ref m48])), (m1, .inl (cy 3, 400, .inl f))] s.heap := hP
  have hl := lv_entry ([.ref md, .int p0]) (n := 3) (Nat.le_of_ble_eq_true rfl)
  rw [lg_entry_eq]
  generalize (lg_sl ([.ref md, .int p0]) ++ List.replicate (3 - (lg_sl ([.ref md, .int p0])).length) Slot.unset).toArray = ls at hl ⊢
  have hl : lv_has ls 3 [(0, .ref md), (1, .int p0)] := hl
  refine lv_bipush (v := 24) hx hb dX12_four_0 (by decide) ?_
  refine lv_istore_n (lv' := [(2, .int 24), (0, .ref md), (1, .int p0)]) hx hb dX12_four_2 rfl hl (by decide) rfl (fun ls hl => ?_)
  refine lv_iload_n hx hb dX12_four_3 rfl (lv_at hl 0 rfl) ?_
  refine lv_if_lt (tgt := 36) hx hb dX12_four_4 (by decide) (fun c => absurd c (by decide)) (fun _ => ?_)
  refine lv_aload_n hx hb dX12_four_7 rfl (lv_at hl 1 rfl) ?_
  refine va_get (D := D) (ci := 12) (v := .ref m1) (C := RX12) (T := TX12) (N := 49) hx hb hta inlX12 hown hK hP 0 rfl rfl 1 (by decide) (hta _ wk_151) (fun _ h9 => h9) rfl dX12_four_8 ?_
  refine lv_aload_n hx hb dX12_four_11 rfl (lv_at hl 1 rfl) ?_
  refine va_get (D := D) (ci := 12) (v := .int 8) (C := RX12) (T := TX12) (N := 49) hx hb hta inlX12 hown hK hP 0 rfl rfl 2 (by decide) (hta _ wk_347) (fun _ h9 => h9) rfl dX12_four_12 ?_
  refine lv_iload_n hx hb dX12_four_15 rfl (lv_at hl 2 rfl) ?_
  refine lv_iload_n hx hb dX12_four_16 rfl (lv_at hl 0 rfl) ?_
  refine lv_ishr hx hb dX12_four_17 ?_
  refine lv_topi (fun z_1 ez_1 => ?_)
  refine lv_i2b hx hb dX12_four_18 rfl ?_
  refine lv_topi (fun z_2 ez_2 => ?_)
  refine va_bast (D := D) hx hb hK hP hD hS 1 3 rfl rfl (tl_in (by decide) (by decide)) dX12_four_19 (fun H locs hP hD hS => ?_)
  have hP : va_P D vwCl [(md, .inr (12, [.ref m0, .ref m1, .int 8, .ref m3, .ref m4, .ref m5, .ref m6, .ref m7, .ref m8, .ref m9, .ref m10, .ref m11, .ref m12, .ref m13, .ref m14, .ref m15, .ref m16, .int 0, .int 0, .int 0, .int 0, .int 0, .int 0, .int 0, .ref m24, .int 0, .ref m26, .int 0, .ref m28, .long 0, .ref m30, .ref m31, .int 0, .int 0, .int 0, .ref m35, .ref m36, .int 0, .ref m38, .int 0, .int 0, .ref m41, .ref m42, .ref m43, .ref m44, .ref m45, .ref m46, .ref m47, .ref m48])), (m1, .inl (cy 3, 400, .inl (upd f (8 : Int32).toNatClampNeg (vp_nar .byte z_2))))] H := hP
  have hD : va_D A [(md, .inr (12, [.ref m0, .ref m1, .int 8, .ref m3, .ref m4, .ref m5, .ref m6, .ref m7, .ref m8, .ref m9, .ref m10, .ref m11, .ref m12, .ref m13, .ref m14, .ref m15, .ref m16, .int 0, .int 0, .int 0, .int 0, .int 0, .int 0, .int 0, .ref m24, .int 0, .ref m26, .int 0, .ref m28, .long 0, .ref m30, .ref m31, .int 0, .int 0, .int 0, .ref m35, .ref m36, .int 0, .ref m38, .int 0, .int 0, .ref m41, .ref m42, .ref m43, .ref m44, .ref m45, .ref m46, .ref m47, .ref m48])), (m1, .inl (cy 3, 400, .inl (upd f (8 : Int32).toNatClampNeg (vp_nar .byte z_2))))] := hD
  generalize (upd f (8 : Int32).toNatClampNeg (vp_nar .byte z_2)) = f_3 at hP hD
  refine lv_aload_n hx hb dX12_four_20 rfl (lv_at hl 1 rfl) ?_
  refine lv_dup hx hb dX12_four_21 rfl ?_
  refine va_get (D := D) (ci := 12) (v := .int 8) (C := RX12) (T := TX12) (N := 49) hx hb hta inlX12 hown hK hP 0 rfl rfl 2 (by decide) (hta _ wk_347) (fun _ h9 => h9) rfl dX12_four_22 ?_
  refine lv_iconst (v := 1) hx hb dX12_four_25 (by decide) ?_
  refine lv_iadd hx hb dX12_four_26 ?_
  refine lv_topi (fun z_4 ez_4 => ?_)
  obtain rfl : z_4 = (9 : Int32) := ez_4.trans (by decide)
  refine va_put (D := D) (ci := 12) (v := .int 9) (ty := tyX12 2) (C := RX12) (T := TX12) (N := 49) hx hb hta inlX12 tyX12 tyX12_ok nmX12 hown hK hP hD hS 0 rfl rfl 2 (by decide) (hta _ wk_347) (fun _ h9 => h9) rfl (tyX12_ok 2 (by decide)) rfl rfl (Nat.le_of_ble_eq_true rfl) dX12_four_27 (fun H locs hP hD hS => ?_)
  have hP : va_P D vwCl [(md, .inr (12, [.ref m0, .ref m1, .int 9, .ref m3, .ref m4, .ref m5, .ref m6, .ref m7, .ref m8, .ref m9, .ref m10, .ref m11, .ref m12, .ref m13, .ref m14, .ref m15, .ref m16, .int 0, .int 0, .int 0, .int 0, .int 0, .int 0, .int 0, .ref m24, .int 0, .ref m26, .int 0, .ref m28, .long 0, .ref m30, .ref m31, .int 0, .int 0, .int 0, .ref m35, .ref m36, .int 0, .ref m38, .int 0, .int 0, .ref m41, .ref m42, .ref m43, .ref m44, .ref m45, .ref m46, .ref m47, .ref m48])), (m1, .inl (cy 3, 400, .inl f_3))] H := hP
  have hD : va_D A [(md, .inr (12, [.ref m0, .ref m1, .int 9, .ref m3, .ref m4, .ref m5, .ref m6, .ref m7, .ref m8, .ref m9, .ref m10, .ref m11, .ref m12, .ref m13, .ref m14, .ref m15, .ref m16, .int 0, .int 0, .int 0, .int 0, .int 0, .int 0, .int 0, .ref m24, .int 0, .ref m26, .int 0, .ref m28, .long 0, .ref m30, .ref m31, .int 0, .int 0, .int 0, .ref m35, .ref m36, .int 0, .ref m38, .int 0, .int 0, .ref m41, .ref m42, .ref m43, .ref m44, .ref m45, .ref m46, .ref m47, .ref m48])), (m1, .inl (cy 3, 400, .inl f_3))] := hD
  refine lv_iinc (v := 16) (lv' := [(2, .int 16), (0, .ref md), (1, .int p0)]) hx hb dX12_four_30 hl (k := 0) rfl (by decide) (by decide) rfl (fun ls hl => ?_)
  refine lv_goto (tgt := 3) hx hb dX12_four_33 (by decide) ?_
  refine lv_iload_n hx hb dX12_four_3 rfl (lv_at hl 0 rfl) ?_
  refine lv_if_lt (tgt := 36) hx hb dX12_four_4 (by decide) (fun c => absurd c (by decide)) (fun _ => ?_)
  refine lv_aload_n hx hb dX12_four_7 rfl (lv_at hl 1 rfl) ?_
  refine va_get (D := D) (ci := 12) (v := .ref m1) (C := RX12) (T := TX12) (N := 49) hx hb hta inlX12 hown hK hP 0 rfl rfl 1 (by decide) (hta _ wk_151) (fun _ h9 => h9) rfl dX12_four_8 ?_
  refine lv_aload_n hx hb dX12_four_11 rfl (lv_at hl 1 rfl) ?_
  refine va_get (D := D) (ci := 12) (v := .int 9) (C := RX12) (T := TX12) (N := 49) hx hb hta inlX12 hown hK hP 0 rfl rfl 2 (by decide) (hta _ wk_347) (fun _ h9 => h9) rfl dX12_four_12 ?_
  refine lv_iload_n hx hb dX12_four_15 rfl (lv_at hl 2 rfl) ?_
  refine lv_iload_n hx hb dX12_four_16 rfl (lv_at hl 0 rfl) ?_
  refine lv_ishr hx hb dX12_four_17 ?_
  refine lv_topi (fun z_5 ez_5 => ?_)
  refine lv_i2b hx hb dX12_four_18 rfl ?_
  refine lv_topi (fun z_6 ez_6 => ?_)
  refine va_bast (D := D) hx hb hK hP hD hS 1 3 rfl rfl (tl_in (by decide) (by decide)) dX12_four_19 (fun H locs hP hD hS => ?_)
  have hP : va_P D vwCl [(md, .inr (12, [.ref m0, .ref m1, .int 9, .ref m3, .ref m4, .ref m5, .ref m6, .ref m7, .ref m8, .ref m9, .ref m10, .ref m11, .ref m12, .ref m13, .ref m14, .ref m15, .ref m16, .int 0, .int 0, .int 0, .int 0, .int 0, .int 0, .int 0, .ref m24, .int 0, .ref m26, .int 0, .ref m28, .long 0, .ref m30, .ref m31, .int 0, .int 0, .int 0, .ref m35, .ref m36, .int 0, .ref m38, .int 0, .int 0, .ref m41, .ref m42, .ref m43, .ref m44, .ref m45, .ref m46, .ref m47, .ref m48])), (m1, .inl (cy 3, 400, .inl (upd f_3 (9 : Int32).toNatClampNeg (vp_nar .byte z_6))))] H := hP
  have hD : va_D A [(md, .inr (12, [.ref m0, .ref m1, .int 9, .ref m3, .ref m4, .ref m5, .ref m6, .ref m7, .ref m8, .ref m9, .ref m10, .ref m11, .ref m12, .ref m13, .ref m14, .ref m15, .ref m16, .int 0, .int 0, .int 0, .int 0, .int 0, .int 0, .int 0, .ref m24, .int 0, .ref m26, .int 0, .ref m28, .long 0, .ref m30, .ref m31, .int 0, .int 0, .int 0, .ref m35, .ref m36, .int 0, .ref m38, .int 0, .int 0, .ref m41, .ref m42, .ref m43, .ref m44, .ref m45, .ref m46, .ref m47, .ref m48])), (m1, .inl (cy 3, 400, .inl (upd f_3 (9 : Int32).toNatClampNeg (vp_nar .byte z_6))))] := hD
  generalize (upd f_3 (9 : Int32).toNatClampNeg (vp_nar .byte z_6)) = f_7 at hP hD
  refine lv_aload_n hx hb dX12_four_20 rfl (lv_at hl 1 rfl) ?_
  refine lv_dup hx hb dX12_four_21 rfl ?_
  refine va_get (D := D) (ci := 12) (v := .int 9) (C := RX12) (T := TX12) (N := 49) hx hb hta inlX12 hown hK hP 0 rfl rfl 2 (by decide) (hta _ wk_347) (fun _ h9 => h9) rfl dX12_four_22 ?_
  refine lv_iconst (v := 1) hx hb dX12_four_25 (by decide) ?_
  refine lv_iadd hx hb dX12_four_26 ?_
  refine lv_topi (fun z_8 ez_8 => ?_)
  obtain rfl : z_8 = (10 : Int32) := ez_8.trans (by decide)
  refine va_put (D := D) (ci := 12) (v := .int 10) (ty := tyX12 2) (C := RX12) (T := TX12) (N := 49) hx hb hta inlX12 tyX12 tyX12_ok nmX12 hown hK hP hD hS 0 rfl rfl 2 (by decide) (hta _ wk_347) (fun _ h9 => h9) rfl (tyX12_ok 2 (by decide)) rfl rfl (Nat.le_of_ble_eq_true rfl) dX12_four_27 (fun H locs hP hD hS => ?_)
  have hP : va_P D vwCl [(md, .inr (12, [.ref m0, .ref m1, .int 10, .ref m3, .ref m4, .ref m5, .ref m6, .ref m7, .ref m8, .ref m9, .ref m10, .ref m11, .ref m12, .ref m13, .ref m14, .ref m15, .ref m16, .int 0, .int 0, .int 0, .int 0, .int 0, .int 0, .int 0, .ref m24, .int 0, .ref m26, .int 0, .ref m28, .long 0, .ref m30, .ref m31, .int 0, .int 0, .int 0, .ref m35, .ref m36, .int 0, .ref m38, .int 0, .int 0, .ref m41, .ref m42, .ref m43, .ref m44, .ref m45, .ref m46, .ref m47, .ref m48])), (m1, .inl (cy 3, 400, .inl f_7))] H := hP
  have hD : va_D A [(md, .inr (12, [.ref m0, .ref m1, .int 10, .ref m3, .ref m4, .ref m5, .ref m6, .ref m7, .ref m8, .ref m9, .ref m10, .ref m11, .ref m12, .ref m13, .ref m14, .ref m15, .ref m16, .int 0, .int 0, .int 0, .int 0, .int 0, .int 0, .int 0, .ref m24, .int 0, .ref m26, .int 0, .ref m28, .long 0, .ref m30, .ref m31, .int 0, .int 0, .int 0, .ref m35, .ref m36, .int 0, .ref m38, .int 0, .int 0, .ref m41, .ref m42, .ref m43, .ref m44, .ref m45, .ref m46, .ref m47, .ref m48])), (m1, .inl (cy 3, 400, .inl f_7))] := hD
  refine lv_iinc (v := 8) (lv' := [(2, .int 8), (0, .ref md), (1, .int p0)]) hx hb dX12_four_30 hl (k := 0) rfl (by decide) (by decide) rfl (fun ls hl => ?_)
  refine lv_goto (tgt := 3) hx hb dX12_four_33 (by decide) ?_
  refine lv_iload_n hx hb dX12_four_3 rfl (lv_at hl 0 rfl) ?_
  refine lv_if_lt (tgt := 36) hx hb dX12_four_4 (by decide) (fun c => absurd c (by decide)) (fun _ => ?_)
  refine lv_aload_n hx hb dX12_four_7 rfl (lv_at hl 1 rfl) ?_
  refine va_get (D := D) (ci := 12) (v := .ref m1) (C := RX12) (T := TX12) (N := 49) hx hb hta inlX12 hown hK hP 0 rfl rfl 1 (by decide) (hta _ wk_151) (fun _ h9 => h9) rfl dX12_four_8 ?_
  refine lv_aload_n hx hb dX12_four_11 rfl (lv_at hl 1 rfl) ?_
  refine va_get (D := D) (ci := 12) (v := .int 10) (C := RX12) (T := TX12) (N := 49) hx hb hta inlX12 hown hK hP 0 rfl rfl 2 (by decide) (hta _ wk_347) (fun _ h9 => h9) rfl dX12_four_12 ?_
  refine lv_iload_n hx hb dX12_four_15 rfl (lv_at hl 2 rfl) ?_
  refine lv_iload_n hx hb dX12_four_16 rfl (lv_at hl 0 rfl) ?_
  refine lv_ishr hx hb dX12_four_17 ?_
  refine lv_topi (fun z_9 ez_9 => ?_)
  refine lv_i2b hx hb dX12_four_18 rfl ?_
  refine lv_topi (fun z_10 ez_10 => ?_)
  refine va_bast (D := D) hx hb hK hP hD hS 1 3 rfl rfl (tl_in (by decide) (by decide)) dX12_four_19 (fun H locs hP hD hS => ?_)
  have hP : va_P D vwCl [(md, .inr (12, [.ref m0, .ref m1, .int 10, .ref m3, .ref m4, .ref m5, .ref m6, .ref m7, .ref m8, .ref m9, .ref m10, .ref m11, .ref m12, .ref m13, .ref m14, .ref m15, .ref m16, .int 0, .int 0, .int 0, .int 0, .int 0, .int 0, .int 0, .ref m24, .int 0, .ref m26, .int 0, .ref m28, .long 0, .ref m30, .ref m31, .int 0, .int 0, .int 0, .ref m35, .ref m36, .int 0, .ref m38, .int 0, .int 0, .ref m41, .ref m42, .ref m43, .ref m44, .ref m45, .ref m46, .ref m47, .ref m48])), (m1, .inl (cy 3, 400, .inl (upd f_7 (10 : Int32).toNatClampNeg (vp_nar .byte z_10))))] H := hP
  have hD : va_D A [(md, .inr (12, [.ref m0, .ref m1, .int 10, .ref m3, .ref m4, .ref m5, .ref m6, .ref m7, .ref m8, .ref m9, .ref m10, .ref m11, .ref m12, .ref m13, .ref m14, .ref m15, .ref m16, .int 0, .int 0, .int 0, .int 0, .int 0, .int 0, .int 0, .ref m24, .int 0, .ref m26, .int 0, .ref m28, .long 0, .ref m30, .ref m31, .int 0, .int 0, .int 0, .ref m35, .ref m36, .int 0, .ref m38, .int 0, .int 0, .ref m41, .ref m42, .ref m43, .ref m44, .ref m45, .ref m46, .ref m47, .ref m48])), (m1, .inl (cy 3, 400, .inl (upd f_7 (10 : Int32).toNatClampNeg (vp_nar .byte z_10))))] := hD
  generalize (upd f_7 (10 : Int32).toNatClampNeg (vp_nar .byte z_10)) = f_11 at hP hD
  refine lv_aload_n hx hb dX12_four_20 rfl (lv_at hl 1 rfl) ?_
  refine lv_dup hx hb dX12_four_21 rfl ?_
  refine va_get (D := D) (ci := 12) (v := .int 10) (C := RX12) (T := TX12) (N := 49) hx hb hta inlX12 hown hK hP 0 rfl rfl 2 (by decide) (hta _ wk_347) (fun _ h9 => h9) rfl dX12_four_22 ?_
  refine lv_iconst (v := 1) hx hb dX12_four_25 (by decide) ?_
  refine lv_iadd hx hb dX12_four_26 ?_
  refine lv_topi (fun z_12 ez_12 => ?_)
  obtain rfl : z_12 = (11 : Int32) := ez_12.trans (by decide)
  refine va_put (D := D) (ci := 12) (v := .int 11) (ty := tyX12 2) (C := RX12) (T := TX12) (N := 49) hx hb hta inlX12 tyX12 tyX12_ok nmX12 hown hK hP hD hS 0 rfl rfl 2 (by decide) (hta _ wk_347) (fun _ h9 => h9) rfl (tyX12_ok 2 (by decide)) rfl rfl (Nat.le_of_ble_eq_true rfl) dX12_four_27 (fun H locs hP hD hS => ?_)
  have hP : va_P D vwCl [(md, .inr (12, [.ref m0, .ref m1, .int 11, .ref m3, .ref m4, .ref m5, .ref m6, .ref m7, .ref m8, .ref m9, .ref m10, .ref m11, .ref m12, .ref m13, .ref m14, .ref m15, .ref m16, .int 0, .int 0, .int 0, .int 0, .int 0, .int 0, .int 0, .ref m24, .int 0, .ref m26, .int 0, .ref m28, .long 0, .ref m30, .ref m31, .int 0, .int 0, .int 0, .ref m35, .ref m36, .int 0, .ref m38, .int 0, .int 0, .ref m41, .ref m42, .ref m43, .ref m44, .ref m45, .ref m46, .ref m47, .ref m48])), (m1, .inl (cy 3, 400, .inl f_11))] H := hP
  have hD : va_D A [(md, .inr (12, [.ref m0, .ref m1, .int 11, .ref m3, .ref m4, .ref m5, .ref m6, .ref m7, .ref m8, .ref m9, .ref m10, .ref m11, .ref m12, .ref m13, .ref m14, .ref m15, .ref m16, .int 0, .int 0, .int 0, .int 0, .int 0, .int 0, .int 0, .ref m24, .int 0, .ref m26, .int 0, .ref m28, .long 0, .ref m30, .ref m31, .int 0, .int 0, .int 0, .ref m35, .ref m36, .int 0, .ref m38, .int 0, .int 0, .ref m41, .ref m42, .ref m43, .ref m44, .ref m45, .ref m46, .ref m47, .ref m48])), (m1, .inl (cy 3, 400, .inl f_11))] := hD
  refine lv_iinc (v := 0) (lv' := [(2, .int 0), (0, .ref md), (1, .int p0)]) hx hb dX12_four_30 hl (k := 0) rfl (by decide) (by decide) rfl (fun ls hl => ?_)
  refine lv_goto (tgt := 3) hx hb dX12_four_33 (by decide) ?_
  refine lv_iload_n hx hb dX12_four_3 rfl (lv_at hl 0 rfl) ?_
  refine lv_if_lt (tgt := 36) hx hb dX12_four_4 (by decide) (fun c => absurd c (by decide)) (fun _ => ?_)
  refine lv_aload_n hx hb dX12_four_7 rfl (lv_at hl 1 rfl) ?_
  refine va_get (D := D) (ci := 12) (v := .ref m1) (C := RX12) (T := TX12) (N := 49) hx hb hta inlX12 hown hK hP 0 rfl rfl 1 (by decide) (hta _ wk_151) (fun _ h9 => h9) rfl dX12_four_8 ?_
  refine lv_aload_n hx hb dX12_four_11 rfl (lv_at hl 1 rfl) ?_
  refine va_get (D := D) (ci := 12) (v := .int 11) (C := RX12) (T := TX12) (N := 49) hx hb hta inlX12 hown hK hP 0 rfl rfl 2 (by decide) (hta _ wk_347) (fun _ h9 => h9) rfl dX12_four_12 ?_
  refine lv_iload_n hx hb dX12_four_15 rfl (lv_at hl 2 rfl) ?_
  refine lv_iload_n hx hb dX12_four_16 rfl (lv_at hl 0 rfl) ?_
  refine lv_ishr hx hb dX12_four_17 ?_
  refine lv_topi (fun z_13 ez_13 => ?_)
  refine lv_i2b hx hb dX12_four_18 rfl ?_
  refine lv_topi (fun z_14 ez_14 => ?_)
  refine va_bast (D := D) hx hb hK hP hD hS 1 3 rfl rfl (tl_in (by decide) (by decide)) dX12_four_19 (fun H locs hP hD hS => ?_)
  have hP : va_P D vwCl [(md, .inr (12, [.ref m0, .ref m1, .int 11, .ref m3, .ref m4, .ref m5, .ref m6, .ref m7, .ref m8, .ref m9, .ref m10, .ref m11, .ref m12, .ref m13, .ref m14, .ref m15, .ref m16, .int 0, .int 0, .int 0, .int 0, .int 0, .int 0, .int 0, .ref m24, .int 0, .ref m26, .int 0, .ref m28, .long 0, .ref m30, .ref m31, .int 0, .int 0, .int 0, .ref m35, .ref m36, .int 0, .ref m38, .int 0, .int 0, .ref m41, .ref m42, .ref m43, .ref m44, .ref m45, .ref m46, .ref m47, .ref m48])), (m1, .inl (cy 3, 400, .inl (upd f_11 (11 : Int32).toNatClampNeg (vp_nar .byte z_14))))] H := hP
  have hD : va_D A [(md, .inr (12, [.ref m0, .ref m1, .int 11, .ref m3, .ref m4, .ref m5, .ref m6, .ref m7, .ref m8, .ref m9, .ref m10, .ref m11, .ref m12, .ref m13, .ref m14, .ref m15, .ref m16, .int 0, .int 0, .int 0, .int 0, .int 0, .int 0, .int 0, .ref m24, .int 0, .ref m26, .int 0, .ref m28, .long 0, .ref m30, .ref m31, .int 0, .int 0, .int 0, .ref m35, .ref m36, .int 0, .ref m38, .int 0, .int 0, .ref m41, .ref m42, .ref m43, .ref m44, .ref m45, .ref m46, .ref m47, .ref m48])), (m1, .inl (cy 3, 400, .inl (upd f_11 (11 : Int32).toNatClampNeg (vp_nar .byte z_14))))] := hD
  generalize (upd f_11 (11 : Int32).toNatClampNeg (vp_nar .byte z_14)) = f_15 at hP hD
  refine lv_aload_n hx hb dX12_four_20 rfl (lv_at hl 1 rfl) ?_
  refine lv_dup hx hb dX12_four_21 rfl ?_
  refine va_get (D := D) (ci := 12) (v := .int 11) (C := RX12) (T := TX12) (N := 49) hx hb hta inlX12 hown hK hP 0 rfl rfl 2 (by decide) (hta _ wk_347) (fun _ h9 => h9) rfl dX12_four_22 ?_
  refine lv_iconst (v := 1) hx hb dX12_four_25 (by decide) ?_
  refine lv_iadd hx hb dX12_four_26 ?_
  refine lv_topi (fun z_16 ez_16 => ?_)
  obtain rfl : z_16 = (12 : Int32) := ez_16.trans (by decide)
  refine va_put (D := D) (ci := 12) (v := .int 12) (ty := tyX12 2) (C := RX12) (T := TX12) (N := 49) hx hb hta inlX12 tyX12 tyX12_ok nmX12 hown hK hP hD hS 0 rfl rfl 2 (by decide) (hta _ wk_347) (fun _ h9 => h9) rfl (tyX12_ok 2 (by decide)) rfl rfl (Nat.le_of_ble_eq_true rfl) dX12_four_27 (fun H locs hP hD hS => ?_)
  have hP : va_P D vwCl [(md, .inr (12, [.ref m0, .ref m1, .int 12, .ref m3, .ref m4, .ref m5, .ref m6, .ref m7, .ref m8, .ref m9, .ref m10, .ref m11, .ref m12, .ref m13, .ref m14, .ref m15, .ref m16, .int 0, .int 0, .int 0, .int 0, .int 0, .int 0, .int 0, .ref m24, .int 0, .ref m26, .int 0, .ref m28, .long 0, .ref m30, .ref m31, .int 0, .int 0, .int 0, .ref m35, .ref m36, .int 0, .ref m38, .int 0, .int 0, .ref m41, .ref m42, .ref m43, .ref m44, .ref m45, .ref m46, .ref m47, .ref m48])), (m1, .inl (cy 3, 400, .inl f_15))] H := hP
  have hD : va_D A [(md, .inr (12, [.ref m0, .ref m1, .int 12, .ref m3, .ref m4, .ref m5, .ref m6, .ref m7, .ref m8, .ref m9, .ref m10, .ref m11, .ref m12, .ref m13, .ref m14, .ref m15, .ref m16, .int 0, .int 0, .int 0, .int 0, .int 0, .int 0, .int 0, .ref m24, .int 0, .ref m26, .int 0, .ref m28, .long 0, .ref m30, .ref m31, .int 0, .int 0, .int 0, .ref m35, .ref m36, .int 0, .ref m38, .int 0, .int 0, .ref m41, .ref m42, .ref m43, .ref m44, .ref m45, .ref m46, .ref m47, .ref m48])), (m1, .inl (cy 3, 400, .inl f_15))] := hD
  refine lv_iinc (v := (-8)) (lv' := [(2, .int (-8)), (0, .ref md), (1, .int p0)]) hx hb dX12_four_30 hl (k := 0) rfl (by decide) (by decide) rfl (fun ls hl => ?_)
  refine lv_goto (tgt := 3) hx hb dX12_four_33 (by decide) ?_
  refine lv_iload_n hx hb dX12_four_3 rfl (lv_at hl 0 rfl) ?_
  refine lv_if_lt (tgt := 36) hx hb dX12_four_4 (by decide) (fun _ => ?_) (fun c => absurd c (by decide))
  have hP9 := hP.sub (ws' := [(md, .inr (12, [.ref m0, .ref m1, .int 12, .ref m3, .ref m4, .ref m5, .ref m6, .ref m7, .ref m8, .ref m9, .ref m10, .ref m11, .ref m12, .ref m13, .ref m14, .ref m15, .ref m16, .int 0, .int 0, .int 0, .int 0, .int 0, .int 0, .int 0, .ref m24, .int 0, .ref m26, .int 0, .ref m28, .long 0, .ref m30, .ref m31, .int 0, .int 0, .int 0, .ref m35, .ref m36, .int 0, .ref m38, .int 0, .int 0, .ref m41, .ref m42, .ref m43, .ref m44, .ref m45, .ref m46, .ref m47, .ref m48])), (m1, .inl (cy 3, 400, .inl f_15))]) [0, 1] rfl
  have hD9 := hD.sub (ws' := [(md, .inr (12, [.ref m0, .ref m1, .int 12, .ref m3, .ref m4, .ref m5, .ref m6, .ref m7, .ref m8, .ref m9, .ref m10, .ref m11, .ref m12, .ref m13, .ref m14, .ref m15, .ref m16, .int 0, .int 0, .int 0, .int 0, .int 0, .int 0, .int 0, .ref m24, .int 0, .ref m26, .int 0, .ref m28, .long 0, .ref m30, .ref m31, .int 0, .int 0, .int 0, .ref m35, .ref m36, .int 0, .ref m38, .int 0, .int 0, .ref m41, .ref m42, .ref m43, .ref m44, .ref m45, .ref m46, .ref m47, .ref m48])), (m1, .inl (cy 3, 400, .inl f_15))]) [0, 1] (by decide) rfl
  exact W.vret hx hb hr (fun t ht hW => ⟨⟨f_15, rfl, trivial, by rw [ht]; exact hP9, hD9⟩, hS.F ht⟩) hS.2.2 dX12_four_36
set_option maxHeartbeats 4000000 in
set_option maxRecDepth 100000 in
theorem c_X12_four_12 (l : Launch) (D : va_G) (cy : Nat → ClassId) (sz : Nat) (md : Nat) (p0 : Int32) (m0 : Nat) (m1 : Nat) (m3 : Nat) (m4 : Nat) (m5 : Nat) (m6 : Nat) (m7 : Nat) (m8 : Nat) (m9 : Nat) (m10 : Nat) (m11 : Nat) (m12 : Nat) (m13 : Nat) (m14 : Nat) (m15 : Nat) (m16 : Nat) (m24 : Nat) (m26 : Nat) (m28 : Nat) (m30 : Nat) (m31 : Nat) (m35 : Nat) (m36 : Nat) (m38 : Nat) (m41 : Nat) (m42 : Nat) (m43 : Nat) (m44 : Nat) (m45 : Nat) (m46 : Nat) (m47 : Nat) (m48 : Nat) (f : Nat → Int32)  : Met l yX12_four (tl_w yX12_four cX12_four 3 none) ({ frames := 0, cells := 0, slots := 0, locals := 0 }) (va_Pc [.ref md, .int p0] (tl_P D cy [(md, .inr (12, [.ref m0, .ref m1, .int 12, .ref m3, .ref m4, .ref m5, .ref m6, .ref m7, .ref m8, .ref m9, .ref m10, .ref m11, .ref m12, .ref m13, .ref m14, .ref m15, .ref m16, .int 0, .int 0, .int 0, .int 0, .int 0, .int 0, .int 0, .ref m24, .int 0, .ref m26, .int 0, .ref m28, .long 0, .ref m30, .ref m31, .int 0, .int 0, .int 0, .ref m35, .ref m36, .int 0, .ref m38, .int 0, .int 0, .ref m41, .ref m42, .ref m43, .ref m44, .ref m45, .ref m46, .ref m47, .ref m48])), (m1, .inl (cy 3, 400, .inl f))] sz)) (va_Qv (fun (u : Nat → Int32) => True) (tl_B D (va_A [(md, .inr (12, [.ref m0, .ref m1, .int 12, .ref m3, .ref m4, .ref m5, .ref m6, .ref m7, .ref m8, .ref m9, .ref m10, .ref m11, .ref m12, .ref m13, .ref m14, .ref m15, .ref m16, .int 0, .int 0, .int 0, .int 0, .int 0, .int 0, .int 0, .ref m24, .int 0, .ref m26, .int 0, .ref m28, .long 0, .ref m30, .ref m31, .int 0, .int 0, .int 0, .ref m35, .ref m36, .int 0, .ref m38, .int 0, .int 0, .ref m41, .ref m42, .ref m43, .ref m44, .ref m45, .ref m46, .ref m47, .ref m48])), (m1, .inl (cy 3, 400, .inl f))] sz) (fun u : Nat → Int32 => [(md, .inr (12, [.ref m0, .ref m1, .int 16, .ref m3, .ref m4, .ref m5, .ref m6, .ref m7, .ref m8, .ref m9, .ref m10, .ref m11, .ref m12, .ref m13, .ref m14, .ref m15, .ref m16, .int 0, .int 0, .int 0, .int 0, .int 0, .int 0, .int 0, .ref m24, .int 0, .ref m26, .int 0, .ref m28, .long 0, .ref m30, .ref m31, .int 0, .int 0, .int 0, .ref m35, .ref m36, .int 0, .ref m38, .int 0, .int 0, .ref m41, .ref m42, .ref m43, .ref m44, .ref m45, .ref m46, .ref m47, .ref m48])), (m1, .inl (cy 3, 400, .inl u))])) (va_A [(md, .inr (12, [.ref m0, .ref m1, .int 12, .ref m3, .ref m4, .ref m5, .ref m6, .ref m7, .ref m8, .ref m9, .ref m10, .ref m11, .ref m12, .ref m13, .ref m14, .ref m15, .ref m16, .int 0, .int 0, .int 0, .int 0, .int 0, .int 0, .int 0, .ref m24, .int 0, .ref m26, .int 0, .ref m28, .long 0, .ref m30, .ref m31, .int 0, .int 0, .int 0, .ref m35, .ref m36, .int 0, .ref m38, .int 0, .int 0, .ref m41, .ref m42, .ref m43, .ref m44, .ref m45, .ref m46, .ref m47, .ref m48])), (m1, .inl (cy 3, 400, .inl f))] sz)) 0 0 (va_A [(md, .inr (12, [.ref m0, .ref m1, .int 12, .ref m3, .ref m4, .ref m5, .ref m6, .ref m7, .ref m8, .ref m9, .ref m10, .ref m11, .ref m12, .ref m13, .ref m14, .ref m15, .ref m16, .int 0, .int 0, .int 0, .int 0, .int 0, .int 0, .int 0, .ref m24, .int 0, .ref m26, .int 0, .ref m28, .long 0, .ref m30, .ref m31, .int 0, .int 0, .int 0, .ref m35, .ref m36, .int 0, .ref m38, .int 0, .int 0, .ref m41, .ref m42, .ref m43, .ref m44, .ref m45, .ref m46, .ref m47, .ref m48])), (m1, .inl (cy 3, 400, .inl f))] sz) := by
  refine Met.ofW (cc := cX12_four) (maxL := 3) (ret := none) (by decide) rfl ?_
  intro p e s m args below meth c s₁ B hml hv
  obtain ⟨rfl, hsz, hP, hK, hD0, hN⟩ := hv
  have hx := B.exec
  have hb := B.bytes
  have hr := B.returns
  have hta := tl_hta (atoms_spec (ws := tl_w yX12_four cX12_four 3 none) B.pre)
  have hown : s.vm.findClass RX12 = some m.cls := findClass_of_methodNamed B.named
  have hlocks := B.notSynchronized
  subst hsz
  have hD := hD0.self (sz := s.heap.size)
  generalize hAe : va_A [(md, .inr (12, [.ref m0, .ref m1, .int 12, .ref m3, .ref m4, .ref m5, .ref m6, .ref m7, .ref m8, .ref m9, .ref m10, .ref m11, .ref m12, .ref m13, .ref m14, .ref m15, .ref m16, .int 0, .int 0, .int 0, .int 0, .int 0, .int 0, .int 0, .ref m24, .int 0, .ref m26, .int 0, .ref m28, .long 0, .ref m30, .ref m31, .int 0, .int 0, .int 0, .ref m35, .ref m36, .int 0, .ref m38, .int 0, .int 0, .ref m41, .ref m42, .ref m43, .ref m44, .ref m45, .ref m46, .ref m47, .ref m48])), (m1, .inl (cy 3, 400, .inl f))] s.heap.size = A at hD ⊢
  have hA : ∀ q : Nat, s.heap.size ≤ q → A q := fun q h => by rw [← hAe]; exact Or.inr h
  have hS : va_S A s.heap s.heap [] := va_S.rf
  have hP : va_P D vwCl [(md, .inr (12, [.ref m0, .ref m1, .int 12, .ref m3, .ref m4, .ref m5, .ref m6, .ref m7, .ref m8, .ref m9, .ref m10, .ref m11, .ref m12, .ref m13, .ref m14, .ref m15, .ref m16, .int 0, .int 0, .int 0, .int 0, .int 0, .int 0, .int 0, .ref m24, .int 0, .ref m26, .int 0, .ref m28, .long 0, .ref m30, .ref m31, .int 0, .int 0, .int 0, .ref m35, .ref m36, .int 0, .ref m38, .int 0, .int 0, .ref m41, .ref m42, .ref m43, .ref m44, .ref m45, .ref m46, .ref m47, .ref m48])), (m1, .inl (cy 3, 400, .inl f))] s.heap := hP
  have hl := lv_entry ([.ref md, .int p0]) (n := 3) (Nat.le_of_ble_eq_true rfl)
  rw [lg_entry_eq]
  generalize (lg_sl ([.ref md, .int p0]) ++ List.replicate (3 - (lg_sl ([.ref md, .int p0])).length) Slot.unset).toArray = ls at hl ⊢
  have hl : lv_has ls 3 [(0, .ref md), (1, .int p0)] := hl
  refine lv_bipush (v := 24) hx hb dX12_four_0 (by decide) ?_
  refine lv_istore_n (lv' := [(2, .int 24), (0, .ref md), (1, .int p0)]) hx hb dX12_four_2 rfl hl (by decide) rfl (fun ls hl => ?_)
  refine lv_iload_n hx hb dX12_four_3 rfl (lv_at hl 0 rfl) ?_
  refine lv_if_lt (tgt := 36) hx hb dX12_four_4 (by decide) (fun c => absurd c (by decide)) (fun _ => ?_)
  refine lv_aload_n hx hb dX12_four_7 rfl (lv_at hl 1 rfl) ?_
  refine va_get (D := D) (ci := 12) (v := .ref m1) (C := RX12) (T := TX12) (N := 49) hx hb hta inlX12 hown hK hP 0 rfl rfl 1 (by decide) (hta _ wk_151) (fun _ h9 => h9) rfl dX12_four_8 ?_
  refine lv_aload_n hx hb dX12_four_11 rfl (lv_at hl 1 rfl) ?_
  refine va_get (D := D) (ci := 12) (v := .int 12) (C := RX12) (T := TX12) (N := 49) hx hb hta inlX12 hown hK hP 0 rfl rfl 2 (by decide) (hta _ wk_347) (fun _ h9 => h9) rfl dX12_four_12 ?_
  refine lv_iload_n hx hb dX12_four_15 rfl (lv_at hl 2 rfl) ?_
  refine lv_iload_n hx hb dX12_four_16 rfl (lv_at hl 0 rfl) ?_
  refine lv_ishr hx hb dX12_four_17 ?_
  refine lv_topi (fun z_1 ez_1 => ?_)
  refine lv_i2b hx hb dX12_four_18 rfl ?_
  refine lv_topi (fun z_2 ez_2 => ?_)
  refine va_bast (D := D) hx hb hK hP hD hS 1 3 rfl rfl (tl_in (by decide) (by decide)) dX12_four_19 (fun H locs hP hD hS => ?_)
  have hP : va_P D vwCl [(md, .inr (12, [.ref m0, .ref m1, .int 12, .ref m3, .ref m4, .ref m5, .ref m6, .ref m7, .ref m8, .ref m9, .ref m10, .ref m11, .ref m12, .ref m13, .ref m14, .ref m15, .ref m16, .int 0, .int 0, .int 0, .int 0, .int 0, .int 0, .int 0, .ref m24, .int 0, .ref m26, .int 0, .ref m28, .long 0, .ref m30, .ref m31, .int 0, .int 0, .int 0, .ref m35, .ref m36, .int 0, .ref m38, .int 0, .int 0, .ref m41, .ref m42, .ref m43, .ref m44, .ref m45, .ref m46, .ref m47, .ref m48])), (m1, .inl (cy 3, 400, .inl (upd f (12 : Int32).toNatClampNeg (vp_nar .byte z_2))))] H := hP
  have hD : va_D A [(md, .inr (12, [.ref m0, .ref m1, .int 12, .ref m3, .ref m4, .ref m5, .ref m6, .ref m7, .ref m8, .ref m9, .ref m10, .ref m11, .ref m12, .ref m13, .ref m14, .ref m15, .ref m16, .int 0, .int 0, .int 0, .int 0, .int 0, .int 0, .int 0, .ref m24, .int 0, .ref m26, .int 0, .ref m28, .long 0, .ref m30, .ref m31, .int 0, .int 0, .int 0, .ref m35, .ref m36, .int 0, .ref m38, .int 0, .int 0, .ref m41, .ref m42, .ref m43, .ref m44, .ref m45, .ref m46, .ref m47, .ref m48])), (m1, .inl (cy 3, 400, .inl (upd f (12 : Int32).toNatClampNeg (vp_nar .byte z_2))))] := hD
  generalize (upd f (12 : Int32).toNatClampNeg (vp_nar .byte z_2)) = f_3 at hP hD
  refine lv_aload_n hx hb dX12_four_20 rfl (lv_at hl 1 rfl) ?_
  refine lv_dup hx hb dX12_four_21 rfl ?_
  refine va_get (D := D) (ci := 12) (v := .int 12) (C := RX12) (T := TX12) (N := 49) hx hb hta inlX12 hown hK hP 0 rfl rfl 2 (by decide) (hta _ wk_347) (fun _ h9 => h9) rfl dX12_four_22 ?_
  refine lv_iconst (v := 1) hx hb dX12_four_25 (by decide) ?_
  refine lv_iadd hx hb dX12_four_26 ?_
  refine lv_topi (fun z_4 ez_4 => ?_)
  obtain rfl : z_4 = (13 : Int32) := ez_4.trans (by decide)
  refine va_put (D := D) (ci := 12) (v := .int 13) (ty := tyX12 2) (C := RX12) (T := TX12) (N := 49) hx hb hta inlX12 tyX12 tyX12_ok nmX12 hown hK hP hD hS 0 rfl rfl 2 (by decide) (hta _ wk_347) (fun _ h9 => h9) rfl (tyX12_ok 2 (by decide)) rfl rfl (Nat.le_of_ble_eq_true rfl) dX12_four_27 (fun H locs hP hD hS => ?_)
  have hP : va_P D vwCl [(md, .inr (12, [.ref m0, .ref m1, .int 13, .ref m3, .ref m4, .ref m5, .ref m6, .ref m7, .ref m8, .ref m9, .ref m10, .ref m11, .ref m12, .ref m13, .ref m14, .ref m15, .ref m16, .int 0, .int 0, .int 0, .int 0, .int 0, .int 0, .int 0, .ref m24, .int 0, .ref m26, .int 0, .ref m28, .long 0, .ref m30, .ref m31, .int 0, .int 0, .int 0, .ref m35, .ref m36, .int 0, .ref m38, .int 0, .int 0, .ref m41, .ref m42, .ref m43, .ref m44, .ref m45, .ref m46, .ref m47, .ref m48])), (m1, .inl (cy 3, 400, .inl f_3))] H := hP
  have hD : va_D A [(md, .inr (12, [.ref m0, .ref m1, .int 13, .ref m3, .ref m4, .ref m5, .ref m6, .ref m7, .ref m8, .ref m9, .ref m10, .ref m11, .ref m12, .ref m13, .ref m14, .ref m15, .ref m16, .int 0, .int 0, .int 0, .int 0, .int 0, .int 0, .int 0, .ref m24, .int 0, .ref m26, .int 0, .ref m28, .long 0, .ref m30, .ref m31, .int 0, .int 0, .int 0, .ref m35, .ref m36, .int 0, .ref m38, .int 0, .int 0, .ref m41, .ref m42, .ref m43, .ref m44, .ref m45, .ref m46, .ref m47, .ref m48])), (m1, .inl (cy 3, 400, .inl f_3))] := hD
  refine lv_iinc (v := 16) (lv' := [(2, .int 16), (0, .ref md), (1, .int p0)]) hx hb dX12_four_30 hl (k := 0) rfl (by decide) (by decide) rfl (fun ls hl => ?_)
  refine lv_goto (tgt := 3) hx hb dX12_four_33 (by decide) ?_
  refine lv_iload_n hx hb dX12_four_3 rfl (lv_at hl 0 rfl) ?_
  refine lv_if_lt (tgt := 36) hx hb dX12_four_4 (by decide) (fun c => absurd c (by decide)) (fun _ => ?_)
  refine lv_aload_n hx hb dX12_four_7 rfl (lv_at hl 1 rfl) ?_
  refine va_get (D := D) (ci := 12) (v := .ref m1) (C := RX12) (T := TX12) (N := 49) hx hb hta inlX12 hown hK hP 0 rfl rfl 1 (by decide) (hta _ wk_151) (fun _ h9 => h9) rfl dX12_four_8 ?_
  refine lv_aload_n hx hb dX12_four_11 rfl (lv_at hl 1 rfl) ?_
  refine va_get (D := D) (ci := 12) (v := .int 13) (C := RX12) (T := TX12) (N := 49) hx hb hta inlX12 hown hK hP 0 rfl rfl 2 (by decide) (hta _ wk_347) (fun _ h9 => h9) rfl dX12_four_12 ?_
  refine lv_iload_n hx hb dX12_four_15 rfl (lv_at hl 2 rfl) ?_
  refine lv_iload_n hx hb dX12_four_16 rfl (lv_at hl 0 rfl) ?_
  refine lv_ishr hx hb dX12_four_17 ?_
  refine lv_topi (fun z_5 ez_5 => ?_)
  refine lv_i2b hx hb dX12_four_18 rfl ?_
  refine lv_topi (fun z_6 ez_6 => ?_)
  refine va_bast (D := D) hx hb hK hP hD hS 1 3 rfl rfl (tl_in (by decide) (by decide)) dX12_four_19 (fun H locs hP hD hS => ?_)
  have hP : va_P D vwCl [(md, .inr (12, [.ref m0, .ref m1, .int 13, .ref m3, .ref m4, .ref m5, .ref m6, .ref m7, .ref m8, .ref m9, .ref m10, .ref m11, .ref m12, .ref m13, .ref m14, .ref m15, .ref m16, .int 0, .int 0, .int 0, .int 0, .int 0, .int 0, .int 0, .ref m24, .int 0, .ref m26, .int 0, .ref m28, .long 0, .ref m30, .ref m31, .int 0, .int 0, .int 0, .ref m35, .ref m36, .int 0, .ref m38, .int 0, .int 0, .ref m41, .ref m42, .ref m43, .ref m44, .ref m45, .ref m46, .ref m47, .ref m48])), (m1, .inl (cy 3, 400, .inl (upd f_3 (13 : Int32).toNatClampNeg (vp_nar .byte z_6))))] H := hP
  have hD : va_D A [(md, .inr (12, [.ref m0, .ref m1, .int 13, .ref m3, .ref m4, .ref m5, .ref m6, .ref m7, .ref m8, .ref m9, .ref m10, .ref m11, .ref m12, .ref m13, .ref m14, .ref m15, .ref m16, .int 0, .int 0, .int 0, .int 0, .int 0, .int 0, .int 0, .ref m24, .int 0, .ref m26, .int 0, .ref m28, .long 0, .ref m30, .ref m31, .int 0, .int 0, .int 0, .ref m35, .ref m36, .int 0, .ref m38, .int 0, .int 0, .ref m41, .ref m42, .ref m43, .ref m44, .ref m45, .ref m46, .ref m47, .ref m48])), (m1, .inl (cy 3, 400, .inl (upd f_3 (13 : Int32).toNatClampNeg (vp_nar .byte z_6))))] := hD
  generalize (upd f_3 (13 : Int32).toNatClampNeg (vp_nar .byte z_6)) = f_7 at hP hD
  refine lv_aload_n hx hb dX12_four_20 rfl (lv_at hl 1 rfl) ?_
  refine lv_dup hx hb dX12_four_21 rfl ?_
  refine va_get (D := D) (ci := 12) (v := .int 13) (C := RX12) (T := TX12) (N := 49) hx hb hta inlX12 hown hK hP 0 rfl rfl 2 (by decide) (hta _ wk_347) (fun _ h9 => h9) rfl dX12_four_22 ?_
  refine lv_iconst (v := 1) hx hb dX12_four_25 (by decide) ?_
  refine lv_iadd hx hb dX12_four_26 ?_
  refine lv_topi (fun z_8 ez_8 => ?_)
  obtain rfl : z_8 = (14 : Int32) := ez_8.trans (by decide)
  refine va_put (D := D) (ci := 12) (v := .int 14) (ty := tyX12 2) (C := RX12) (T := TX12) (N := 49) hx hb hta inlX12 tyX12 tyX12_ok nmX12 hown hK hP hD hS 0 rfl rfl 2 (by decide) (hta _ wk_347) (fun _ h9 => h9) rfl (tyX12_ok 2 (by decide)) rfl rfl (Nat.le_of_ble_eq_true rfl) dX12_four_27 (fun H locs hP hD hS => ?_)
  have hP : va_P D vwCl [(md, .inr (12, [.ref m0, .ref m1, .int 14, .ref m3, .ref m4, .ref m5, .ref m6, .ref m7, .ref m8, .ref m9, .ref m10, .ref m11, .ref m12, .ref m13, .ref m14, .ref m15, .ref m16, .int 0, .int 0, .int 0, .int 0, .int 0, .int 0, .int 0, .ref m24, .int 0, .ref m26, .int 0, .ref m28, .long 0, .ref m30, .ref m31, .int 0, .int 0, .int 0, .ref m35, .ref m36, .int 0, .ref m38, .int 0, .int 0, .ref m41, .ref m42, .ref m43, .ref m44, .ref m45, .ref m46, .ref m47, .ref m48])), (m1, .inl (cy 3, 400, .inl f_7))] H := hP
  have hD : va_D A [(md, .inr (12, [.ref m0, .ref m1, .int 14, .ref m3, .ref m4, .ref m5, .ref m6, .ref m7, .ref m8, .ref m9, .ref m10, .ref m11, .ref m12, .ref m13, .ref m14, .ref m15, .ref m16, .int 0, .int 0, .int 0, .int 0, .int 0, .int 0, .int 0, .ref m24, .int 0, .ref m26, .int 0, .ref m28, .long 0, .ref m30, .ref m31, .int 0, .int 0, .int 0, .ref m35, .ref m36, .int 0, .ref m38, .int 0, .int 0, .ref m41, .ref m42, .ref m43, .ref m44, .ref m45, .ref m46, .ref m47, .ref m48])), (m1, .inl (cy 3, 400, .inl f_7))] := hD
  refine lv_iinc (v := 8) (lv' := [(2, .int 8), (0, .ref md), (1, .int p0)]) hx hb dX12_four_30 hl (k := 0) rfl (by decide) (by decide) rfl (fun ls hl => ?_)
  refine lv_goto (tgt := 3) hx hb dX12_four_33 (by decide) ?_
  refine lv_iload_n hx hb dX12_four_3 rfl (lv_at hl 0 rfl) ?_
  refine lv_if_lt (tgt := 36) hx hb dX12_four_4 (by decide) (fun c => absurd c (by decide)) (fun _ => ?_)
  refine lv_aload_n hx hb dX12_four_7 rfl (lv_at hl 1 rfl) ?_
  refine va_get (D := D) (ci := 12) (v := .ref m1) (C := RX12) (T := TX12) (N := 49) hx hb hta inlX12 hown hK hP 0 rfl rfl 1 (by decide) (hta _ wk_151) (fun _ h9 => h9) rfl dX12_four_8 ?_
  refine lv_aload_n hx hb dX12_four_11 rfl (lv_at hl 1 rfl) ?_
  refine va_get (D := D) (ci := 12) (v := .int 14) (C := RX12) (T := TX12) (N := 49) hx hb hta inlX12 hown hK hP 0 rfl rfl 2 (by decide) (hta _ wk_347) (fun _ h9 => h9) rfl dX12_four_12 ?_
  refine lv_iload_n hx hb dX12_four_15 rfl (lv_at hl 2 rfl) ?_
  refine lv_iload_n hx hb dX12_four_16 rfl (lv_at hl 0 rfl) ?_
  refine lv_ishr hx hb dX12_four_17 ?_
  refine lv_topi (fun z_9 ez_9 => ?_)
  refine lv_i2b hx hb dX12_four_18 rfl ?_
  refine lv_topi (fun z_10 ez_10 => ?_)
  refine va_bast (D := D) hx hb hK hP hD hS 1 3 rfl rfl (tl_in (by decide) (by decide)) dX12_four_19 (fun H locs hP hD hS => ?_)
  have hP : va_P D vwCl [(md, .inr (12, [.ref m0, .ref m1, .int 14, .ref m3, .ref m4, .ref m5, .ref m6, .ref m7, .ref m8, .ref m9, .ref m10, .ref m11, .ref m12, .ref m13, .ref m14, .ref m15, .ref m16, .int 0, .int 0, .int 0, .int 0, .int 0, .int 0, .int 0, .ref m24, .int 0, .ref m26, .int 0, .ref m28, .long 0, .ref m30, .ref m31, .int 0, .int 0, .int 0, .ref m35, .ref m36, .int 0, .ref m38, .int 0, .int 0, .ref m41, .ref m42, .ref m43, .ref m44, .ref m45, .ref m46, .ref m47, .ref m48])), (m1, .inl (cy 3, 400, .inl (upd f_7 (14 : Int32).toNatClampNeg (vp_nar .byte z_10))))] H := hP
  have hD : va_D A [(md, .inr (12, [.ref m0, .ref m1, .int 14, .ref m3, .ref m4, .ref m5, .ref m6, .ref m7, .ref m8, .ref m9, .ref m10, .ref m11, .ref m12, .ref m13, .ref m14, .ref m15, .ref m16, .int 0, .int 0, .int 0, .int 0, .int 0, .int 0, .int 0, .ref m24, .int 0, .ref m26, .int 0, .ref m28, .long 0, .ref m30, .ref m31, .int 0, .int 0, .int 0, .ref m35, .ref m36, .int 0, .ref m38, .int 0, .int 0, .ref m41, .ref m42, .ref m43, .ref m44, .ref m45, .ref m46, .ref m47, .ref m48])), (m1, .inl (cy 3, 400, .inl (upd f_7 (14 : Int32).toNatClampNeg (vp_nar .byte z_10))))] := hD
  generalize (upd f_7 (14 : Int32).toNatClampNeg (vp_nar .byte z_10)) = f_11 at hP hD
  refine lv_aload_n hx hb dX12_four_20 rfl (lv_at hl 1 rfl) ?_
  refine lv_dup hx hb dX12_four_21 rfl ?_
  refine va_get (D := D) (ci := 12) (v := .int 14) (C := RX12) (T := TX12) (N := 49) hx hb hta inlX12 hown hK hP 0 rfl rfl 2 (by decide) (hta _ wk_347) (fun _ h9 => h9) rfl dX12_four_22 ?_
  refine lv_iconst (v := 1) hx hb dX12_four_25 (by decide) ?_
  refine lv_iadd hx hb dX12_four_26 ?_
  refine lv_topi (fun z_12 ez_12 => ?_)
  obtain rfl : z_12 = (15 : Int32) := ez_12.trans (by decide)
  refine va_put (D := D) (ci := 12) (v := .int 15) (ty := tyX12 2) (C := RX12) (T := TX12) (N := 49) hx hb hta inlX12 tyX12 tyX12_ok nmX12 hown hK hP hD hS 0 rfl rfl 2 (by decide) (hta _ wk_347) (fun _ h9 => h9) rfl (tyX12_ok 2 (by decide)) rfl rfl (Nat.le_of_ble_eq_true rfl) dX12_four_27 (fun H locs hP hD hS => ?_)
  have hP : va_P D vwCl [(md, .inr (12, [.ref m0, .ref m1, .int 15, .ref m3, .ref m4, .ref m5, .ref m6, .ref m7, .ref m8, .ref m9, .ref m10, .ref m11, .ref m12, .ref m13, .ref m14, .ref m15, .ref m16, .int 0, .int 0, .int 0, .int 0, .int 0, .int 0, .int 0, .ref m24, .int 0, .ref m26, .int 0, .ref m28, .long 0, .ref m30, .ref m31, .int 0, .int 0, .int 0, .ref m35, .ref m36, .int 0, .ref m38, .int 0, .int 0, .ref m41, .ref m42, .ref m43, .ref m44, .ref m45, .ref m46, .ref m47, .ref m48])), (m1, .inl (cy 3, 400, .inl f_11))] H := hP
  have hD : va_D A [(md, .inr (12, [.ref m0, .ref m1, .int 15, .ref m3, .ref m4, .ref m5, .ref m6, .ref m7, .ref m8, .ref m9, .ref m10, .ref m11, .ref m12, .ref m13, .ref m14, .ref m15, .ref m16, .int 0, .int 0, .int 0, .int 0, .int 0, .int 0, .int 0, .ref m24, .int 0, .ref m26, .int 0, .ref m28, .long 0, .ref m30, .ref m31, .int 0, .int 0, .int 0, .ref m35, .ref m36, .int 0, .ref m38, .int 0, .int 0, .ref m41, .ref m42, .ref m43, .ref m44, .ref m45, .ref m46, .ref m47, .ref m48])), (m1, .inl (cy 3, 400, .inl f_11))] := hD
  refine lv_iinc (v := 0) (lv' := [(2, .int 0), (0, .ref md), (1, .int p0)]) hx hb dX12_four_30 hl (k := 0) rfl (by decide) (by decide) rfl (fun ls hl => ?_)
  refine lv_goto (tgt := 3) hx hb dX12_four_33 (by decide) ?_
  refine lv_iload_n hx hb dX12_four_3 rfl (lv_at hl 0 rfl) ?_
  refine lv_if_lt (tgt := 36) hx hb dX12_four_4 (by decide) (fun c => absurd c (by decide)) (fun _ => ?_)
  refine lv_aload_n hx hb dX12_four_7 rfl (lv_at hl 1 rfl) ?_
  refine va_get (D := D) (ci := 12) (v := .ref m1) (C := RX12) (T := TX12) (N := 49) hx hb hta inlX12 hown hK hP 0 rfl rfl 1 (by decide) (hta _ wk_151) (fun _ h9 => h9) rfl dX12_four_8 ?_
  refine lv_aload_n hx hb dX12_four_11 rfl (lv_at hl 1 rfl) ?_
  refine va_get (D := D) (ci := 12) (v := .int 15) (C := RX12) (T := TX12) (N := 49) hx hb hta inlX12 hown hK hP 0 rfl rfl 2 (by decide) (hta _ wk_347) (fun _ h9 => h9) rfl dX12_four_12 ?_
  refine lv_iload_n hx hb dX12_four_15 rfl (lv_at hl 2 rfl) ?_
  refine lv_iload_n hx hb dX12_four_16 rfl (lv_at hl 0 rfl) ?_
  refine lv_ishr hx hb dX12_four_17 ?_
  refine lv_topi (fun z_13 ez_13 => ?_)
  refine lv_i2b hx hb dX12_four_18 rfl ?_
  refine lv_topi (fun z_14 ez_14 => ?_)
  refine va_bast (D := D) hx hb hK hP hD hS 1 3 rfl rfl (tl_in (by decide) (by decide)) dX12_four_19 (fun H locs hP hD hS => ?_)
  have hP : va_P D vwCl [(md, .inr (12, [.ref m0, .ref m1, .int 15, .ref m3, .ref m4, .ref m5, .ref m6, .ref m7, .ref m8, .ref m9, .ref m10, .ref m11, .ref m12, .ref m13, .ref m14, .ref m15, .ref m16, .int 0, .int 0, .int 0, .int 0, .int 0, .int 0, .int 0, .ref m24, .int 0, .ref m26, .int 0, .ref m28, .long 0, .ref m30, .ref m31, .int 0, .int 0, .int 0, .ref m35, .ref m36, .int 0, .ref m38, .int 0, .int 0, .ref m41, .ref m42, .ref m43, .ref m44, .ref m45, .ref m46, .ref m47, .ref m48])), (m1, .inl (cy 3, 400, .inl (upd f_11 (15 : Int32).toNatClampNeg (vp_nar .byte z_14))))] H := hP
  have hD : va_D A [(md, .inr (12, [.ref m0, .ref m1, .int 15, .ref m3, .ref m4, .ref m5, .ref m6, .ref m7, .ref m8, .ref m9, .ref m10, .ref m11, .ref m12, .ref m13, .ref m14, .ref m15, .ref m16, .int 0, .int 0, .int 0, .int 0, .int 0, .int 0, .int 0, .ref m24, .int 0, .ref m26, .int 0, .ref m28, .long 0, .ref m30, .ref m31, .int 0, .int 0, .int 0, .ref m35, .ref m36, .int 0, .ref m38, .int 0, .int 0, .ref m41, .ref m42, .ref m43, .ref m44, .ref m45, .ref m46, .ref m47, .ref m48])), (m1, .inl (cy 3, 400, .inl (upd f_11 (15 : Int32).toNatClampNeg (vp_nar .byte z_14))))] := hD
  generalize (upd f_11 (15 : Int32).toNatClampNeg (vp_nar .byte z_14)) = f_15 at hP hD
  refine lv_aload_n hx hb dX12_four_20 rfl (lv_at hl 1 rfl) ?_
  refine lv_dup hx hb dX12_four_21 rfl ?_
  refine va_get (D := D) (ci := 12) (v := .int 15) (C := RX12) (T := TX12) (N := 49) hx hb hta inlX12 hown hK hP 0 rfl rfl 2 (by decide) (hta _ wk_347) (fun _ h9 => h9) rfl dX12_four_22 ?_
  refine lv_iconst (v := 1) hx hb dX12_four_25 (by decide) ?_
  refine lv_iadd hx hb dX12_four_26 ?_
  refine lv_topi (fun z_16 ez_16 => ?_)
  obtain rfl : z_16 = (16 : Int32) := ez_16.trans (by decide)
  refine va_put (D := D) (ci := 12) (v := .int 16) (ty := tyX12 2) (C := RX12) (T := TX12) (N := 49) hx hb hta inlX12 tyX12 tyX12_ok nmX12 hown hK hP hD hS 0 rfl rfl 2 (by decide) (hta _ wk_347) (fun _ h9 => h9) rfl (tyX12_ok 2 (by decide)) rfl rfl (Nat.le_of_ble_eq_true rfl) dX12_four_27 (fun H locs hP hD hS => ?_)
  have hP : va_P D vwCl [(md, .inr (12, [.ref m0, .ref m1, .int 16, .ref m3, .ref m4, .ref m5, .ref m6, .ref m7, .ref m8, .ref m9, .ref m10, .ref m11, .ref m12, .ref m13, .ref m14, .ref m15, .ref m16, .int 0, .int 0, .int 0, .int 0, .int 0, .int 0, .int 0, .ref m24, .int 0, .ref m26, .int 0, .ref m28, .long 0, .ref m30, .ref m31, .int 0, .int 0, .int 0, .ref m35, .ref m36, .int 0, .ref m38, .int 0, .int 0, .ref m41, .ref m42, .ref m43, .ref m44, .ref m45, .ref m46, .ref m47, .ref m48])), (m1, .inl (cy 3, 400, .inl f_15))] H := hP
  have hD : va_D A [(md, .inr (12, [.ref m0, .ref m1, .int 16, .ref m3, .ref m4, .ref m5, .ref m6, .ref m7, .ref m8, .ref m9, .ref m10, .ref m11, .ref m12, .ref m13, .ref m14, .ref m15, .ref m16, .int 0, .int 0, .int 0, .int 0, .int 0, .int 0, .int 0, .ref m24, .int 0, .ref m26, .int 0, .ref m28, .long 0, .ref m30, .ref m31, .int 0, .int 0, .int 0, .ref m35, .ref m36, .int 0, .ref m38, .int 0, .int 0, .ref m41, .ref m42, .ref m43, .ref m44, .ref m45, .ref m46, .ref m47, .ref m48])), (m1, .inl (cy 3, 400, .inl f_15))] := hD
  refine lv_iinc (v := (-8)) (lv' := [(2, .int (-8)), (0, .ref md), (1, .int p0)]) hx hb dX12_four_30 hl (k := 0) rfl (by decide) (by decide) rfl (fun ls hl => ?_)
  refine lv_goto (tgt := 3) hx hb dX12_four_33 (by decide) ?_
  refine lv_iload_n hx hb dX12_four_3 rfl (lv_at hl 0 rfl) ?_
  refine lv_if_lt (tgt := 36) hx hb dX12_four_4 (by decide) (fun _ => ?_) (fun c => absurd c (by decide))
  have hP9 := hP.sub (ws' := [(md, .inr (12, [.ref m0, .ref m1, .int 16, .ref m3, .ref m4, .ref m5, .ref m6, .ref m7, .ref m8, .ref m9, .ref m10, .ref m11, .ref m12, .ref m13, .ref m14, .ref m15, .ref m16, .int 0, .int 0, .int 0, .int 0, .int 0, .int 0, .int 0, .ref m24, .int 0, .ref m26, .int 0, .ref m28, .long 0, .ref m30, .ref m31, .int 0, .int 0, .int 0, .ref m35, .ref m36, .int 0, .ref m38, .int 0, .int 0, .ref m41, .ref m42, .ref m43, .ref m44, .ref m45, .ref m46, .ref m47, .ref m48])), (m1, .inl (cy 3, 400, .inl f_15))]) [0, 1] rfl
  have hD9 := hD.sub (ws' := [(md, .inr (12, [.ref m0, .ref m1, .int 16, .ref m3, .ref m4, .ref m5, .ref m6, .ref m7, .ref m8, .ref m9, .ref m10, .ref m11, .ref m12, .ref m13, .ref m14, .ref m15, .ref m16, .int 0, .int 0, .int 0, .int 0, .int 0, .int 0, .int 0, .ref m24, .int 0, .ref m26, .int 0, .ref m28, .long 0, .ref m30, .ref m31, .int 0, .int 0, .int 0, .ref m35, .ref m36, .int 0, .ref m38, .int 0, .int 0, .ref m41, .ref m42, .ref m43, .ref m44, .ref m45, .ref m46, .ref m47, .ref m48])), (m1, .inl (cy 3, 400, .inl f_15))]) [0, 1] (by decide) rfl
  exact W.vret hx hb hr (fun t ht hW => ⟨⟨f_15, rfl, trivial, by rw [ht]; exact hP9, hD9⟩, hS.F ht⟩) hS.2.2 dX12_four_36
set_option maxHeartbeats 4000000 in
set_option maxRecDepth 100000 in
theorem c_X12_four_16 (l : Launch) (D : va_G) (cy : Nat → ClassId) (sz : Nat) (md : Nat) (p0 : Int32) (m0 : Nat) (m1 : Nat) (m3 : Nat) (m4 : Nat) (m5 : Nat) (m6 : Nat) (m7 : Nat) (m8 : Nat) (m9 : Nat) (m10 : Nat) (m11 : Nat) (m12 : Nat) (m13 : Nat) (m14 : Nat) (m15 : Nat) (m16 : Nat) (m24 : Nat) (m26 : Nat) (m28 : Nat) (m30 : Nat) (m31 : Nat) (m35 : Nat) (m36 : Nat) (m38 : Nat) (m41 : Nat) (m42 : Nat) (m43 : Nat) (m44 : Nat) (m45 : Nat) (m46 : Nat) (m47 : Nat) (m48 : Nat) (f : Nat → Int32)  : Met l yX12_four (tl_w yX12_four cX12_four 3 none) ({ frames := 0, cells := 0, slots := 0, locals := 0 }) (va_Pc [.ref md, .int p0] (tl_P D cy [(md, .inr (12, [.ref m0, .ref m1, .int 16, .ref m3, .ref m4, .ref m5, .ref m6, .ref m7, .ref m8, .ref m9, .ref m10, .ref m11, .ref m12, .ref m13, .ref m14, .ref m15, .ref m16, .int 0, .int 0, .int 0, .int 0, .int 0, .int 0, .int 0, .ref m24, .int 0, .ref m26, .int 0, .ref m28, .long 0, .ref m30, .ref m31, .int 0, .int 0, .int 0, .ref m35, .ref m36, .int 0, .ref m38, .int 0, .int 0, .ref m41, .ref m42, .ref m43, .ref m44, .ref m45, .ref m46, .ref m47, .ref m48])), (m1, .inl (cy 3, 400, .inl f))] sz)) (va_Qv (fun (u : Nat → Int32) => True) (tl_B D (va_A [(md, .inr (12, [.ref m0, .ref m1, .int 16, .ref m3, .ref m4, .ref m5, .ref m6, .ref m7, .ref m8, .ref m9, .ref m10, .ref m11, .ref m12, .ref m13, .ref m14, .ref m15, .ref m16, .int 0, .int 0, .int 0, .int 0, .int 0, .int 0, .int 0, .ref m24, .int 0, .ref m26, .int 0, .ref m28, .long 0, .ref m30, .ref m31, .int 0, .int 0, .int 0, .ref m35, .ref m36, .int 0, .ref m38, .int 0, .int 0, .ref m41, .ref m42, .ref m43, .ref m44, .ref m45, .ref m46, .ref m47, .ref m48])), (m1, .inl (cy 3, 400, .inl f))] sz) (fun u : Nat → Int32 => [(md, .inr (12, [.ref m0, .ref m1, .int 20, .ref m3, .ref m4, .ref m5, .ref m6, .ref m7, .ref m8, .ref m9, .ref m10, .ref m11, .ref m12, .ref m13, .ref m14, .ref m15, .ref m16, .int 0, .int 0, .int 0, .int 0, .int 0, .int 0, .int 0, .ref m24, .int 0, .ref m26, .int 0, .ref m28, .long 0, .ref m30, .ref m31, .int 0, .int 0, .int 0, .ref m35, .ref m36, .int 0, .ref m38, .int 0, .int 0, .ref m41, .ref m42, .ref m43, .ref m44, .ref m45, .ref m46, .ref m47, .ref m48])), (m1, .inl (cy 3, 400, .inl u))])) (va_A [(md, .inr (12, [.ref m0, .ref m1, .int 16, .ref m3, .ref m4, .ref m5, .ref m6, .ref m7, .ref m8, .ref m9, .ref m10, .ref m11, .ref m12, .ref m13, .ref m14, .ref m15, .ref m16, .int 0, .int 0, .int 0, .int 0, .int 0, .int 0, .int 0, .ref m24, .int 0, .ref m26, .int 0, .ref m28, .long 0, .ref m30, .ref m31, .int 0, .int 0, .int 0, .ref m35, .ref m36, .int 0, .ref m38, .int 0, .int 0, .ref m41, .ref m42, .ref m43, .ref m44, .ref m45, .ref m46, .ref m47, .ref m48])), (m1, .inl (cy 3, 400, .inl f))] sz)) 0 0 (va_A [(md, .inr (12, [.ref m0, .ref m1, .int 16, .ref m3, .ref m4, .ref m5, .ref m6, .ref m7, .ref m8, .ref m9, .ref m10, .ref m11, .ref m12, .ref m13, .ref m14, .ref m15, .ref m16, .int 0, .int 0, .int 0, .int 0, .int 0, .int 0, .int 0, .ref m24, .int 0, .ref m26, .int 0, .ref m28, .long 0, .ref m30, .ref m31, .int 0, .int 0, .int 0, .ref m35, .ref m36, .int 0, .ref m38, .int 0, .int 0, .ref m41, .ref m42, .ref m43, .ref m44, .ref m45, .ref m46, .ref m47, .ref m48])), (m1, .inl (cy 3, 400, .inl f))] sz) := by
  refine Met.ofW (cc := cX12_four) (maxL := 3) (ret := none) (by decide) rfl ?_
  intro p e s m args below meth c s₁ B hml hv
  obtain ⟨rfl, hsz, hP, hK, hD0, hN⟩ := hv
  have hx := B.exec
  have hb := B.bytes
  have hr := B.returns
  have hta := tl_hta (atoms_spec (ws := tl_w yX12_four cX12_four 3 none) B.pre)
  have hown : s.vm.findClass RX12 = some m.cls := findClass_of_methodNamed B.named
  have hlocks := B.notSynchronized
  subst hsz
  have hD := hD0.self (sz := s.heap.size)
  generalize hAe : va_A [(md, .inr (12, [.ref m0, .ref m1, .int 16, .ref m3, .ref m4, .ref m5, .ref m6, .ref m7, .ref m8, .ref m9, .ref m10, .ref m11, .ref m12, .ref m13, .ref m14, .ref m15, .ref m16, .int 0, .int 0, .int 0, .int 0, .int 0, .int 0, .int 0, .ref m24, .int 0, .ref m26, .int 0, .ref m28, .long 0, .ref m30, .ref m31, .int 0, .int 0, .int 0, .ref m35, .ref m36, .int 0, .ref m38, .int 0, .int 0, .ref m41, .ref m42, .ref m43, .ref m44, .ref m45, .ref m46, .ref m47, .ref m48])), (m1, .inl (cy 3, 400, .inl f))] s.heap.size = A at hD ⊢
  have hA : ∀ q : Nat, s.heap.size ≤ q → A q := fun q h => by rw [← hAe]; exact Or.inr h
  have hS : va_S A s.heap s.heap [] := va_S.rf
  have hP : va_P D vwCl [(md, .inr (12, [.ref m0, .ref m1, .int 16, .ref m3, .ref m4, .ref m5, .ref m6, .ref m7, .ref m8, .ref m9, .ref m10, .ref m11, .ref m12, .ref m13, .ref m14, .ref m15, .ref m16, .int 0, .int 0, .int 0, .int 0, .int 0, .int 0, .int 0, .ref m24, .int 0, .ref m26, .int 0, .ref m28, .long 0, .ref m30, .ref m31, .int 0, .int 0, .int 0, .ref m35, .ref m36, .int 0, .ref m38, .int 0, .int 0, .ref m41, .ref m42, .ref m43, .ref m44, .ref m45, .ref m46, .ref m47, .ref m48])), (m1, .inl (cy 3, 400, .inl f))] s.heap := hP
  have hl := lv_entry ([.ref md, .int p0]) (n := 3) (Nat.le_of_ble_eq_true rfl)
  rw [lg_entry_eq]
  generalize (lg_sl ([.ref md, .int p0]) ++ List.replicate (3 - (lg_sl ([.ref md, .int p0])).length) Slot.unset).toArray = ls at hl ⊢
  have hl : lv_has ls 3 [(0, .ref md), (1, .int p0)] := hl
  refine lv_bipush (v := 24) hx hb dX12_four_0 (by decide) ?_
  refine lv_istore_n (lv' := [(2, .int 24), (0, .ref md), (1, .int p0)]) hx hb dX12_four_2 rfl hl (by decide) rfl (fun ls hl => ?_)
  refine lv_iload_n hx hb dX12_four_3 rfl (lv_at hl 0 rfl) ?_
  refine lv_if_lt (tgt := 36) hx hb dX12_four_4 (by decide) (fun c => absurd c (by decide)) (fun _ => ?_)
  refine lv_aload_n hx hb dX12_four_7 rfl (lv_at hl 1 rfl) ?_
  refine va_get (D := D) (ci := 12) (v := .ref m1) (C := RX12) (T := TX12) (N := 49) hx hb hta inlX12 hown hK hP 0 rfl rfl 1 (by decide) (hta _ wk_151) (fun _ h9 => h9) rfl dX12_four_8 ?_
  refine lv_aload_n hx hb dX12_four_11 rfl (lv_at hl 1 rfl) ?_
  refine va_get (D := D) (ci := 12) (v := .int 16) (C := RX12) (T := TX12) (N := 49) hx hb hta inlX12 hown hK hP 0 rfl rfl 2 (by decide) (hta _ wk_347) (fun _ h9 => h9) rfl dX12_four_12 ?_
  refine lv_iload_n hx hb dX12_four_15 rfl (lv_at hl 2 rfl) ?_
  refine lv_iload_n hx hb dX12_four_16 rfl (lv_at hl 0 rfl) ?_
  refine lv_ishr hx hb dX12_four_17 ?_
  refine lv_topi (fun z_1 ez_1 => ?_)
  refine lv_i2b hx hb dX12_four_18 rfl ?_
  refine lv_topi (fun z_2 ez_2 => ?_)
  refine va_bast (D := D) hx hb hK hP hD hS 1 3 rfl rfl (tl_in (by decide) (by decide)) dX12_four_19 (fun H locs hP hD hS => ?_)
  have hP : va_P D vwCl [(md, .inr (12, [.ref m0, .ref m1, .int 16, .ref m3, .ref m4, .ref m5, .ref m6, .ref m7, .ref m8, .ref m9, .ref m10, .ref m11, .ref m12, .ref m13, .ref m14, .ref m15, .ref m16, .int 0, .int 0, .int 0, .int 0, .int 0, .int 0, .int 0, .ref m24, .int 0, .ref m26, .int 0, .ref m28, .long 0, .ref m30, .ref m31, .int 0, .int 0, .int 0, .ref m35, .ref m36, .int 0, .ref m38, .int 0, .int 0, .ref m41, .ref m42, .ref m43, .ref m44, .ref m45, .ref m46, .ref m47, .ref m48])), (m1, .inl (cy 3, 400, .inl (upd f (16 : Int32).toNatClampNeg (vp_nar .byte z_2))))] H := hP
  have hD : va_D A [(md, .inr (12, [.ref m0, .ref m1, .int 16, .ref m3, .ref m4, .ref m5, .ref m6, .ref m7, .ref m8, .ref m9, .ref m10, .ref m11, .ref m12, .ref m13, .ref m14, .ref m15, .ref m16, .int 0, .int 0, .int 0, .int 0, .int 0, .int 0, .int 0, .ref m24, .int 0, .ref m26, .int 0, .ref m28, .long 0, .ref m30, .ref m31, .int 0, .int 0, .int 0, .ref m35, .ref m36, .int 0, .ref m38, .int 0, .int 0, .ref m41, .ref m42, .ref m43, .ref m44, .ref m45, .ref m46, .ref m47, .ref m48])), (m1, .inl (cy 3, 400, .inl (upd f (16 : Int32).toNatClampNeg (vp_nar .byte z_2))))] := hD
  generalize (upd f (16 : Int32).toNatClampNeg (vp_nar .byte z_2)) = f_3 at hP hD
  refine lv_aload_n hx hb dX12_four_20 rfl (lv_at hl 1 rfl) ?_
  refine lv_dup hx hb dX12_four_21 rfl ?_
  refine va_get (D := D) (ci := 12) (v := .int 16) (C := RX12) (T := TX12) (N := 49) hx hb hta inlX12 hown hK hP 0 rfl rfl 2 (by decide) (hta _ wk_347) (fun _ h9 => h9) rfl dX12_four_22 ?_
  refine lv_iconst (v := 1) hx hb dX12_four_25 (by decide) ?_
  refine lv_iadd hx hb dX12_four_26 ?_
  refine lv_topi (fun z_4 ez_4 => ?_)
  obtain rfl : z_4 = (17 : Int32) := ez_4.trans (by decide)
  refine va_put (D := D) (ci := 12) (v := .int 17) (ty := tyX12 2) (C := RX12) (T := TX12) (N := 49) hx hb hta inlX12 tyX12 tyX12_ok nmX12 hown hK hP hD hS 0 rfl rfl 2 (by decide) (hta _ wk_347) (fun _ h9 => h9) rfl (tyX12_ok 2 (by decide)) rfl rfl (Nat.le_of_ble_eq_true rfl) dX12_four_27 (fun H locs hP hD hS => ?_)
  have hP : va_P D vwCl [(md, .inr (12, [.ref m0, .ref m1, .int 17, .ref m3, .ref m4, .ref m5, .ref m6, .ref m7, .ref m8, .ref m9, .ref m10, .ref m11, .ref m12, .ref m13, .ref m14, .ref m15, .ref m16, .int 0, .int 0, .int 0, .int 0, .int 0, .int 0, .int 0, .ref m24, .int 0, .ref m26, .int 0, .ref m28, .long 0, .ref m30, .ref m31, .int 0, .int 0, .int 0, .ref m35, .ref m36, .int 0, .ref m38, .int 0, .int 0, .ref m41, .ref m42, .ref m43, .ref m44, .ref m45, .ref m46, .ref m47, .ref m48])), (m1, .inl (cy 3, 400, .inl f_3))] H := hP
  have hD : va_D A [(md, .inr (12, [.ref m0, .ref m1, .int 17, .ref m3, .ref m4, .ref m5, .ref m6, .ref m7, .ref m8, .ref m9, .ref m10, .ref m11, .ref m12, .ref m13, .ref m14, .ref m15, .ref m16, .int 0, .int 0, .int 0, .int 0, .int 0, .int 0, .int 0, .ref m24, .int 0, .ref m26, .int 0, .ref m28, .long 0, .ref m30, .ref m31, .int 0, .int 0, .int 0, .ref m35, .ref m36, .int 0, .ref m38, .int 0, .int 0, .ref m41, .ref m42, .ref m43, .ref m44, .ref m45, .ref m46, .ref m47, .ref m48])), (m1, .inl (cy 3, 400, .inl f_3))] := hD
  refine lv_iinc (v := 16) (lv' := [(2, .int 16), (0, .ref md), (1, .int p0)]) hx hb dX12_four_30 hl (k := 0) rfl (by decide) (by decide) rfl (fun ls hl => ?_)
  refine lv_goto (tgt := 3) hx hb dX12_four_33 (by decide) ?_
  refine lv_iload_n hx hb dX12_four_3 rfl (lv_at hl 0 rfl) ?_
  refine lv_if_lt (tgt := 36) hx hb dX12_four_4 (by decide) (fun c => absurd c (by decide)) (fun _ => ?_)
  refine lv_aload_n hx hb dX12_four_7 rfl (lv_at hl 1 rfl) ?_
  refine va_get (D := D) (ci := 12) (v := .ref m1) (C := RX12) (T := TX12) (N := 49) hx hb hta inlX12 hown hK hP 0 rfl rfl 1 (by decide) (hta _ wk_151) (fun _ h9 => h9) rfl dX12_four_8 ?_
  refine lv_aload_n hx hb dX12_four_11 rfl (lv_at hl 1 rfl) ?_
  refine va_get (D := D) (ci := 12) (v := .int 17) (C := RX12) (T := TX12) (N := 49) hx hb hta inlX12 hown hK hP 0 rfl rfl 2 (by decide) (hta _ wk_347) (fun _ h9 => h9) rfl dX12_four_12 ?_
  refine lv_iload_n hx hb dX12_four_15 rfl (lv_at hl 2 rfl) ?_
  refine lv_iload_n hx hb dX12_four_16 rfl (lv_at hl 0 rfl) ?_
  refine lv_ishr hx hb dX12_four_17 ?_
  refine lv_topi (fun z_5 ez_5 => ?_)
  refine lv_i2b hx hb dX12_four_18 rfl ?_
  refine lv_topi (fun z_6 ez_6 => ?_)
  refine va_bast (D := D) hx hb hK hP hD hS 1 3 rfl rfl (tl_in (by decide) (by decide)) dX12_four_19 (fun H locs hP hD hS => ?_)
  have hP : va_P D vwCl [(md, .inr (12, [.ref m0, .ref m1, .int 17, .ref m3, .ref m4, .ref m5, .ref m6, .ref m7, .ref m8, .ref m9, .ref m10, .ref m11, .ref m12, .ref m13, .ref m14, .ref m15, .ref m16, .int 0, .int 0, .int 0, .int 0, .int 0, .int 0, .int 0, .ref m24, .int 0, .ref m26, .int 0, .ref m28, .long 0, .ref m30, .ref m31, .int 0, .int 0, .int 0, .ref m35, .ref m36, .int 0, .ref m38, .int 0, .int 0, .ref m41, .ref m42, .ref m43, .ref m44, .ref m45, .ref m46, .ref m47, .ref m48])), (m1, .inl (cy 3, 400, .inl (upd f_3 (17 : Int32).toNatClampNeg (vp_nar .byte z_6))))] H := hP
  have hD : va_D A [(md, .inr (12, [.ref m0, .ref m1, .int 17, .ref m3, .ref m4, .ref m5, .ref m6, .ref m7, .ref m8, .ref m9, .ref m10, .ref m11, .ref m12, .ref m13, .ref m14, .ref m15, .ref m16, .int 0, .int 0, .int 0, .int 0, .int 0, .int 0, .int 0, .ref m24, .int 0, .ref m26, .int 0, .ref m28, .long 0, .ref m30, .ref m31, .int 0, .int 0, .int 0, .ref m35, .ref m36, .int 0, .ref m38, .int 0, .int 0, .ref m41, .ref m42, .ref m43, .ref m44, .ref m45, .ref m46, .ref m47, .ref m48])), (m1, .inl (cy 3, 400, .inl (upd f_3 (17 : Int32).toNatClampNeg (vp_nar .byte z_6))))] := hD
  generalize (upd f_3 (17 : Int32).toNatClampNeg (vp_nar .byte z_6)) = f_7 at hP hD
  refine lv_aload_n hx hb dX12_four_20 rfl (lv_at hl 1 rfl) ?_
  refine lv_dup hx hb dX12_four_21 rfl ?_
  refine va_get (D := D) (ci := 12) (v := .int 17) (C := RX12) (T := TX12) (N := 49) hx hb hta inlX12 hown hK hP 0 rfl rfl 2 (by decide) (hta _ wk_347) (fun _ h9 => h9) rfl dX12_four_22 ?_
  refine lv_iconst (v := 1) hx hb dX12_four_25 (by decide) ?_
  refine lv_iadd hx hb dX12_four_26 ?_
  refine lv_topi (fun z_8 ez_8 => ?_)
  obtain rfl : z_8 = (18 : Int32) := ez_8.trans (by decide)
  refine va_put (D := D) (ci := 12) (v := .int 18) (ty := tyX12 2) (C := RX12) (T := TX12) (N := 49) hx hb hta inlX12 tyX12 tyX12_ok nmX12 hown hK hP hD hS 0 rfl rfl 2 (by decide) (hta _ wk_347) (fun _ h9 => h9) rfl (tyX12_ok 2 (by decide)) rfl rfl (Nat.le_of_ble_eq_true rfl) dX12_four_27 (fun H locs hP hD hS => ?_)
  have hP : va_P D vwCl [(md, .inr (12, [.ref m0, .ref m1, .int 18, .ref m3, .ref m4, .ref m5, .ref m6, .ref m7, .ref m8, .ref m9, .ref m10, .ref m11, .ref m12, .ref m13, .ref m14, .ref m15, .ref m16, .int 0, .int 0, .int 0, .int 0, .int 0, .int 0, .int 0, .ref m24, .int 0, .ref m26, .int 0, .ref m28, .long 0, .ref m30, .ref m31, .int 0, .int 0, .int 0, .ref m35, .ref m36, .int 0, .ref m38, .int 0, .int 0, .ref m41, .ref m42, .ref m43, .ref m44, .ref m45, .ref m46, .ref m47, .ref m48])), (m1, .inl (cy 3, 400, .inl f_7))] H := hP
  have hD : va_D A [(md, .inr (12, [.ref m0, .ref m1, .int 18, .ref m3, .ref m4, .ref m5, .ref m6, .ref m7, .ref m8, .ref m9, .ref m10, .ref m11, .ref m12, .ref m13, .ref m14, .ref m15, .ref m16, .int 0, .int 0, .int 0, .int 0, .int 0, .int 0, .int 0, .ref m24, .int 0, .ref m26, .int 0, .ref m28, .long 0, .ref m30, .ref m31, .int 0, .int 0, .int 0, .ref m35, .ref m36, .int 0, .ref m38, .int 0, .int 0, .ref m41, .ref m42, .ref m43, .ref m44, .ref m45, .ref m46, .ref m47, .ref m48])), (m1, .inl (cy 3, 400, .inl f_7))] := hD
  refine lv_iinc (v := 8) (lv' := [(2, .int 8), (0, .ref md), (1, .int p0)]) hx hb dX12_four_30 hl (k := 0) rfl (by decide) (by decide) rfl (fun ls hl => ?_)
  refine lv_goto (tgt := 3) hx hb dX12_four_33 (by decide) ?_
  refine lv_iload_n hx hb dX12_four_3 rfl (lv_at hl 0 rfl) ?_
  refine lv_if_lt (tgt := 36) hx hb dX12_four_4 (by decide) (fun c => absurd c (by decide)) (fun _ => ?_)
  refine lv_aload_n hx hb dX12_four_7 rfl (lv_at hl 1 rfl) ?_
  refine va_get (D := D) (ci := 12) (v := .ref m1) (C := RX12) (T := TX12) (N := 49) hx hb hta inlX12 hown hK hP 0 rfl rfl 1 (by decide) (hta _ wk_151) (fun _ h9 => h9) rfl dX12_four_8 ?_
  refine lv_aload_n hx hb dX12_four_11 rfl (lv_at hl 1 rfl) ?_
  refine va_get (D := D) (ci := 12) (v := .int 18) (C := RX12) (T := TX12) (N := 49) hx hb hta inlX12 hown hK hP 0 rfl rfl 2 (by decide) (hta _ wk_347) (fun _ h9 => h9) rfl dX12_four_12 ?_
  refine lv_iload_n hx hb dX12_four_15 rfl (lv_at hl 2 rfl) ?_
  refine lv_iload_n hx hb dX12_four_16 rfl (lv_at hl 0 rfl) ?_
  refine lv_ishr hx hb dX12_four_17 ?_
  refine lv_topi (fun z_9 ez_9 => ?_)
  refine lv_i2b hx hb dX12_four_18 rfl ?_
  refine lv_topi (fun z_10 ez_10 => ?_)
  refine va_bast (D := D) hx hb hK hP hD hS 1 3 rfl rfl (tl_in (by decide) (by decide)) dX12_four_19 (fun H locs hP hD hS => ?_)
  have hP : va_P D vwCl [(md, .inr (12, [.ref m0, .ref m1, .int 18, .ref m3, .ref m4, .ref m5, .ref m6, .ref m7, .ref m8, .ref m9, .ref m10, .ref m11, .ref m12, .ref m13, .ref m14, .ref m15, .ref m16, .int 0, .int 0, .int 0, .int 0, .int 0, .int 0, .int 0, .ref m24, .int 0, .ref m26, .int 0, .ref m28, .long 0, .ref m30, .ref m31, .int 0, .int 0, .int 0, .ref m35, .ref m36, .int 0, .ref m38, .int 0, .int 0, .ref m41, .ref m42, .ref m43, .ref m44, .ref m45, .ref m46, .ref m47, .ref m48])), (m1, .inl (cy 3, 400, .inl (upd f_7 (18 : Int32).toNatClampNeg (vp_nar .byte z_10))))] H := hP
  have hD : va_D A [(md, .inr (12, [.ref m0, .ref m1, .int 18, .ref m3, .ref m4, .ref m5, .ref m6, .ref m7, .ref m8, .ref m9, .ref m10, .ref m11, .ref m12, .ref m13, .ref m14, .ref m15, .ref m16, .int 0, .int 0, .int 0, .int 0, .int 0, .int 0, .int 0, .ref m24, .int 0, .ref m26, .int 0, .ref m28, .long 0, .ref m30, .ref m31, .int 0, .int 0, .int 0, .ref m35, .ref m36, .int 0, .ref m38, .int 0, .int 0, .ref m41, .ref m42, .ref m43, .ref m44, .ref m45, .ref m46, .ref m47, .ref m48])), (m1, .inl (cy 3, 400, .inl (upd f_7 (18 : Int32).toNatClampNeg (vp_nar .byte z_10))))] := hD
  generalize (upd f_7 (18 : Int32).toNatClampNeg (vp_nar .byte z_10)) = f_11 at hP hD
  refine lv_aload_n hx hb dX12_four_20 rfl (lv_at hl 1 rfl) ?_
  refine lv_dup hx hb dX12_four_21 rfl ?_
  refine va_get (D := D) (ci := 12) (v := .int 18) (C := RX12) (T := TX12) (N := 49) hx hb hta inlX12 hown hK hP 0 rfl rfl 2 (by decide) (hta _ wk_347) (fun _ h9 => h9) rfl dX12_four_22 ?_
  refine lv_iconst (v := 1) hx hb dX12_four_25 (by decide) ?_
  refine lv_iadd hx hb dX12_four_26 ?_
  refine lv_topi (fun z_12 ez_12 => ?_)
  obtain rfl : z_12 = (19 : Int32) := ez_12.trans (by decide)
  refine va_put (D := D) (ci := 12) (v := .int 19) (ty := tyX12 2) (C := RX12) (T := TX12) (N := 49) hx hb hta inlX12 tyX12 tyX12_ok nmX12 hown hK hP hD hS 0 rfl rfl 2 (by decide) (hta _ wk_347) (fun _ h9 => h9) rfl (tyX12_ok 2 (by decide)) rfl rfl (Nat.le_of_ble_eq_true rfl) dX12_four_27 (fun H locs hP hD hS => ?_)
  have hP : va_P D vwCl [(md, .inr (12, [.ref m0, .ref m1, .int 19, .ref m3, .ref m4, .ref m5, .ref m6, .ref m7, .ref m8, .ref m9, .ref m10, .ref m11, .ref m12, .ref m13, .ref m14, .ref m15, .ref m16, .int 0, .int 0, .int 0, .int 0, .int 0, .int 0, .int 0, .ref m24, .int 0, .ref m26, .int 0, .ref m28, .long 0, .ref m30, .ref m31, .int 0, .int 0, .int 0, .ref m35, .ref m36, .int 0, .ref m38, .int 0, .int 0, .ref m41, .ref m42, .ref m43, .ref m44, .ref m45, .ref m46, .ref m47, .ref m48])), (m1, .inl (cy 3, 400, .inl f_11))] H := hP
  have hD : va_D A [(md, .inr (12, [.ref m0, .ref m1, .int 19, .ref m3, .ref m4, .ref m5, .ref m6, .ref m7, .ref m8, .ref m9, .ref m10, .ref m11, .ref m12, .ref m13, .ref m14, .ref m15, .ref m16, .int 0, .int 0, .int 0, .int 0, .int 0, .int 0, .int 0, .ref m24, .int 0, .ref m26, .int 0, .ref m28, .long 0, .ref m30, .ref m31, .int 0, .int 0, .int 0, .ref m35, .ref m36, .int 0, .ref m38, .int 0, .int 0, .ref m41, .ref m42, .ref m43, .ref m44, .ref m45, .ref m46, .ref m47, .ref m48])), (m1, .inl (cy 3, 400, .inl f_11))] := hD
  refine lv_iinc (v := 0) (lv' := [(2, .int 0), (0, .ref md), (1, .int p0)]) hx hb dX12_four_30 hl (k := 0) rfl (by decide) (by decide) rfl (fun ls hl => ?_)
  refine lv_goto (tgt := 3) hx hb dX12_four_33 (by decide) ?_
  refine lv_iload_n hx hb dX12_four_3 rfl (lv_at hl 0 rfl) ?_
  refine lv_if_lt (tgt := 36) hx hb dX12_four_4 (by decide) (fun c => absurd c (by decide)) (fun _ => ?_)
  refine lv_aload_n hx hb dX12_four_7 rfl (lv_at hl 1 rfl) ?_
  refine va_get (D := D) (ci := 12) (v := .ref m1) (C := RX12) (T := TX12) (N := 49) hx hb hta inlX12 hown hK hP 0 rfl rfl 1 (by decide) (hta _ wk_151) (fun _ h9 => h9) rfl dX12_four_8 ?_
  refine lv_aload_n hx hb dX12_four_11 rfl (lv_at hl 1 rfl) ?_
  refine va_get (D := D) (ci := 12) (v := .int 19) (C := RX12) (T := TX12) (N := 49) hx hb hta inlX12 hown hK hP 0 rfl rfl 2 (by decide) (hta _ wk_347) (fun _ h9 => h9) rfl dX12_four_12 ?_
  refine lv_iload_n hx hb dX12_four_15 rfl (lv_at hl 2 rfl) ?_
  refine lv_iload_n hx hb dX12_four_16 rfl (lv_at hl 0 rfl) ?_
  refine lv_ishr hx hb dX12_four_17 ?_
  refine lv_topi (fun z_13 ez_13 => ?_)
  refine lv_i2b hx hb dX12_four_18 rfl ?_
  refine lv_topi (fun z_14 ez_14 => ?_)
  refine va_bast (D := D) hx hb hK hP hD hS 1 3 rfl rfl (tl_in (by decide) (by decide)) dX12_four_19 (fun H locs hP hD hS => ?_)
  have hP : va_P D vwCl [(md, .inr (12, [.ref m0, .ref m1, .int 19, .ref m3, .ref m4, .ref m5, .ref m6, .ref m7, .ref m8, .ref m9, .ref m10, .ref m11, .ref m12, .ref m13, .ref m14, .ref m15, .ref m16, .int 0, .int 0, .int 0, .int 0, .int 0, .int 0, .int 0, .ref m24, .int 0, .ref m26, .int 0, .ref m28, .long 0, .ref m30, .ref m31, .int 0, .int 0, .int 0, .ref m35, .ref m36, .int 0, .ref m38, .int 0, .int 0, .ref m41, .ref m42, .ref m43, .ref m44, .ref m45, .ref m46, .ref m47, .ref m48])), (m1, .inl (cy 3, 400, .inl (upd f_11 (19 : Int32).toNatClampNeg (vp_nar .byte z_14))))] H := hP
  have hD : va_D A [(md, .inr (12, [.ref m0, .ref m1, .int 19, .ref m3, .ref m4, .ref m5, .ref m6, .ref m7, .ref m8, .ref m9, .ref m10, .ref m11, .ref m12, .ref m13, .ref m14, .ref m15, .ref m16, .int 0, .int 0, .int 0, .int 0, .int 0, .int 0, .int 0, .ref m24, .int 0, .ref m26, .int 0, .ref m28, .long 0, .ref m30, .ref m31, .int 0, .int 0, .int 0, .ref m35, .ref m36, .int 0, .ref m38, .int 0, .int 0, .ref m41, .ref m42, .ref m43, .ref m44, .ref m45, .ref m46, .ref m47, .ref m48])), (m1, .inl (cy 3, 400, .inl (upd f_11 (19 : Int32).toNatClampNeg (vp_nar .byte z_14))))] := hD
  generalize (upd f_11 (19 : Int32).toNatClampNeg (vp_nar .byte z_14)) = f_15 at hP hD
  refine lv_aload_n hx hb dX12_four_20 rfl (lv_at hl 1 rfl) ?_
  refine lv_dup hx hb dX12_four_21 rfl ?_
  refine va_get (D := D) (ci := 12) (v := .int 19) (C := RX12) (T := TX12) (N := 49) hx hb hta inlX12 hown hK hP 0 rfl rfl 2 (by decide) (hta _ wk_347) (fun _ h9 => h9) rfl dX12_four_22 ?_
  refine lv_iconst (v := 1) hx hb dX12_four_25 (by decide) ?_
  refine lv_iadd hx hb dX12_four_26 ?_
  refine lv_topi (fun z_16 ez_16 => ?_)
  obtain rfl : z_16 = (20 : Int32) := ez_16.trans (by decide)
  refine va_put (D := D) (ci := 12) (v := .int 20) (ty := tyX12 2) (C := RX12) (T := TX12) (N := 49) hx hb hta inlX12 tyX12 tyX12_ok nmX12 hown hK hP hD hS 0 rfl rfl 2 (by decide) (hta _ wk_347) (fun _ h9 => h9) rfl (tyX12_ok 2 (by decide)) rfl rfl (Nat.le_of_ble_eq_true rfl) dX12_four_27 (fun H locs hP hD hS => ?_)
  have hP : va_P D vwCl [(md, .inr (12, [.ref m0, .ref m1, .int 20, .ref m3, .ref m4, .ref m5, .ref m6, .ref m7, .ref m8, .ref m9, .ref m10, .ref m11, .ref m12, .ref m13, .ref m14, .ref m15, .ref m16, .int 0, .int 0, .int 0, .int 0, .int 0, .int 0, .int 0, .ref m24, .int 0, .ref m26, .int 0, .ref m28, .long 0, .ref m30, .ref m31, .int 0, .int 0, .int 0, .ref m35, .ref m36, .int 0, .ref m38, .int 0, .int 0, .ref m41, .ref m42, .ref m43, .ref m44, .ref m45, .ref m46, .ref m47, .ref m48])), (m1, .inl (cy 3, 400, .inl f_15))] H := hP
  have hD : va_D A [(md, .inr (12, [.ref m0, .ref m1, .int 20, .ref m3, .ref m4, .ref m5, .ref m6, .ref m7, .ref m8, .ref m9, .ref m10, .ref m11, .ref m12, .ref m13, .ref m14, .ref m15, .ref m16, .int 0, .int 0, .int 0, .int 0, .int 0, .int 0, .int 0, .ref m24, .int 0, .ref m26, .int 0, .ref m28, .long 0, .ref m30, .ref m31, .int 0, .int 0, .int 0, .ref m35, .ref m36, .int 0, .ref m38, .int 0, .int 0, .ref m41, .ref m42, .ref m43, .ref m44, .ref m45, .ref m46, .ref m47, .ref m48])), (m1, .inl (cy 3, 400, .inl f_15))] := hD
  refine lv_iinc (v := (-8)) (lv' := [(2, .int (-8)), (0, .ref md), (1, .int p0)]) hx hb dX12_four_30 hl (k := 0) rfl (by decide) (by decide) rfl (fun ls hl => ?_)
  refine lv_goto (tgt := 3) hx hb dX12_four_33 (by decide) ?_
  refine lv_iload_n hx hb dX12_four_3 rfl (lv_at hl 0 rfl) ?_
  refine lv_if_lt (tgt := 36) hx hb dX12_four_4 (by decide) (fun _ => ?_) (fun c => absurd c (by decide))
  have hP9 := hP.sub (ws' := [(md, .inr (12, [.ref m0, .ref m1, .int 20, .ref m3, .ref m4, .ref m5, .ref m6, .ref m7, .ref m8, .ref m9, .ref m10, .ref m11, .ref m12, .ref m13, .ref m14, .ref m15, .ref m16, .int 0, .int 0, .int 0, .int 0, .int 0, .int 0, .int 0, .ref m24, .int 0, .ref m26, .int 0, .ref m28, .long 0, .ref m30, .ref m31, .int 0, .int 0, .int 0, .ref m35, .ref m36, .int 0, .ref m38, .int 0, .int 0, .ref m41, .ref m42, .ref m43, .ref m44, .ref m45, .ref m46, .ref m47, .ref m48])), (m1, .inl (cy 3, 400, .inl f_15))]) [0, 1] rfl
  have hD9 := hD.sub (ws' := [(md, .inr (12, [.ref m0, .ref m1, .int 20, .ref m3, .ref m4, .ref m5, .ref m6, .ref m7, .ref m8, .ref m9, .ref m10, .ref m11, .ref m12, .ref m13, .ref m14, .ref m15, .ref m16, .int 0, .int 0, .int 0, .int 0, .int 0, .int 0, .int 0, .ref m24, .int 0, .ref m26, .int 0, .ref m28, .long 0, .ref m30, .ref m31, .int 0, .int 0, .int 0, .ref m35, .ref m36, .int 0, .ref m38, .int 0, .int 0, .ref m41, .ref m42, .ref m43, .ref m44, .ref m45, .ref m46, .ref m47, .ref m48])), (m1, .inl (cy 3, 400, .inl f_15))]) [0, 1] (by decide) rfl
  exact W.vret hx hb hr (fun t ht hW => ⟨⟨f_15, rfl, trivial, by rw [ht]; exact hP9, hD9⟩, hS.F ht⟩) hS.2.2 dX12_four_36
set_option maxHeartbeats 4000000 in
set_option maxRecDepth 100000 in
theorem c_X12_feed (l : Launch) (D : va_G) (cy : Nat → ClassId) (sz : Nat) (md : Nat) (p0 : Int32) (p1 : Int32) (p2 : Int32) (p3 : Int32) (p4 : Int32) (m0 : Nat) (m1 : Nat) (m3 : Nat) (m4 : Nat) (m5 : Nat) (m6 : Nat) (m7 : Nat) (m8 : Nat) (m9 : Nat) (m10 : Nat) (m11 : Nat) (m12 : Nat) (m13 : Nat) (m14 : Nat) (m15 : Nat) (m16 : Nat) (m24 : Nat) (m26 : Nat) (m28 : Nat) (m30 : Nat) (m31 : Nat) (m35 : Nat) (m36 : Nat) (m38 : Nat) (m41 : Nat) (m42 : Nat) (m43 : Nat) (m44 : Nat) (m45 : Nat) (m46 : Nat) (m47 : Nat) (m48 : Nat)  : Met l yX12_feed (tl_w yX12_feed cX12_feed 6 (some .int)) ({ frames := 1, cells := 0, slots := 0, locals := 22 }) (va_Pc [.ref md, .int p0, .int p1, .int p2, .int p3, .int p4] (tl_P D cy [(md, .inr (12, [.ref m0, .ref m1, .int 0, .ref m3, .ref m4, .ref m5, .ref m6, .ref m7, .ref m8, .ref m9, .ref m10, .ref m11, .ref m12, .ref m13, .ref m14, .ref m15, .ref m16, .int 0, .int 0, .int 0, .int 0, .int 0, .int 0, .int 0, .ref m24, .int 0, .ref m26, .int 0, .ref m28, .long 0, .ref m30, .ref m31, .int 0, .int 0, .int 0, .ref m35, .ref m36, .int 0, .ref m38, .int 0, .int 0, .ref m41, .ref m42, .ref m43, .ref m44, .ref m45, .ref m46, .ref m47, .ref m48])), (m1, .inl (cy 3, 400, .inl (fun _ => 0)))] sz)) (va_Qi (fun (r : Int32) (u : Unit) => r = 20) (tl_B D (va_A [(md, .inr (12, [.ref m0, .ref m1, .int 0, .ref m3, .ref m4, .ref m5, .ref m6, .ref m7, .ref m8, .ref m9, .ref m10, .ref m11, .ref m12, .ref m13, .ref m14, .ref m15, .ref m16, .int 0, .int 0, .int 0, .int 0, .int 0, .int 0, .int 0, .ref m24, .int 0, .ref m26, .int 0, .ref m28, .long 0, .ref m30, .ref m31, .int 0, .int 0, .int 0, .ref m35, .ref m36, .int 0, .ref m38, .int 0, .int 0, .ref m41, .ref m42, .ref m43, .ref m44, .ref m45, .ref m46, .ref m47, .ref m48])), (m1, .inl (cy 3, 400, .inl (fun _ => 0)))] sz) (fun u : Unit => [])) (va_A [(md, .inr (12, [.ref m0, .ref m1, .int 0, .ref m3, .ref m4, .ref m5, .ref m6, .ref m7, .ref m8, .ref m9, .ref m10, .ref m11, .ref m12, .ref m13, .ref m14, .ref m15, .ref m16, .int 0, .int 0, .int 0, .int 0, .int 0, .int 0, .int 0, .ref m24, .int 0, .ref m26, .int 0, .ref m28, .long 0, .ref m30, .ref m31, .int 0, .int 0, .int 0, .ref m35, .ref m36, .int 0, .ref m38, .int 0, .int 0, .ref m41, .ref m42, .ref m43, .ref m44, .ref m45, .ref m46, .ref m47, .ref m48])), (m1, .inl (cy 3, 400, .inl (fun _ => 0)))] sz)) 0 0 (va_A [(md, .inr (12, [.ref m0, .ref m1, .int 0, .ref m3, .ref m4, .ref m5, .ref m6, .ref m7, .ref m8, .ref m9, .ref m10, .ref m11, .ref m12, .ref m13, .ref m14, .ref m15, .ref m16, .int 0, .int 0, .int 0, .int 0, .int 0, .int 0, .int 0, .ref m24, .int 0, .ref m26, .int 0, .ref m28, .long 0, .ref m30, .ref m31, .int 0, .int 0, .int 0, .ref m35, .ref m36, .int 0, .ref m38, .int 0, .int 0, .ref m41, .ref m42, .ref m43, .ref m44, .ref m45, .ref m46, .ref m47, .ref m48])), (m1, .inl (cy 3, 400, .inl (fun _ => 0)))] sz) := by
  refine Met.ofW (cc := cX12_feed) (maxL := 6) (ret := (some .int)) (by decide) rfl ?_
  intro p e s m args below meth c s₁ B hml hv
  obtain ⟨rfl, hsz, hP, hK, hD0, hN⟩ := hv
  have hx := B.exec
  have hb := B.bytes
  have hr := B.returns
  have hta := tl_hta (atoms_spec (ws := tl_w yX12_feed cX12_feed 6 (some .int)) B.pre)
  have hown : s.vm.findClass RX12 = some m.cls := findClass_of_methodNamed B.named
  have hlocks := B.notSynchronized
  subst hsz
  have hD := hD0.self (sz := s.heap.size)
  generalize hAe : va_A [(md, .inr (12, [.ref m0, .ref m1, .int 0, .ref m3, .ref m4, .ref m5, .ref m6, .ref m7, .ref m8, .ref m9, .ref m10, .ref m11, .ref m12, .ref m13, .ref m14, .ref m15, .ref m16, .int 0, .int 0, .int 0, .int 0, .int 0, .int 0, .int 0, .ref m24, .int 0, .ref m26, .int 0, .ref m28, .long 0, .ref m30, .ref m31, .int 0, .int 0, .int 0, .ref m35, .ref m36, .int 0, .ref m38, .int 0, .int 0, .ref m41, .ref m42, .ref m43, .ref m44, .ref m45, .ref m46, .ref m47, .ref m48])), (m1, .inl (cy 3, 400, .inl (fun _ => 0)))] s.heap.size = A at hD ⊢
  have hA : ∀ q : Nat, s.heap.size ≤ q → A q := fun q h => by rw [← hAe]; exact Or.inr h
  have hS : va_S A s.heap s.heap [] := va_S.rf
  have hP : va_P D vwCl [(md, .inr (12, [.ref m0, .ref m1, .int 0, .ref m3, .ref m4, .ref m5, .ref m6, .ref m7, .ref m8, .ref m9, .ref m10, .ref m11, .ref m12, .ref m13, .ref m14, .ref m15, .ref m16, .int 0, .int 0, .int 0, .int 0, .int 0, .int 0, .int 0, .ref m24, .int 0, .ref m26, .int 0, .ref m28, .long 0, .ref m30, .ref m31, .int 0, .int 0, .int 0, .ref m35, .ref m36, .int 0, .ref m38, .int 0, .int 0, .ref m41, .ref m42, .ref m43, .ref m44, .ref m45, .ref m46, .ref m47, .ref m48])), (m1, .inl (cy 3, 400, .inl (fun _ => 0)))] s.heap := hP
  have hl := lv_entry ([.ref md, .int p0, .int p1, .int p2, .int p3, .int p4]) (n := 6) (Nat.le_of_ble_eq_true rfl)
  rw [lg_entry_eq]
  generalize (lg_sl ([.ref md, .int p0, .int p1, .int p2, .int p3, .int p4]) ++ List.replicate (6 - (lg_sl ([.ref md, .int p0, .int p1, .int p2, .int p3, .int p4])).length) Slot.unset).toArray = ls at hl ⊢
  have hl : lv_has ls 6 [(0, .ref md), (1, .int p0), (2, .int p1), (3, .int p2), (4, .int p3), (5, .int p4)] := hl
  refine lv_aload_n hx hb dX12_feed_0 rfl (lv_at hl 0 rfl) ?_
  refine va_get (D := D) (ci := 12) (v := .int 0) (C := RX12) (T := TX12) (N := 49) hx hb hta inlX12 hown hK hP 0 rfl rfl 2 (by decide) (hta _ wk_347) (fun _ h9 => h9) rfl dX12_feed_1 ?_
  refine lv_bipush (v := 20) hx hb dX12_feed_4 (by decide) ?_
  refine lv_iadd hx hb dX12_feed_6 ?_
  refine lv_topi (fun z_1 ez_1 => ?_)
  obtain rfl : z_1 = (20 : Int32) := ez_1.trans (by decide)
  refine lv_sipush (v := 400) hx hb dX12_feed_7 (by decide) ?_
  refine lv_icmp_le (tgt := 15) hx hb dX12_feed_10 (by decide) (fun _ => ?_) (fun c => absurd c (by decide))
  refine lv_aload_n hx hb dX12_feed_15 rfl (lv_at hl 0 rfl) ?_
  refine lv_iload_n hx hb dX12_feed_16 rfl (lv_at hl 1 rfl) ?_
  refine tl_cv (wr := []) _ _ hP hD hS hA [0, 1] [] rfl rfl (by decide) (by decide) (tl_rV (As := [.int p0]) (rest := []) ⟨hx, hb, hml, hown, hta⟩ hK hN hP hD (ci := 12) rfl 0 rfl lk_X12_157 (c_X12_four_0 l D cy s.heap.size md p0 m0 m1 m3 m4 m5 m6 m7 m8 m9 m10 m11 m12 m13 m14 m15 m16 m24 m26 m28 m30 m31 m35 m36 m38 m41 m42 m43 m44 m45 m46 m47 m48 (fun _ => 0) ) rfl rfl ⟨Nat.le_of_ble_eq_true rfl, Nat.le_of_ble_eq_true rfl⟩ rfl hl.1 rfl (Nat.le_of_ble_eq_true rfl) dX12_feed_17 ⟨Nat.le_of_ble_eq_true rfl, Nat.le_of_ble_eq_true rfl⟩) (fun u_4 H locs hw_2 hP hD hS => ?_)
  have hP : va_P D vwCl [(md, .inr (12, [.ref m0, .ref m1, .int 4, .ref m3, .ref m4, .ref m5, .ref m6, .ref m7, .ref m8, .ref m9, .ref m10, .ref m11, .ref m12, .ref m13, .ref m14, .ref m15, .ref m16, .int 0, .int 0, .int 0, .int 0, .int 0, .int 0, .int 0, .ref m24, .int 0, .ref m26, .int 0, .ref m28, .long 0, .ref m30, .ref m31, .int 0, .int 0, .int 0, .ref m35, .ref m36, .int 0, .ref m38, .int 0, .int 0, .ref m41, .ref m42, .ref m43, .ref m44, .ref m45, .ref m46, .ref m47, .ref m48])), (m1, .inl (cy 3, 400, .inl u_4))] H := hP
  have hD : va_D A [(md, .inr (12, [.ref m0, .ref m1, .int 4, .ref m3, .ref m4, .ref m5, .ref m6, .ref m7, .ref m8, .ref m9, .ref m10, .ref m11, .ref m12, .ref m13, .ref m14, .ref m15, .ref m16, .int 0, .int 0, .int 0, .int 0, .int 0, .int 0, .int 0, .ref m24, .int 0, .ref m26, .int 0, .ref m28, .long 0, .ref m30, .ref m31, .int 0, .int 0, .int 0, .ref m35, .ref m36, .int 0, .ref m38, .int 0, .int 0, .ref m41, .ref m42, .ref m43, .ref m44, .ref m45, .ref m46, .ref m47, .ref m48])), (m1, .inl (cy 3, 400, .inl u_4))] := hD
  refine W.widen (k := 0) (n := 0) (Nat.le_refl _) (Nat.le_refl _) ?_
  refine lv_aload_n hx hb dX12_feed_20 rfl (lv_at hl 0 rfl) ?_
  refine lv_iload_n hx hb dX12_feed_21 rfl (lv_at hl 2 rfl) ?_
  refine tl_cv (wr := []) _ _ hP hD hS hA [0, 1] [] rfl rfl (by decide) (by decide) (tl_rV (As := [.int p1]) (rest := []) ⟨hx, hb, hml, hown, hta⟩ hK hN hP hD (ci := 12) rfl 0 rfl lk_X12_157 (c_X12_four_4 l D cy H.size md p1 m0 m1 m3 m4 m5 m6 m7 m8 m9 m10 m11 m12 m13 m14 m15 m16 m24 m26 m28 m30 m31 m35 m36 m38 m41 m42 m43 m44 m45 m46 m47 m48 u_4 ) rfl rfl ⟨Nat.le_of_ble_eq_true rfl, Nat.le_of_ble_eq_true rfl⟩ rfl hl.1 rfl (Nat.le_of_ble_eq_true rfl) dX12_feed_22 ⟨Nat.le_of_ble_eq_true rfl, Nat.le_of_ble_eq_true rfl⟩) (fun u_7 H locs hw_5 hP hD hS => ?_)
  have hP : va_P D vwCl [(md, .inr (12, [.ref m0, .ref m1, .int 8, .ref m3, .ref m4, .ref m5, .ref m6, .ref m7, .ref m8, .ref m9, .ref m10, .ref m11, .ref m12, .ref m13, .ref m14, .ref m15, .ref m16, .int 0, .int 0, .int 0, .int 0, .int 0, .int 0, .int 0, .ref m24, .int 0, .ref m26, .int 0, .ref m28, .long 0, .ref m30, .ref m31, .int 0, .int 0, .int 0, .ref m35, .ref m36, .int 0, .ref m38, .int 0, .int 0, .ref m41, .ref m42, .ref m43, .ref m44, .ref m45, .ref m46, .ref m47, .ref m48])), (m1, .inl (cy 3, 400, .inl u_7))] H := hP
  have hD : va_D A [(md, .inr (12, [.ref m0, .ref m1, .int 8, .ref m3, .ref m4, .ref m5, .ref m6, .ref m7, .ref m8, .ref m9, .ref m10, .ref m11, .ref m12, .ref m13, .ref m14, .ref m15, .ref m16, .int 0, .int 0, .int 0, .int 0, .int 0, .int 0, .int 0, .ref m24, .int 0, .ref m26, .int 0, .ref m28, .long 0, .ref m30, .ref m31, .int 0, .int 0, .int 0, .ref m35, .ref m36, .int 0, .ref m38, .int 0, .int 0, .ref m41, .ref m42, .ref m43, .ref m44, .ref m45, .ref m46, .ref m47, .ref m48])), (m1, .inl (cy 3, 400, .inl u_7))] := hD
  refine W.widen (k := 0) (n := 0) (Nat.le_refl _) (Nat.le_refl _) ?_
  refine lv_aload_n hx hb dX12_feed_25 rfl (lv_at hl 0 rfl) ?_
  refine lv_iload_n hx hb dX12_feed_26 rfl (lv_at hl 3 rfl) ?_
  refine tl_cv (wr := []) _ _ hP hD hS hA [0, 1] [] rfl rfl (by decide) (by decide) (tl_rV (As := [.int p2]) (rest := []) ⟨hx, hb, hml, hown, hta⟩ hK hN hP hD (ci := 12) rfl 0 rfl lk_X12_157 (c_X12_four_8 l D cy H.size md p2 m0 m1 m3 m4 m5 m6 m7 m8 m9 m10 m11 m12 m13 m14 m15 m16 m24 m26 m28 m30 m31 m35 m36 m38 m41 m42 m43 m44 m45 m46 m47 m48 u_7 ) rfl rfl ⟨Nat.le_of_ble_eq_true rfl, Nat.le_of_ble_eq_true rfl⟩ rfl hl.1 rfl (Nat.le_of_ble_eq_true rfl) dX12_feed_27 ⟨Nat.le_of_ble_eq_true rfl, Nat.le_of_ble_eq_true rfl⟩) (fun u_10 H locs hw_8 hP hD hS => ?_)
  have hP : va_P D vwCl [(md, .inr (12, [.ref m0, .ref m1, .int 12, .ref m3, .ref m4, .ref m5, .ref m6, .ref m7, .ref m8, .ref m9, .ref m10, .ref m11, .ref m12, .ref m13, .ref m14, .ref m15, .ref m16, .int 0, .int 0, .int 0, .int 0, .int 0, .int 0, .int 0, .ref m24, .int 0, .ref m26, .int 0, .ref m28, .long 0, .ref m30, .ref m31, .int 0, .int 0, .int 0, .ref m35, .ref m36, .int 0, .ref m38, .int 0, .int 0, .ref m41, .ref m42, .ref m43, .ref m44, .ref m45, .ref m46, .ref m47, .ref m48])), (m1, .inl (cy 3, 400, .inl u_10))] H := hP
  have hD : va_D A [(md, .inr (12, [.ref m0, .ref m1, .int 12, .ref m3, .ref m4, .ref m5, .ref m6, .ref m7, .ref m8, .ref m9, .ref m10, .ref m11, .ref m12, .ref m13, .ref m14, .ref m15, .ref m16, .int 0, .int 0, .int 0, .int 0, .int 0, .int 0, .int 0, .ref m24, .int 0, .ref m26, .int 0, .ref m28, .long 0, .ref m30, .ref m31, .int 0, .int 0, .int 0, .ref m35, .ref m36, .int 0, .ref m38, .int 0, .int 0, .ref m41, .ref m42, .ref m43, .ref m44, .ref m45, .ref m46, .ref m47, .ref m48])), (m1, .inl (cy 3, 400, .inl u_10))] := hD
  refine W.widen (k := 0) (n := 0) (Nat.le_refl _) (Nat.le_refl _) ?_
  refine lv_aload_n hx hb dX12_feed_30 rfl (lv_at hl 0 rfl) ?_
  refine lv_iload hx hb dX12_feed_31 (lv_at hl 4 rfl) ?_
  refine tl_cv (wr := []) _ _ hP hD hS hA [0, 1] [] rfl rfl (by decide) (by decide) (tl_rV (As := [.int p3]) (rest := []) ⟨hx, hb, hml, hown, hta⟩ hK hN hP hD (ci := 12) rfl 0 rfl lk_X12_157 (c_X12_four_12 l D cy H.size md p3 m0 m1 m3 m4 m5 m6 m7 m8 m9 m10 m11 m12 m13 m14 m15 m16 m24 m26 m28 m30 m31 m35 m36 m38 m41 m42 m43 m44 m45 m46 m47 m48 u_10 ) rfl rfl ⟨Nat.le_of_ble_eq_true rfl, Nat.le_of_ble_eq_true rfl⟩ rfl hl.1 rfl (Nat.le_of_ble_eq_true rfl) dX12_feed_33 ⟨Nat.le_of_ble_eq_true rfl, Nat.le_of_ble_eq_true rfl⟩) (fun u_13 H locs hw_11 hP hD hS => ?_)
  have hP : va_P D vwCl [(md, .inr (12, [.ref m0, .ref m1, .int 16, .ref m3, .ref m4, .ref m5, .ref m6, .ref m7, .ref m8, .ref m9, .ref m10, .ref m11, .ref m12, .ref m13, .ref m14, .ref m15, .ref m16, .int 0, .int 0, .int 0, .int 0, .int 0, .int 0, .int 0, .ref m24, .int 0, .ref m26, .int 0, .ref m28, .long 0, .ref m30, .ref m31, .int 0, .int 0, .int 0, .ref m35, .ref m36, .int 0, .ref m38, .int 0, .int 0, .ref m41, .ref m42, .ref m43, .ref m44, .ref m45, .ref m46, .ref m47, .ref m48])), (m1, .inl (cy 3, 400, .inl u_13))] H := hP
  have hD : va_D A [(md, .inr (12, [.ref m0, .ref m1, .int 16, .ref m3, .ref m4, .ref m5, .ref m6, .ref m7, .ref m8, .ref m9, .ref m10, .ref m11, .ref m12, .ref m13, .ref m14, .ref m15, .ref m16, .int 0, .int 0, .int 0, .int 0, .int 0, .int 0, .int 0, .ref m24, .int 0, .ref m26, .int 0, .ref m28, .long 0, .ref m30, .ref m31, .int 0, .int 0, .int 0, .ref m35, .ref m36, .int 0, .ref m38, .int 0, .int 0, .ref m41, .ref m42, .ref m43, .ref m44, .ref m45, .ref m46, .ref m47, .ref m48])), (m1, .inl (cy 3, 400, .inl u_13))] := hD
  refine W.widen (k := 0) (n := 0) (Nat.le_refl _) (Nat.le_refl _) ?_
  refine lv_aload_n hx hb dX12_feed_36 rfl (lv_at hl 0 rfl) ?_
  refine lv_iload hx hb dX12_feed_37 (lv_at hl 5 rfl) ?_
  refine tl_cv (wr := []) _ _ hP hD hS hA [0, 1] [] rfl rfl (by decide) (by decide) (tl_rV (As := [.int p4]) (rest := []) ⟨hx, hb, hml, hown, hta⟩ hK hN hP hD (ci := 12) rfl 0 rfl lk_X12_157 (c_X12_four_16 l D cy H.size md p4 m0 m1 m3 m4 m5 m6 m7 m8 m9 m10 m11 m12 m13 m14 m15 m16 m24 m26 m28 m30 m31 m35 m36 m38 m41 m42 m43 m44 m45 m46 m47 m48 u_13 ) rfl rfl ⟨Nat.le_of_ble_eq_true rfl, Nat.le_of_ble_eq_true rfl⟩ rfl hl.1 rfl (Nat.le_of_ble_eq_true rfl) dX12_feed_39 ⟨Nat.le_of_ble_eq_true rfl, Nat.le_of_ble_eq_true rfl⟩) (fun u_16 H locs hw_14 hP hD hS => ?_)
  have hP : va_P D vwCl [(md, .inr (12, [.ref m0, .ref m1, .int 20, .ref m3, .ref m4, .ref m5, .ref m6, .ref m7, .ref m8, .ref m9, .ref m10, .ref m11, .ref m12, .ref m13, .ref m14, .ref m15, .ref m16, .int 0, .int 0, .int 0, .int 0, .int 0, .int 0, .int 0, .ref m24, .int 0, .ref m26, .int 0, .ref m28, .long 0, .ref m30, .ref m31, .int 0, .int 0, .int 0, .ref m35, .ref m36, .int 0, .ref m38, .int 0, .int 0, .ref m41, .ref m42, .ref m43, .ref m44, .ref m45, .ref m46, .ref m47, .ref m48])), (m1, .inl (cy 3, 400, .inl u_16))] H := hP
  have hD : va_D A [(md, .inr (12, [.ref m0, .ref m1, .int 20, .ref m3, .ref m4, .ref m5, .ref m6, .ref m7, .ref m8, .ref m9, .ref m10, .ref m11, .ref m12, .ref m13, .ref m14, .ref m15, .ref m16, .int 0, .int 0, .int 0, .int 0, .int 0, .int 0, .int 0, .ref m24, .int 0, .ref m26, .int 0, .ref m28, .long 0, .ref m30, .ref m31, .int 0, .int 0, .int 0, .ref m35, .ref m36, .int 0, .ref m38, .int 0, .int 0, .ref m41, .ref m42, .ref m43, .ref m44, .ref m45, .ref m46, .ref m47, .ref m48])), (m1, .inl (cy 3, 400, .inl u_16))] := hD
  refine W.widen (k := 0) (n := 0) (Nat.le_refl _) (Nat.le_refl _) ?_
  refine lv_aload_n hx hb dX12_feed_42 rfl (lv_at hl 0 rfl) ?_
  refine va_get (D := D) (ci := 12) (v := .int 20) (C := RX12) (T := TX12) (N := 49) hx hb hta inlX12 hown hK hP 0 rfl rfl 2 (by decide) (hta _ wk_347) (fun _ h9 => h9) rfl dX12_feed_43 ?_
  have hP9 := hP.sub (ws' := []) [] rfl
  have hD9 := hD.sub (ws' := []) [] (by decide) rfl
  exact W.iret (v := 20) hx hb hr (fun t ht hW => ⟨⟨_, (), rfl, rfl, by rw [ht]; exact hP9, hD9⟩, hS.F ht⟩) hS.2.2 dX12_feed_46

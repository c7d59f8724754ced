set_option maxHeartbeats 4000000 in
set_option maxRecDepth 100000 in
theorem c_X12_isColour (l : Launch) (D : va_G) (cy : Nat → ClassId) (sz : Nat) (p0 : Int32)  : Met l yX12_isColour (tl_w yX12_isColour cX12_isColour 1 (some .boolean)) ({ frames := 0, cells := 0, slots := 0, locals := 0 }) (va_Pc [.int p0] (tl_P D cy [] sz)) (vp_Si (fun r : Int32 => tl_E r (0 ≤ p0.toInt ∧ p0.toInt ≤ 299) 1 0)) 0 0 (fun _ => False) := by
  refine Met.ofW (cc := cX12_isColour) (maxL := 1) (ret := (some .boolean)) (by decide) rfl ?_
  intro p e s m args below meth c s₁ B hml hv
  obtain ⟨rfl, hsz, hP, hK, hD0, hN⟩ := hv
  have hx := B.exec
  have hb := B.bytes
  have hr := B.returns
  have hta := tl_hta (atoms_spec (ws := tl_w yX12_isColour cX12_isColour 1 (some .boolean)) B.pre)
  have hown : s.vm.findClass RX12 = some m.cls := findClass_of_methodNamed B.named
  have hlocks := B.notSynchronized
  subst hsz
  have hD := hD0
  have hP : va_P D vwCl [] s.heap := hP
  have hl := lv_entry ([.int p0]) (n := 1) (Nat.le_of_ble_eq_true rfl)
  rw [lg_entry_eq]
  generalize (lg_sl ([.int p0]) ++ List.replicate (1 - (lg_sl ([.int p0])).length) Slot.unset).toArray = ls at hl ⊢
  have hl : lv_has ls 1 [(0, .int p0)] := hl
  refine lv_iload_n hx hb dX12_isColour_0 rfl (lv_at hl 0 rfl) ?_
  refine lv_if_lt (tgt := 15) hx hb dX12_isColour_1 (by decide) (fun c_1 => ?_) (fun c_1 => ?_)
  · have c_1 : p0.toInt < (0 : Int) := tl_lt c_1
    refine lv_iconst (v := 0) hx hb dX12_isColour_15 (by decide) ?_
    exact W.zret (ty := .boolean) (v := 0) hx hb hr rfl (fun t ht hW => ⟨_, rfl, (Or.inr ⟨by omega, rfl⟩), ht⟩) (fun q h => by cases h) dX12_isColour_16
  · have c_1 : (0 : Int) ≤ p0.toInt := tl_nlt c_1
    refine lv_iload_n hx hb dX12_isColour_4 rfl (lv_at hl 0 rfl) ?_
    refine lv_sipush (v := 300) hx hb dX12_isColour_5 (by decide) ?_
    refine lv_icmp_ge (tgt := 15) hx hb dX12_isColour_8 (by decide) (fun c_2 => ?_) (fun c_2 => ?_)
    · have c_2 : (300 : Int) ≤ p0.toInt := tl_le c_2
      refine lv_iconst (v := 0) hx hb dX12_isColour_15 (by decide) ?_
      exact W.zret (ty := .boolean) (v := 0) hx hb hr rfl (fun t ht hW => ⟨_, rfl, (Or.inr ⟨by omega, rfl⟩), ht⟩) (fun q h => by cases h) dX12_isColour_16
    · have c_2 : p0.toInt < (300 : Int) := tl_nle c_2
      refine lv_iconst (v := 1) hx hb dX12_isColour_11 (by decide) ?_
      refine lv_goto (tgt := 16) hx hb dX12_isColour_12 (by decide) ?_
      exact W.zret (ty := .boolean) (v := 1) hx hb hr rfl (fun t ht hW => ⟨_, rfl, (Or.inl ⟨by omega, rfl⟩), ht⟩) (fun q h => by cases h) dX12_isColour_16
set_option maxHeartbeats 4000000 in
set_option maxRecDepth 100000 in
theorem c_X12_isWeek (l : Launch) (D : va_G) (cy : Nat → ClassId) (sz : Nat) (p0 : Int32)  : Met l yX12_isWeek (tl_w yX12_isWeek cX12_isWeek 1 (some .boolean)) ({ frames := 0, cells := 0, slots := 0, locals := 0 }) (va_Pc [.int p0] (tl_P D cy [] sz)) (vp_Si (fun r : Int32 => tl_E r (0 ≤ p0.toInt ∧ p0.toInt ≤ 399) 1 0)) 0 0 (fun _ => False) := by
  refine Met.ofW (cc := cX12_isWeek) (maxL := 1) (ret := (some .boolean)) (by decide) rfl ?_
  intro p e s m args below meth c s₁ B hml hv
  obtain ⟨rfl, hsz, hP, hK, hD0, hN⟩ := hv
  have hx := B.exec
  have hb := B.bytes
  have hr := B.returns
  have hta := tl_hta (atoms_spec (ws := tl_w yX12_isWeek cX12_isWeek 1 (some .boolean)) B.pre)
  have hown : s.vm.findClass RX12 = some m.cls := findClass_of_methodNamed B.named
  have hlocks := B.notSynchronized
  subst hsz
  have hD := hD0
  have hP : va_P D vwCl [] s.heap := hP
  have hl := lv_entry ([.int p0]) (n := 1) (Nat.le_of_ble_eq_true rfl)
  rw [lg_entry_eq]
  generalize (lg_sl ([.int p0]) ++ List.replicate (1 - (lg_sl ([.int p0])).length) Slot.unset).toArray = ls at hl ⊢
  have hl : lv_has ls 1 [(0, .int p0)] := hl
  refine lv_iload_n hx hb dX12_isWeek_0 rfl (lv_at hl 0 rfl) ?_
  refine lv_if_lt (tgt := 15) hx hb dX12_isWeek_1 (by decide) (fun c_1 => ?_) (fun c_1 => ?_)
  · have c_1 : p0.toInt < (0 : Int) := tl_lt c_1
    refine lv_iconst (v := 0) hx hb dX12_isWeek_15 (by decide) ?_
    exact W.zret (ty := .boolean) (v := 0) hx hb hr rfl (fun t ht hW => ⟨_, rfl, (Or.inr ⟨by omega, rfl⟩), ht⟩) (fun q h => by cases h) dX12_isWeek_16
  · have c_1 : (0 : Int) ≤ p0.toInt := tl_nlt c_1
    refine lv_iload_n hx hb dX12_isWeek_4 rfl (lv_at hl 0 rfl) ?_
    refine lv_sipush (v := 400) hx hb dX12_isWeek_5 (by decide) ?_
    refine lv_icmp_ge (tgt := 15) hx hb dX12_isWeek_8 (by decide) (fun c_2 => ?_) (fun c_2 => ?_)
    · have c_2 : (400 : Int) ≤ p0.toInt := tl_le c_2
      refine lv_iconst (v := 0) hx hb dX12_isWeek_15 (by decide) ?_
      exact W.zret (ty := .boolean) (v := 0) hx hb hr rfl (fun t ht hW => ⟨_, rfl, (Or.inr ⟨by omega, rfl⟩), ht⟩) (fun q h => by cases h) dX12_isWeek_16
    · have c_2 : p0.toInt < (400 : Int) := tl_nle c_2
      refine lv_iconst (v := 1) hx hb dX12_isWeek_11 (by decide) ?_
      refine lv_goto (tgt := 16) hx hb dX12_isWeek_12 (by decide) ?_
      exact W.zret (ty := .boolean) (v := 1) hx hb hr rfl (fun t ht hW => ⟨_, rfl, (Or.inl ⟨by omega, rfl⟩), ht⟩) (fun q h => by cases h) dX12_isWeek_16
set_option maxHeartbeats 4000000 in
set_option maxRecDepth 100000 in
theorem c_X12_isRow (l : Launch) (D : va_G) (cy : Nat → ClassId) (sz : Nat) (md : Nat) (p0 : Int32) (m0 : Nat) (m1 : Nat) (m3 : Nat) (m4 : Nat) (m5 : Nat) (m6 : Nat) (m7 : Nat) (m8 : Nat) (m9 : Nat) (m10 : Nat) (m11 : Nat) (m12 : Nat) (m13 : Nat) (m14 : Nat) (m15 : Nat) (m16 : Nat) (m24 : Nat) (m26 : Nat) (m28 : Nat) (m30 : Nat) (m31 : Nat) (m35 : Nat) (m36 : Nat) (m38 : Nat) (m41 : Nat) (m42 : Nat) (m43 : Nat) (m44 : Nat) (m45 : Nat) (m46 : Nat) (m47 : Nat) (m48 : Nat) (sd : Nat → Int32) (hsd : ∀ k : Nat, (k < 441 ∨ 7641 ≤ k) → sd k = 0) : Met l yX12_isRow (tl_w yX12_isRow cX12_isRow 2 (some .boolean)) ({ frames := 0, cells := 0, slots := 0, locals := 0 }) (va_Pc [.ref md, .int p0] (tl_P D cy [(md, .inr (12, [.ref m0, .ref m1, .int 0, .ref m3, .ref m4, .ref m5, .ref m6, .ref m7, .ref m8, .ref m9, .ref m10, .ref m11, .ref m12, .ref m13, .ref m14, .ref m15, .ref m16, .int 0, .int 0, .int 0, .int 0, .int 0, .int 0, .int 0, .ref m24, .int 0, .ref m26, .int 0, .ref m28, .long 0, .ref m30, .ref m31, .int 0, .int 0, .int 0, .ref m35, .ref m36, .int 0, .ref m38, .int 0, .int 0, .ref m41, .ref m42, .ref m43, .ref m44, .ref m45, .ref m46, .ref m47, .ref m48])), (m0, .inl (cy 0, 7666, .inl sd))] sz)) (vp_Si (fun r : Int32 => r = 0)) 0 0 (fun _ => False) := by
  refine Met.ofW (cc := cX12_isRow) (maxL := 2) (ret := (some .boolean)) (by decide) rfl ?_
  intro p e s m args below meth c s₁ B hml hv
  obtain ⟨rfl, hsz, hP, hK, hD0, hN⟩ := hv
  have hx := B.exec
  have hb := B.bytes
  have hr := B.returns
  have hta := tl_hta (atoms_spec (ws := tl_w yX12_isRow cX12_isRow 2 (some .boolean)) B.pre)
  have hown : s.vm.findClass RX12 = some m.cls := findClass_of_methodNamed B.named
  have hlocks := B.notSynchronized
  subst hsz
  have hD := hD0
  have hP : va_P D vwCl [(md, .inr (12, [.ref m0, .ref m1, .int 0, .ref m3, .ref m4, .ref m5, .ref m6, .ref m7, .ref m8, .ref m9, .ref m10, .ref m11, .ref m12, .ref m13, .ref m14, .ref m15, .ref m16, .int 0, .int 0, .int 0, .int 0, .int 0, .int 0, .int 0, .ref m24, .int 0, .ref m26, .int 0, .ref m28, .long 0, .ref m30, .ref m31, .int 0, .int 0, .int 0, .ref m35, .ref m36, .int 0, .ref m38, .int 0, .int 0, .ref m41, .ref m42, .ref m43, .ref m44, .ref m45, .ref m46, .ref m47, .ref m48])), (m0, .inl (cy 0, 7666, .inl sd))] s.heap := hP
  have hl := lv_entry ([.ref md, .int p0]) (n := 2) (Nat.le_of_ble_eq_true rfl)
  rw [lg_entry_eq]
  generalize (lg_sl ([.ref md, .int p0]) ++ List.replicate (2 - (lg_sl ([.ref md, .int p0])).length) Slot.unset).toArray = ls at hl ⊢
  have hl : lv_has ls 2 [(0, .ref md), (1, .int p0)] := hl
  refine lv_iload_n hx hb dX12_isRow_0 rfl (lv_at hl 1 rfl) ?_
  refine lv_if_lt (tgt := 18) hx hb dX12_isRow_1 (by decide) (fun c_1 => ?_) (fun c_1 => ?_)
  · have c_1 : p0.toInt < (0 : Int) := tl_lt c_1
    refine lv_iconst (v := 0) hx hb dX12_isRow_18 (by decide) ?_
    exact W.zret (ty := .boolean) (v := 0) hx hb hr rfl (fun t ht hW => ⟨_, rfl, rfl, ht⟩) (fun q h => by cases h) dX12_isRow_19
  · have c_1 : (0 : Int) ≤ p0.toInt := tl_nlt c_1
    refine lv_iload_n hx hb dX12_isRow_4 rfl (lv_at hl 1 rfl) ?_
    refine lv_aload_n hx hb dX12_isRow_5 rfl (lv_at hl 0 rfl) ?_
    refine va_get (D := D) (ci := 12) (v := .ref m0) (C := RX12) (T := TX12) (N := 49) hx hb hta inlX12 hown hK hP 0 rfl rfl 0 (by decide) (hta _ wk_149) (fun _ h9 => h9) rfl dX12_isRow_6 ?_
    refine lv_iconst (v := 1) hx hb dX12_isRow_9 (by decide) ?_
    refine va_iald (D := D) hx hb hK hP 1 0 rfl rfl (tl_in (by decide) (by decide)) dX12_isRow_10 ?_
    refine W.eq (g2 := F0 m 11 ls ([.int 0, .int p0])) (by rw [hsd _ (by decide)]) ?_
    refine lv_icmp_ge (tgt := 18) hx hb dX12_isRow_11 (by decide) (fun c_2 => ?_) (fun c_2 => ?_)
    · have c_2 : (0 : Int) ≤ p0.toInt := tl_le c_2
      refine lv_iconst (v := 0) hx hb dX12_isRow_18 (by decide) ?_
      exact W.zret (ty := .boolean) (v := 0) hx hb hr rfl (fun t ht hW => ⟨_, rfl, rfl, ht⟩) (fun q h => by cases h) dX12_isRow_19
    · have c_2 : p0.toInt < (0 : Int) := tl_nle c_2
      exfalso; omega
set_option maxHeartbeats 4000000 in
set_option maxRecDepth 100000 in
theorem c_X12_isText_0 (l : Launch) (D : va_G) (cy : Nat → ClassId) (sz : Nat) (md : Nat) (p0 : Int32) (m0 : Nat) (m1 : Nat) (m3 : Nat) (m4 : Nat) (m5 : Nat) (m6 : Nat) (m7 : Nat) (m8 : Nat) (m9 : Nat) (m10 : Nat) (m11 : Nat) (m12 : Nat) (m13 : Nat) (m14 : Nat) (m15 : Nat) (m16 : Nat) (m24 : Nat) (m26 : Nat) (m28 : Nat) (m30 : Nat) (m31 : Nat) (m35 : Nat) (m36 : Nat) (m38 : Nat) (m41 : Nat) (m42 : Nat) (m43 : Nat) (m44 : Nat) (m45 : Nat) (m46 : Nat) (m47 : Nat) (m48 : Nat)  : Met l yX12_isText (tl_w yX12_isText cX12_isText 3 (some .boolean)) ({ frames := 0, cells := 0, slots := 0, locals := 0 }) (va_Pc [.ref md, .int 0, .int p0] (tl_P D cy [(md, .inr (12, [.ref m0, .ref m1, .int 0, .ref m3, .ref m4, .ref m5, .ref m6, .ref m7, .ref m8, .ref m9, .ref m10, .ref m11, .ref m12, .ref m13, .ref m14, .ref m15, .ref m16, .int 0, .int 0, .int 0, .int 0, .int 0, .int 0, .int 0, .ref m24, .int 0, .ref m26, .int 0, .ref m28, .long 0, .ref m30, .ref m31, .int 0, .int 0, .int 0, .ref m35, .ref m36, .int 0, .ref m38, .int 0, .int 0, .ref m41, .ref m42, .ref m43, .ref m44, .ref m45, .ref m46, .ref m47, .ref m48])), (m3, .inl (cy 0, 3, .inl (fun _ => 0)))] sz)) (vp_Si (fun r : Int32 => r = 0)) 0 0 (fun _ => False) := by
  refine Met.ofW (cc := cX12_isText) (maxL := 3) (ret := (some .boolean)) (by decide) rfl ?_
  intro p e s m args below meth c s₁ B hml hv
  obtain ⟨rfl, hsz, hP, hK, hD0, hN⟩ := hv
  have hx := B.exec
  have hb := B.bytes
  have hr := B.returns
  have hta := tl_hta (atoms_spec (ws := tl_w yX12_isText cX12_isText 3 (some .boolean)) B.pre)
  have hown : s.vm.findClass RX12 = some m.cls := findClass_of_methodNamed B.named
  have hlocks := B.notSynchronized
  subst hsz
  have hD := hD0
  have hP : va_P D vwCl [(md, .inr (12, [.ref m0, .ref m1, .int 0, .ref m3, .ref m4, .ref m5, .ref m6, .ref m7, .ref m8, .ref m9, .ref m10, .ref m11, .ref m12, .ref m13, .ref m14, .ref m15, .ref m16, .int 0, .int 0, .int 0, .int 0, .int 0, .int 0, .int 0, .ref m24, .int 0, .ref m26, .int 0, .ref m28, .long 0, .ref m30, .ref m31, .int 0, .int 0, .int 0, .ref m35, .ref m36, .int 0, .ref m38, .int 0, .int 0, .ref m41, .ref m42, .ref m43, .ref m44, .ref m45, .ref m46, .ref m47, .ref m48])), (m3, .inl (cy 0, 3, .inl (fun _ => 0)))] s.heap := hP
  have hl := lv_entry ([.ref md, .int 0, .int p0]) (n := 3) (Nat.le_of_ble_eq_true rfl)
  rw [lg_entry_eq]
  generalize (lg_sl ([.ref md, .int 0, .int p0]) ++ List.replicate (3 - (lg_sl ([.ref md, .int 0, .int p0])).length) Slot.unset).toArray = ls at hl ⊢
  have hl : lv_has ls 3 [(0, .ref md), (1, .int 0), (2, .int p0)] := hl
  refine lv_iload_n hx hb dX12_isText_0 rfl (lv_at hl 2 rfl) ?_
  refine lv_if_lt (tgt := 18) hx hb dX12_isText_1 (by decide) (fun c_1 => ?_) (fun c_1 => ?_)
  · have c_1 : p0.toInt < (0 : Int) := tl_lt c_1
    refine lv_iconst (v := 0) hx hb dX12_isText_18 (by decide) ?_
    exact W.zret (ty := .boolean) (v := 0) hx hb hr rfl (fun t ht hW => ⟨_, rfl, rfl, ht⟩) (fun q h => by cases h) dX12_isText_19
  · have c_1 : (0 : Int) ≤ p0.toInt := tl_nlt c_1
    refine lv_iload_n hx hb dX12_isText_4 rfl (lv_at hl 2 rfl) ?_
    refine lv_aload_n hx hb dX12_isText_5 rfl (lv_at hl 0 rfl) ?_
    refine va_get (D := D) (ci := 12) (v := .ref m3) (C := RX12) (T := TX12) (N := 49) hx hb hta inlX12 hown hK hP 0 rfl rfl 3 (by decide) (hta _ wk_152) (fun _ h9 => h9) rfl dX12_isText_6 ?_
    refine lv_iload_n hx hb dX12_isText_9 rfl (lv_at hl 1 rfl) ?_
    refine va_iald (D := D) hx hb hK hP 1 0 rfl rfl (tl_in (by decide) (by decide)) dX12_isText_10 ?_
    refine W.eq (g2 := F0 m 11 ls ([.int 0, .int p0])) rfl ?_
    refine lv_icmp_ge (tgt := 18) hx hb dX12_isText_11 (by decide) (fun c_2 => ?_) (fun c_2 => ?_)
    · have c_2 : (0 : Int) ≤ p0.toInt := tl_le c_2
      refine lv_iconst (v := 0) hx hb dX12_isText_18 (by decide) ?_
      exact W.zret (ty := .boolean) (v := 0) hx hb hr rfl (fun t ht hW => ⟨_, rfl, rfl, ht⟩) (fun q h => by cases h) dX12_isText_19
    · have c_2 : p0.toInt < (0 : Int) := tl_nle c_2
      exfalso; omega
set_option maxHeartbeats 4000000 in
set_option maxRecDepth 100000 in
theorem c_X12_isText_1 (l : Launch) (D : va_G) (cy : Nat → ClassId) (sz : Nat) (md : Nat) (p0 : Int32) (m0 : Nat) (m1 : Nat) (m3 : Nat) (m4 : Nat) (m5 : Nat) (m6 : Nat) (m7 : Nat) (m8 : Nat) (m9 : Nat) (m10 : Nat) (m11 : Nat) (m12 : Nat) (m13 : Nat) (m14 : Nat) (m15 : Nat) (m16 : Nat) (m24 : Nat) (m26 : Nat) (m28 : Nat) (m30 : Nat) (m31 : Nat) (m35 : Nat) (m36 : Nat) (m38 : Nat) (m41 : Nat) (m42 : Nat) (m43 : Nat) (m44 : Nat) (m45 : Nat) (m46 : Nat) (m47 : Nat) (m48 : Nat)  : Met l yX12_isText (tl_w yX12_isText cX12_isText 3 (some .boolean)) ({ frames := 0, cells := 0, slots := 0, locals := 0 }) (va_Pc [.ref md, .int 1, .int p0] (tl_P D cy [(md, .inr (12, [.ref m0, .ref m1, .int 0, .ref m3, .ref m4, .ref m5, .ref m6, .ref m7, .ref m8, .ref m9, .ref m10, .ref m11, .ref m12, .ref m13, .ref m14, .ref m15, .ref m16, .int 0, .int 0, .int 0, .int 0, .int 0, .int 0, .int 0, .ref m24, .int 0, .ref m26, .int 0, .ref m28, .long 0, .ref m30, .ref m31, .int 0, .int 0, .int 0, .ref m35, .ref m36, .int 0, .ref m38, .int 0, .int 0, .ref m41, .ref m42, .ref m43, .ref m44, .ref m45, .ref m46, .ref m47, .ref m48])), (m3, .inl (cy 0, 3, .inl (fun _ => 0)))] sz)) (vp_Si (fun r : Int32 => r = 0)) 0 0 (fun _ => False) := by
  refine Met.ofW (cc := cX12_isText) (maxL := 3) (ret := (some .boolean)) (by decide) rfl ?_
  intro p e s m args below meth c s₁ B hml hv
  obtain ⟨rfl, hsz, hP, hK, hD0, hN⟩ := hv
  have hx := B.exec
  have hb := B.bytes
  have hr := B.returns
  have hta := tl_hta (atoms_spec (ws := tl_w yX12_isText cX12_isText 3 (some .boolean)) B.pre)
  have hown : s.vm.findClass RX12 = some m.cls := findClass_of_methodNamed B.named
  have hlocks := B.notSynchronized
  subst hsz
  have hD := hD0
  have hP : va_P D vwCl [(md, .inr (12, [.ref m0, .ref m1, .int 0, .ref m3, .ref m4, .ref m5, .ref m6, .ref m7, .ref m8, .ref m9, .ref m10, .ref m11, .ref m12, .ref m13, .ref m14, .ref m15, .ref m16, .int 0, .int 0, .int 0, .int 0, .int 0, .int 0, .int 0, .ref m24, .int 0, .ref m26, .int 0, .ref m28, .long 0, .ref m30, .ref m31, .int 0, .int 0, .int 0, .ref m35, .ref m36, .int 0, .ref m38, .int 0, .int 0, .ref m41, .ref m42, .ref m43, .ref m44, .ref m45, .ref m46, .ref m47, .ref m48])), (m3, .inl (cy 0, 3, .inl (fun _ => 0)))] s.heap := hP
  have hl := lv_entry ([.ref md, .int 1, .int p0]) (n := 3) (Nat.le_of_ble_eq_true rfl)
  rw [lg_entry_eq]
  generalize (lg_sl ([.ref md, .int 1, .int p0]) ++ List.replicate (3 - (lg_sl ([.ref md, .int 1, .int p0])).length) Slot.unset).toArray = ls at hl ⊢
  have hl : lv_has ls 3 [(0, .ref md), (1, .int 1), (2, .int p0)] := hl
  refine lv_iload_n hx hb dX12_isText_0 rfl (lv_at hl 2 rfl) ?_
  refine lv_if_lt (tgt := 18) hx hb dX12_isText_1 (by decide) (fun c_1 => ?_) (fun c_1 => ?_)
  · have c_1 : p0.toInt < (0 : Int) := tl_lt c_1
    refine lv_iconst (v := 0) hx hb dX12_isText_18 (by decide) ?_
    exact W.zret (ty := .boolean) (v := 0) hx hb hr rfl (fun t ht hW => ⟨_, rfl, rfl, ht⟩) (fun q h => by cases h) dX12_isText_19
  · have c_1 : (0 : Int) ≤ p0.toInt := tl_nlt c_1
    refine lv_iload_n hx hb dX12_isText_4 rfl (lv_at hl 2 rfl) ?_
    refine lv_aload_n hx hb dX12_isText_5 rfl (lv_at hl 0 rfl) ?_
    refine va_get (D := D) (ci := 12) (v := .ref m3) (C := RX12) (T := TX12) (N := 49) hx hb hta inlX12 hown hK hP 0 rfl rfl 3 (by decide) (hta _ wk_152) (fun _ h9 => h9) rfl dX12_isText_6 ?_
    refine lv_iload_n hx hb dX12_isText_9 rfl (lv_at hl 1 rfl) ?_
    refine va_iald (D := D) hx hb hK hP 1 0 rfl rfl (tl_in (by decide) (by decide)) dX12_isText_10 ?_
    refine W.eq (g2 := F0 m 11 ls ([.int 0, .int p0])) rfl ?_
    refine lv_icmp_ge (tgt := 18) hx hb dX12_isText_11 (by decide) (fun c_2 => ?_) (fun c_2 => ?_)
    · have c_2 : (0 : Int) ≤ p0.toInt := tl_le c_2
      refine lv_iconst (v := 0) hx hb dX12_isText_18 (by decide) ?_
      exact W.zret (ty := .boolean) (v := 0) hx hb hr rfl (fun t ht hW => ⟨_, rfl, rfl, ht⟩) (fun q h => by cases h) dX12_isText_19
    · have c_2 : p0.toInt < (0 : Int) := tl_nle c_2
      exfalso; omega
set_option maxHeartbeats 4000000 in
set_option maxRecDepth 100000 in
theorem c_X12_isText_2 (l : Launch) (D : va_G) (cy : Nat → ClassId) (sz : Nat) (md : Nat) (p0 : Int32) (m0 : Nat) (m1 : Nat) (m3 : Nat) (m4 : Nat) (m5 : Nat) (m6 : Nat) (m7 : Nat) (m8 : Nat) (m9 : Nat) (m10 : Nat) (m11 : Nat) (m12 : Nat) (m13 : Nat) (m14 : Nat) (m15 : Nat) (m16 : Nat) (m24 : Nat) (m26 : Nat) (m28 : Nat) (m30 : Nat) (m31 : Nat) (m35 : Nat) (m36 : Nat) (m38 : Nat) (m41 : Nat) (m42 : Nat) (m43 : Nat) (m44 : Nat) (m45 : Nat) (m46 : Nat) (m47 : Nat) (m48 : Nat)  : Met l yX12_isText (tl_w yX12_isText cX12_isText 3 (some .boolean)) ({ frames := 0, cells := 0, slots := 0, locals := 0 }) (va_Pc [.ref md, .int 2, .int p0] (tl_P D cy [(md, .inr (12, [.ref m0, .ref m1, .int 0, .ref m3, .ref m4, .ref m5, .ref m6, .ref m7, .ref m8, .ref m9, .ref m10, .ref m11, .ref m12, .ref m13, .ref m14, .ref m15, .ref m16, .int 0, .int 0, .int 0, .int 0, .int 0, .int 0, .int 0, .ref m24, .int 0, .ref m26, .int 0, .ref m28, .long 0, .ref m30, .ref m31, .int 0, .int 0, .int 0, .ref m35, .ref m36, .int 0, .ref m38, .int 0, .int 0, .ref m41, .ref m42, .ref m43, .ref m44, .ref m45, .ref m46, .ref m47, .ref m48])), (m3, .inl (cy 0, 3, .inl (fun _ => 0)))] sz)) (vp_Si (fun r : Int32 => r = 0)) 0 0 (fun _ => False) := by
  refine Met.ofW (cc := cX12_isText) (maxL := 3) (ret := (some .boolean)) (by decide) rfl ?_
  intro p e s m args below meth c s₁ B hml hv
  obtain ⟨rfl, hsz, hP, hK, hD0, hN⟩ := hv
  have hx := B.exec
  have hb := B.bytes
  have hr := B.returns
  have hta := tl_hta (atoms_spec (ws := tl_w yX12_isText cX12_isText 3 (some .boolean)) B.pre)
  have hown : s.vm.findClass RX12 = some m.cls := findClass_of_methodNamed B.named
  have hlocks := B.notSynchronized
  subst hsz
  have hD := hD0
  have hP : va_P D vwCl [(md, .inr (12, [.ref m0, .ref m1, .int 0, .ref m3, .ref m4, .ref m5, .ref m6, .ref m7, .ref m8, .ref m9, .ref m10, .ref m11, .ref m12, .ref m13, .ref m14, .ref m15, .ref m16, .int 0, .int 0, .int 0, .int 0, .int 0, .int 0, .int 0, .ref m24, .int 0, .ref m26, .int 0, .ref m28, .long 0, .ref m30, .ref m31, .int 0, .int 0, .int 0, .ref m35, .ref m36, .int 0, .ref m38, .int 0, .int 0, .ref m41, .ref m42, .ref m43, .ref m44, .ref m45, .ref m46, .ref m47, .ref m48])), (m3, .inl (cy 0, 3, .inl (fun _ => 0)))] s.heap := hP
  have hl := lv_entry ([.ref md, .int 2, .int p0]) (n := 3) (Nat.le_of_ble_eq_true rfl)
  rw [lg_entry_eq]
  generalize (lg_sl ([.ref md, .int 2, .int p0]) ++ List.replicate (3 - (lg_sl ([.ref md, .int 2, .int p0])).length) Slot.unset).toArray = ls at hl ⊢
  have hl : lv_has ls 3 [(0, .ref md), (1, .int 2), (2, .int p0)] := hl
  refine lv_iload_n hx hb dX12_isText_0 rfl (lv_at hl 2 rfl) ?_
  refine lv_if_lt (tgt := 18) hx hb dX12_isText_1 (by decide) (fun c_1 => ?_) (fun c_1 => ?_)
  · have c_1 : p0.toInt < (0 : Int) := tl_lt c_1
    refine lv_iconst (v := 0) hx hb dX12_isText_18 (by decide) ?_
    exact W.zret (ty := .boolean) (v := 0) hx hb hr rfl (fun t ht hW => ⟨_, rfl, rfl, ht⟩) (fun q h => by cases h) dX12_isText_19
  · have c_1 : (0 : Int) ≤ p0.toInt := tl_nlt c_1
    refine lv_iload_n hx hb dX12_isText_4 rfl (lv_at hl 2 rfl) ?_
    refine lv_aload_n hx hb dX12_isText_5 rfl (lv_at hl 0 rfl) ?_
    refine va_get (D := D) (ci := 12) (v := .ref m3) (C := RX12) (T := TX12) (N := 49) hx hb hta inlX12 hown hK hP 0 rfl rfl 3 (by decide) (hta _ wk_152) (fun _ h9 => h9) rfl dX12_isText_6 ?_
    refine lv_iload_n hx hb dX12_isText_9 rfl (lv_at hl 1 rfl) ?_
    refine va_iald (D := D) hx hb hK hP 1 0 rfl rfl (tl_in (by decide) (by decide)) dX12_isText_10 ?_
    refine W.eq (g2 := F0 m 11 ls ([.int 0, .int p0])) rfl ?_
    refine lv_icmp_ge (tgt := 18) hx hb dX12_isText_11 (by decide) (fun c_2 => ?_) (fun c_2 => ?_)
    · have c_2 : (0 : Int) ≤ p0.toInt := tl_le c_2
      refine lv_iconst (v := 0) hx hb dX12_isText_18 (by decide) ?_
      exact W.zret (ty := .boolean) (v := 0) hx hb hr rfl (fun t ht hW => ⟨_, rfl, rfl, ht⟩) (fun q h => by cases h) dX12_isText_19
    · have c_2 : p0.toInt < (0 : Int) := tl_nle c_2
      exfalso; omega
set_option maxHeartbeats 4000000 in
set_option maxRecDepth 100000 in
theorem c_X12_canAsk (l : Launch) (D : va_G) (cy : Nat → ClassId) (sz : Nat) (md : Nat) (p0 : Int32) (p1 : Int32) (m0 : Nat) (m1 : Nat) (m3 : Nat) (m4 : Nat) (m5 : Nat) (m6 : Nat) (m7 : Nat) (m8 : Nat) (m9 : Nat) (m10 : Nat) (m11 : Nat) (m12 : Nat) (m13 : Nat) (m14 : Nat) (m15 : Nat) (m16 : Nat) (m24 : Nat) (m26 : Nat) (m28 : Nat) (m30 : Nat) (m31 : Nat) (m35 : Nat) (m36 : Nat) (m38 : Nat) (m41 : Nat) (m42 : Nat) (m43 : Nat) (m44 : Nat) (m45 : Nat) (m46 : Nat) (m47 : Nat) (m48 : Nat) (sd : Nat → Int32) (hsd : ∀ k : Nat, (k < 441 ∨ 7641 ≤ k) → sd k = 0) : Met l yX12_canAsk (tl_w yX12_canAsk cX12_canAsk 3 (some .boolean)) ({ frames := 1, cells := 0, slots := 0, locals := 22 }) (va_Pc [.ref md, .int p0, .int p1] (tl_P D cy [(md, .inr (12, [.ref m0, .ref m1, .int 0, .ref m3, .ref m4, .ref m5, .ref m6, .ref m7, .ref m8, .ref m9, .ref m10, .ref m11, .ref m12, .ref m13, .ref m14, .ref m15, .ref m16, .int 0, .int 0, .int 0, .int 0, .int 0, .int 0, .int 0, .ref m24, .int 0, .ref m26, .int 0, .ref m28, .long 0, .ref m30, .ref m31, .int 0, .int 0, .int 0, .ref m35, .ref m36, .int 0, .ref m38, .int 0, .int 0, .ref m41, .ref m42, .ref m43, .ref m44, .ref m45, .ref m46, .ref m47, .ref m48])), (m0, .inl (cy 0, 7666, .inl sd)), (m3, .inl (cy 0, 3, .inl (fun _ => 0)))] sz)) (vp_Si (fun r : Int32 => r = 0)) 0 0 (fun _ => False) := by
  refine Met.ofW (cc := cX12_canAsk) (maxL := 3) (ret := (some .boolean)) (by decide) rfl ?_
  intro p e s m args below meth c s₁ B hml hv
  obtain ⟨rfl, hsz, hP, hK, hD0, hN⟩ := hv
  have hx := B.exec
  have hb := B.bytes
  have hr := B.returns
  have hta := tl_hta (atoms_spec (ws := tl_w yX12_canAsk cX12_canAsk 3 (some .boolean)) B.pre)
  have hown : s.vm.findClass RX12 = some m.cls := findClass_of_methodNamed B.named
  have hlocks := B.notSynchronized
  subst hsz
  have hD := hD0
  have hP : va_P D vwCl [(md, .inr (12, [.ref m0, .ref m1, .int 0, .ref m3, .ref m4, .ref m5, .ref m6, .ref m7, .ref m8, .ref m9, .ref m10, .ref m11, .ref m12, .ref m13, .ref m14, .ref m15, .ref m16, .int 0, .int 0, .int 0, .int 0, .int 0, .int 0, .int 0, .ref m24, .int 0, .ref m26, .int 0, .ref m28, .long 0, .ref m30, .ref m31, .int 0, .int 0, .int 0, .ref m35, .ref m36, .int 0, .ref m38, .int 0, .int 0, .ref m41, .ref m42, .ref m43, .ref m44, .ref m45, .ref m46, .ref m47, .ref m48])), (m0, .inl (cy 0, 7666, .inl sd)), (m3, .inl (cy 0, 3, .inl (fun _ => 0)))] s.heap := hP
  have hl := lv_entry ([.ref md, .int p0, .int p1]) (n := 3) (Nat.le_of_ble_eq_true rfl)
  rw [lg_entry_eq]
  generalize (lg_sl ([.ref md, .int p0, .int p1]) ++ List.replicate (3 - (lg_sl ([.ref md, .int p0, .int p1])).length) Slot.unset).toArray = ls at hl ⊢
  have hl : lv_has ls 3 [(0, .ref md), (1, .int p0), (2, .int p1)] := hl
  refine lv_aload_n hx hb dX12_canAsk_0 rfl (lv_at hl 0 rfl) ?_
  refine lv_iconst (v := 1) hx hb dX12_canAsk_1 (by decide) ?_
  refine lv_iload_n hx hb dX12_canAsk_2 rfl (lv_at hl 1 rfl) ?_
  have hPc := hP.sub (ws' := [(md, .inr (12, [.ref m0, .ref m1, .int 0, .ref m3, .ref m4, .ref m5, .ref m6, .ref m7, .ref m8, .ref m9, .ref m10, .ref m11, .ref m12, .ref m13, .ref m14, .ref m15, .ref m16, .int 0, .int 0, .int 0, .int 0, .int 0, .int 0, .int 0, .ref m24, .int 0, .ref m26, .int 0, .ref m28, .long 0, .ref m30, .ref m31, .int 0, .int 0, .int 0, .ref m35, .ref m36, .int 0, .ref m38, .int 0, .int 0, .ref m41, .ref m42, .ref m43, .ref m44, .ref m45, .ref m46, .ref m47, .ref m48])), (m3, .inl (cy 0, 3, .inl (fun _ => 0)))]) [0, 2] rfl
  have hDc := hD.sub (ws' := [(md, .inr (12, [.ref m0, .ref m1, .int 0, .ref m3, .ref m4, .ref m5, .ref m6, .ref m7, .ref m8, .ref m9, .ref m10, .ref m11, .ref m12, .ref m13, .ref m14, .ref m15, .ref m16, .int 0, .int 0, .int 0, .int 0, .int 0, .int 0, .int 0, .ref m24, .int 0, .ref m26, .int 0, .ref m28, .long 0, .ref m30, .ref m31, .int 0, .int 0, .int 0, .ref m35, .ref m36, .int 0, .ref m38, .int 0, .int 0, .ref m41, .ref m42, .ref m43, .ref m44, .ref m45, .ref m46, .ref m47, .ref m48])), (m3, .inl (cy 0, 3, .inl (fun _ => 0)))]) [0, 2] (by decide) rfl
  refine tl_si (tl_rV (As := [.int 1, .int p0]) (rest := []) ⟨hx, hb, hml, hown, hta⟩ hK hN hPc hDc (ci := 12) rfl 0 rfl lk_X12_382 (c_X12_isText_1 l D cy s.heap.size md p0 m0 m1 m3 m4 m5 m6 m7 m8 m9 m10 m11 m12 m13 m14 m15 m16 m24 m26 m28 m30 m31 m35 m36 m38 m41 m42 m43 m44 m45 m46 m47 m48 ) rfl rfl ⟨Nat.le_of_ble_eq_true rfl, Nat.le_of_ble_eq_true rfl⟩ rfl hl.1 rfl (Nat.le_of_ble_eq_true rfl) dX12_canAsk_3 ⟨Nat.le_of_ble_eq_true rfl, Nat.le_of_ble_eq_true rfl⟩) (fun r_2 hw_1 => ?_)
  subst hw_1
  refine lv_if_eq (tgt := 21) hx hb dX12_canAsk_6 (by decide) (fun _ => ?_) (fun c => absurd c (by decide))
  refine lv_iconst (v := 0) hx hb dX12_canAsk_21 (by decide) ?_
  exact W.zret (ty := .boolean) (v := 0) hx hb hr rfl (fun t ht hW => ⟨_, rfl, rfl, ht⟩) (fun q h => by cases h) dX12_canAsk_22
set_option maxHeartbeats 4000000 in
set_option maxRecDepth 100000 in
theorem c_X12_raw (l : Launch) (D : va_G) (cy : Nat → ClassId) (sz : Nat) (md : Nat) (p0 : Int32) (p1 : Int32) (p2 : Int32) (m0 : Nat) (m1 : Nat) (m3 : Nat) (m4 : Nat) (m5 : Nat) (m6 : Nat) (m7 : Nat) (m8 : Nat) (m9 : Nat) (m10 : Nat) (m11 : Nat) (m12 : Nat) (m13 : Nat) (m14 : Nat) (m15 : Nat) (m16 : Nat) (m24 : Nat) (m26 : Nat) (m28 : Nat) (m30 : Nat) (m31 : Nat) (m35 : Nat) (m36 : Nat) (m38 : Nat) (m41 : Nat) (m42 : Nat) (m43 : Nat) (m44 : Nat) (m45 : Nat) (m46 : Nat) (m47 : Nat) (m48 : Nat) (sd : Nat → Int32) (hsd : ∀ k : Nat, (k < 441 ∨ 7641 ≤ k) → sd k = 0) : Met l yX12_raw (tl_w yX12_raw cX12_raw 5 (some .int)) ({ frames := 1, cells := 0, slots := 0, locals := 21 }) (va_Pc [.ref md, .int p0, .int p1, .int p2] (tl_P D cy [(md, .inr (12, [.ref m0, .ref m1, .int 0, .ref m3, .ref m4, .ref m5, .ref m6, .ref m7, .ref m8, .ref m9, .ref m10, .ref m11, .ref m12, .ref m13, .ref m14, .ref m15, .ref m16, .int 0, .int 0, .int 0, .int 0, .int 0, .int 0, .int 0, .ref m24, .int 0, .ref m26, .int 0, .ref m28, .long 0, .ref m30, .ref m31, .int 0, .int 0, .int 0, .ref m35, .ref m36, .int 0, .ref m38, .int 0, .int 0, .ref m41, .ref m42, .ref m43, .ref m44, .ref m45, .ref m46, .ref m47, .ref m48])), (m0, .inl (cy 0, 7666, .inl sd))] sz)) (vp_Si (fun r : Int32 => r = (-2000000))) 0 0 (fun _ => False) := by
  refine Met.ofW (cc := cX12_raw) (maxL := 5) (ret := (some .int)) (by decide) rfl ?_
  intro p e s m args below meth c s₁ B hml hv
  obtain ⟨rfl, hsz, hP, hK, hD0, hN⟩ := hv
  have hx := B.exec
  have hb := B.bytes
  have hr := B.returns
  have hta := tl_hta (atoms_spec (ws := tl_w yX12_raw cX12_raw 5 (some .int)) B.pre)
  have hown : s.vm.findClass RX12 = some m.cls := findClass_of_methodNamed B.named
  have hlocks := B.notSynchronized
  subst hsz
  have hD := hD0
  have hP : va_P D vwCl [(md, .inr (12, [.ref m0, .ref m1, .int 0, .ref m3, .ref m4, .ref m5, .ref m6, .ref m7, .ref m8, .ref m9, .ref m10, .ref m11, .ref m12, .ref m13, .ref m14, .ref m15, .ref m16, .int 0, .int 0, .int 0, .int 0, .int 0, .int 0, .int 0, .ref m24, .int 0, .ref m26, .int 0, .ref m28, .long 0, .ref m30, .ref m31, .int 0, .int 0, .int 0, .ref m35, .ref m36, .int 0, .ref m38, .int 0, .int 0, .ref m41, .ref m42, .ref m43, .ref m44, .ref m45, .ref m46, .ref m47, .ref m48])), (m0, .inl (cy 0, 7666, .inl sd))] s.heap := hP
  have hl := lv_entry ([.ref md, .int p0, .int p1, .int p2]) (n := 5) (Nat.le_of_ble_eq_true rfl)
  rw [lg_entry_eq]
  generalize (lg_sl ([.ref md, .int p0, .int p1, .int p2]) ++ List.replicate (5 - (lg_sl ([.ref md, .int p0, .int p1, .int p2])).length) Slot.unset).toArray = ls at hl ⊢
  have hl : lv_has ls 5 [(0, .ref md), (1, .int p0), (2, .int p1), (3, .int p2)] := hl
  refine lv_aload_n hx hb dX12_raw_0 rfl (lv_at hl 0 rfl) ?_
  refine lv_iload_n hx hb dX12_raw_1 rfl (lv_at hl 1 rfl) ?_
  refine tl_si (tl_rV (As := [.int p0]) (rest := []) ⟨hx, hb, hml, hown, hta⟩ hK hN hP hD (ci := 12) rfl 0 rfl lk_X12_120 (c_X12_isRow l D cy s.heap.size md p0 m0 m1 m3 m4 m5 m6 m7 m8 m9 m10 m11 m12 m13 m14 m15 m16 m24 m26 m28 m30 m31 m35 m36 m38 m41 m42 m43 m44 m45 m46 m47 m48 sd hsd) rfl rfl ⟨Nat.le_of_ble_eq_true rfl, Nat.le_of_ble_eq_true rfl⟩ rfl hl.1 rfl (Nat.le_of_ble_eq_true rfl) dX12_raw_2 ⟨Nat.le_of_ble_eq_true rfl, Nat.le_of_ble_eq_true rfl⟩) (fun r_2 hw_1 => ?_)
  subst hw_1
  refine lv_if_eq (tgt := 35) hx hb dX12_raw_5 (by decide) (fun _ => ?_) (fun c => absurd c (by decide))
  refine lv_ldc (v := (-2000000)) hx hb hown (hta _ wk_248) dX12_raw_35 ?_
  exact W.iret (v := (-2000000)) hx hb hr (fun t ht hW => ⟨_, rfl, rfl, ht⟩) (fun q h => by cases h) dX12_raw_37
set_option maxHeartbeats 4000000 in
set_option maxRecDepth 100000 in
theorem c_X12_read (l : Launch) (D : va_G) (cy : Nat → ClassId) (sz : Nat) (md : Nat) (p0 : Int32) (p1 : Int32) (m0 : Nat) (m1 : Nat) (m3 : Nat) (m4 : Nat) (m5 : Nat) (m6 : Nat) (m7 : Nat) (m8 : Nat) (m9 : Nat) (m10 : Nat) (m11 : Nat) (m12 : Nat) (m13 : Nat) (m14 : Nat) (m15 : Nat) (m16 : Nat) (m24 : Nat) (m26 : Nat) (m28 : Nat) (m30 : Nat) (m31 : Nat) (m35 : Nat) (m36 : Nat) (m38 : Nat) (m41 : Nat) (m42 : Nat) (m43 : Nat) (m44 : Nat) (m45 : Nat) (m46 : Nat) (m47 : Nat) (m48 : Nat) (sd : Nat → Int32) (hsd : ∀ k : Nat, (k < 441 ∨ 7641 ≤ k) → sd k = 0) : Met l yX12_read (tl_w yX12_read cX12_read 3 (some .int)) ({ frames := 1, cells := 0, slots := 0, locals := 21 }) (va_Pc [.ref md, .int p0, .int p1] (tl_P D cy [(md, .inr (12, [.ref m0, .ref m1, .int 0, .ref m3, .ref m4, .ref m5, .ref m6, .ref m7, .ref m8, .ref m9, .ref m10, .ref m11, .ref m12, .ref m13, .ref m14, .ref m15, .ref m16, .int 0, .int 0, .int 0, .int 0, .int 0, .int 0, .int 0, .ref m24, .int 0, .ref m26, .int 0, .ref m28, .long 0, .ref m30, .ref m31, .int 0, .int 0, .int 0, .ref m35, .ref m36, .int 0, .ref m38, .int 0, .int 0, .ref m41, .ref m42, .ref m43, .ref m44, .ref m45, .ref m46, .ref m47, .ref m48])), (m0, .inl (cy 0, 7666, .inl sd))] sz)) (vp_Si (fun r : Int32 => r = (-2000000))) 0 0 (fun _ => False) := by
  refine Met.ofW (cc := cX12_read) (maxL := 3) (ret := (some .int)) (by decide) rfl ?_
  intro p e s m args below meth c s₁ B hml hv
  obtain ⟨rfl, hsz, hP, hK, hD0, hN⟩ := hv
  have hx := B.exec
  have hb := B.bytes
  have hr := B.returns
  have hta := tl_hta (atoms_spec (ws := tl_w yX12_read cX12_read 3 (some .int)) B.pre)
  have hown : s.vm.findClass RX12 = some m.cls := findClass_of_methodNamed B.named
  have hlocks := B.notSynchronized
  subst hsz
  have hD := hD0
  have hP : va_P D vwCl [(md, .inr (12, [.ref m0, .ref m1, .int 0, .ref m3, .ref m4, .ref m5, .ref m6, .ref m7, .ref m8, .ref m9, .ref m10, .ref m11, .ref m12, .ref m13, .ref m14, .ref m15, .ref m16, .int 0, .int 0, .int 0, .int 0, .int 0, .int 0, .int 0, .ref m24, .int 0, .ref m26, .int 0, .ref m28, .long 0, .ref m30, .ref m31, .int 0, .int 0, .int 0, .ref m35, .ref m36, .int 0, .ref m38, .int 0, .int 0, .ref m41, .ref m42, .ref m43, .ref m44, .ref m45, .ref m46, .ref m47, .ref m48])), (m0, .inl (cy 0, 7666, .inl sd))] s.heap := hP
  have hl := lv_entry ([.ref md, .int p0, .int p1]) (n := 3) (Nat.le_of_ble_eq_true rfl)
  rw [lg_entry_eq]
  generalize (lg_sl ([.ref md, .int p0, .int p1]) ++ List.replicate (3 - (lg_sl ([.ref md, .int p0, .int p1])).length) Slot.unset).toArray = ls at hl ⊢
  have hl : lv_has ls 3 [(0, .ref md), (1, .int p0), (2, .int p1)] := hl
  refine lv_aload_n hx hb dX12_read_0 rfl (lv_at hl 0 rfl) ?_
  refine lv_iload_n hx hb dX12_read_1 rfl (lv_at hl 1 rfl) ?_
  refine tl_si (tl_rV (As := [.int p0]) (rest := []) ⟨hx, hb, hml, hown, hta⟩ hK hN hP hD (ci := 12) rfl 0 rfl lk_X12_120 (c_X12_isRow l D cy s.heap.size md p0 m0 m1 m3 m4 m5 m6 m7 m8 m9 m10 m11 m12 m13 m14 m15 m16 m24 m26 m28 m30 m31 m35 m36 m38 m41 m42 m43 m44 m45 m46 m47 m48 sd hsd) rfl rfl ⟨Nat.le_of_ble_eq_true rfl, Nat.le_of_ble_eq_true rfl⟩ rfl hl.1 rfl (Nat.le_of_ble_eq_true rfl) dX12_read_2 ⟨Nat.le_of_ble_eq_true rfl, Nat.le_of_ble_eq_true rfl⟩) (fun r_2 hw_1 => ?_)
  subst hw_1
  refine lv_if_eq (tgt := 24) hx hb dX12_read_5 (by decide) (fun _ => ?_) (fun c => absurd c (by decide))
  refine lv_ldc (v := (-2000000)) hx hb hown (hta _ wk_248) dX12_read_24 ?_
  exact W.iret (v := (-2000000)) hx hb hr (fun t ht hW => ⟨_, rfl, rfl, ht⟩) (fun q h => by cases h) dX12_read_26
set_option maxHeartbeats 4000000 in
set_option maxRecDepth 100000 in
theorem c_X12_anew (l : Launch) (D : va_G) (cy : Nat → ClassId) (sz : Nat) (md : Nat) (p0 : Int32) (p1 : Int32) (m0 : Nat) (m1 : Nat) (m3 : Nat) (m4 : Nat) (m5 : Nat) (m6 : Nat) (m7 : Nat) (m8 : Nat) (m9 : Nat) (m10 : Nat) (m11 : Nat) (m12 : Nat) (m13 : Nat) (m14 : Nat) (m15 : Nat) (m16 : Nat) (m24 : Nat) (m26 : Nat) (m28 : Nat) (m30 : Nat) (m31 : Nat) (m35 : Nat) (m36 : Nat) (m38 : Nat) (m41 : Nat) (m42 : Nat) (m43 : Nat) (m44 : Nat) (m45 : Nat) (m46 : Nat) (m47 : Nat) (m48 : Nat) (sd : Nat → Int32) (hsd : ∀ k : Nat, (k < 441 ∨ 7641 ≤ k) → sd k = 0) : Met l yX12_anew (tl_w yX12_anew cX12_anew 4 (some .int)) ({ frames := 1, cells := 0, slots := 0, locals := 25 }) (va_Pc [.ref md, .int p0, .int p1] (tl_P D cy [(md, .inr (12, [.ref m0, .ref m1, .int 0, .ref m3, .ref m4, .ref m5, .ref m6, .ref m7, .ref m8, .ref m9, .ref m10, .ref m11, .ref m12, .ref m13, .ref m14, .ref m15, .ref m16, .int 0, .int 0, .int 0, .int 0, .int 0, .int 0, .int 0, .ref m24, .int 0, .ref m26, .int 0, .ref m28, .long 0, .ref m30, .ref m31, .int 0, .int 0, .int 0, .ref m35, .ref m36, .int 0, .ref m38, .int 0, .int 0, .ref m41, .ref m42, .ref m43, .ref m44, .ref m45, .ref m46, .ref m47, .ref m48])), (m0, .inl (cy 0, 7666, .inl sd))] sz)) (vp_Si (fun r : Int32 => r = (-2000000))) 0 0 (fun _ => False) := by
  refine Met.ofW (cc := cX12_anew) (maxL := 4) (ret := (some .int)) (by decide) rfl ?_
  intro p e s m args below meth c s₁ B hml hv
  obtain ⟨rfl, hsz, hP, hK, hD0, hN⟩ := hv
  have hx := B.exec
  have hb := B.bytes
  have hr := B.returns
  have hta := tl_hta (atoms_spec (ws := tl_w yX12_anew cX12_anew 4 (some .int)) B.pre)
  have hown : s.vm.findClass RX12 = some m.cls := findClass_of_methodNamed B.named
  have hlocks := B.notSynchronized
  subst hsz
  have hD := hD0
  have hP : va_P D vwCl [(md, .inr (12, [.ref m0, .ref m1, .int 0, .ref m3, .ref m4, .ref m5, .ref m6, .ref m7, .ref m8, .ref m9, .ref m10, .ref m11, .ref m12, .ref m13, .ref m14, .ref m15, .ref m16, .int 0, .int 0, .int 0, .int 0, .int 0, .int 0, .int 0, .ref m24, .int 0, .ref m26, .int 0, .ref m28, .long 0, .ref m30, .ref m31, .int 0, .int 0, .int 0, .ref m35, .ref m36, .int 0, .ref m38, .int 0, .int 0, .ref m41, .ref m42, .ref m43, .ref m44, .ref m45, .ref m46, .ref m47, .ref m48])), (m0, .inl (cy 0, 7666, .inl sd))] s.heap := hP
  have hl := lv_entry ([.ref md, .int p0, .int p1]) (n := 4) (Nat.le_of_ble_eq_true rfl)
  rw [lg_entry_eq]
  generalize (lg_sl ([.ref md, .int p0, .int p1]) ++ List.replicate (4 - (lg_sl ([.ref md, .int p0, .int p1])).length) Slot.unset).toArray = ls at hl ⊢
  have hl : lv_has ls 4 [(0, .ref md), (1, .int p0), (2, .int p1)] := hl
  refine lv_iload_n hx hb dX12_anew_0 rfl (lv_at hl 1 rfl) ?_
  refine lv_i2l (v := p0.toInt64) hx hb dX12_anew_1 (by first | rfl | decide) ?_
  refine lv_lconst (v := 0) hx hb dX12_anew_2 (by decide) ?_
  refine lv_aload_n hx hb dX12_anew_3 rfl (lv_at hl 0 rfl) ?_
  refine va_get (D := D) (ci := 12) (v := .ref m0) (C := RX12) (T := TX12) (N := 49) hx hb hta inlX12 hown hK hP 0 rfl rfl 0 (by decide) (hta _ wk_149) (fun _ h9 => h9) rfl dX12_anew_4 ?_
  refine lv_iconst (v := 2) hx hb dX12_anew_7 (by decide) ?_
  refine va_iald (D := D) hx hb hK hP 1 0 rfl rfl (tl_in (by decide) (by decide)) dX12_anew_8 ?_
  refine W.eq (g2 := F0 m 9 ls ([.int 0, .long 0, .long p0.toInt64])) (by rw [hsd _ (by decide)]) ?_
  refine lv_iconst (v := 1) hx hb dX12_anew_9 (by decide) ?_
  refine lv_isub hx hb dX12_anew_10 ?_
  refine lv_topi (fun z_1 ez_1 => ?_)
  obtain rfl : z_1 = ((-1) : Int32) := ez_1.trans (by decide)
  refine lv_i2l (v := (-1)) hx hb dX12_anew_11 (by first | rfl | decide) ?_
  have hPc := hP.sub (ws' := []) [] rfl
  have hDc := hD.sub (ws' := []) [] (by decide) rfl
  refine tl_si (tl_rS (As := [.long p0.toInt64, .long 0, .long (-1)]) (rest := []) ⟨hx, hb, hml, hown, hta⟩ hK hN hPc hDc lk_X12_112 (c_X12_in l D cy s.heap.size p0.toInt64 0 (-1) ) rfl rfl ⟨Nat.le_of_ble_eq_true rfl, Nat.le_of_ble_eq_true rfl⟩ rfl hl.1 rfl (Nat.le_of_ble_eq_true rfl) dX12_anew_12 ⟨Nat.le_of_ble_eq_true rfl, Nat.le_of_ble_eq_true rfl⟩) (fun r_3 hw_2 => ?_)
  simp only [Int32.toInt_toInt64] at hw_2
  have hw_2 : tl_E r_3 ((0 : Int) ≤ p0.toInt ∧ p0.toInt ≤ (-1 : Int)) 1 0 := hw_2
  refine lv_if_eq (tgt := 32) hx hb dX12_anew_15 (by decide) (fun c_4 => ?_) (fun c_4 => ?_)
  · have c_4 := hw_2.f c_4
    refine lv_ldc (v := (-2000000)) hx hb hown (hta _ wk_248) dX12_anew_32 ?_
    exact W.iret (v := (-2000000)) hx hb hr (fun t ht hW => ⟨_, rfl, rfl, ht⟩) (fun q h => by cases h) dX12_anew_34
  · have c_4 := hw_2.t c_4
    exfalso; omega
set_option maxHeartbeats 4000000 in
set_option maxRecDepth 100000 in
theorem c_X12_make (l : Launch) (D : va_G) (cy : Nat → ClassId) (sz : Nat) (md : Nat) (p0 : Int32) (p1 : Int32) (p2 : Int32) (p3 : Int32) (p4 : Int32) (m0 : Nat) (m1 : Nat) (m3 : Nat) (m4 : Nat) (m5 : Nat) (m6 : Nat) (m7 : Nat) (m8 : Nat) (m9 : Nat) (m10 : Nat) (m11 : Nat) (m12 : Nat) (m13 : Nat) (m14 : Nat) (m15 : Nat) (m16 : Nat) (m24 : Nat) (m26 : Nat) (m28 : Nat) (m30 : Nat) (m31 : Nat) (m35 : Nat) (m36 : Nat) (m38 : Nat) (m41 : Nat) (m42 : Nat) (m43 : Nat) (m44 : Nat) (m45 : Nat) (m46 : Nat) (m47 : Nat) (m48 : Nat) (sd : Nat → Int32) (hsd : ∀ k : Nat, (k < 441 ∨ 7641 ≤ k) → sd k = 0) : Met l yX12_make (tl_w yX12_make cX12_make 7 (some .int)) ({ frames := 1, cells := 0, slots := 0, locals := 22 }) (va_Pc [.ref md, .int p0, .int p1, .int p2, .int p3, .int p4] (tl_P D cy [(md, .inr (12, [.ref m0, .ref m1, .int 0, .ref m3, .ref m4, .ref m5, .ref m6, .ref m7, .ref m8, .ref m9, .ref m10, .ref m11, .ref m12, .ref m13, .ref m14, .ref m15, .ref m16, .int 0, .int 0, .int 0, .int 0, .int 0, .int 0, .int 0, .ref m24, .int 0, .ref m26, .int 0, .ref m28, .long 0, .ref m30, .ref m31, .int 0, .int 0, .int 0, .ref m35, .ref m36, .int 0, .ref m38, .int 0, .int 0, .ref m41, .ref m42, .ref m43, .ref m44, .ref m45, .ref m46, .ref m47, .ref m48])), (m0, .inl (cy 0, 7666, .inl sd)), (m3, .inl (cy 0, 3, .inl (fun _ => 0)))] sz)) (vp_Si (fun r : Int32 => r = (-1))) 0 0 (fun _ => False) := by
  refine Met.ofW (cc := cX12_make) (maxL := 7) (ret := (some .int)) (by decide) rfl ?_
  intro p e s m args below meth c s₁ B hml hv
  obtain ⟨rfl, hsz, hP, hK, hD0, hN⟩ := hv
  have hx := B.exec
  have hb := B.bytes
  have hr := B.returns
  have hta := tl_hta (atoms_spec (ws := tl_w yX12_make cX12_make 7 (some .int)) B.pre)
  have hown : s.vm.findClass RX12 = some m.cls := findClass_of_methodNamed B.named
  have hlocks := B.notSynchronized
  subst hsz
  have hD := hD0
  have hP : va_P D vwCl [(md, .inr (12, [.ref m0, .ref m1, .int 0, .ref m3, .ref m4, .ref m5, .ref m6, .ref m7, .ref m8, .ref m9, .ref m10, .ref m11, .ref m12, .ref m13, .ref m14, .ref m15, .ref m16, .int 0, .int 0, .int 0, .int 0, .int 0, .int 0, .int 0, .ref m24, .int 0, .ref m26, .int 0, .ref m28, .long 0, .ref m30, .ref m31, .int 0, .int 0, .int 0, .ref m35, .ref m36, .int 0, .ref m38, .int 0, .int 0, .ref m41, .ref m42, .ref m43, .ref m44, .ref m45, .ref m46, .ref m47, .ref m48])), (m0, .inl (cy 0, 7666, .inl sd)), (m3, .inl (cy 0, 3, .inl (fun _ => 0)))] s.heap := hP
  have hl := lv_entry ([.ref md, .int p0, .int p1, .int p2, .int p3, .int p4]) (n := 7) (Nat.le_of_ble_eq_true rfl)
  rw [lg_entry_eq]
  generalize (lg_sl ([.ref md, .int p0, .int p1, .int p2, .int p3, .int p4]) ++ List.replicate (7 - (lg_sl ([.ref md, .int p0, .int p1, .int p2, .int p3, .int p4])).length) Slot.unset).toArray = ls at hl ⊢
  have hl : lv_has ls 7 [(0, .ref md), (1, .int p0), (2, .int p1), (3, .int p2), (4, .int p3), (5, .int p4)] := hl
  refine lv_aload_n hx hb dX12_make_0 rfl (lv_at hl 0 rfl) ?_
  refine lv_iconst (v := 0) hx hb dX12_make_1 (by decide) ?_
  refine lv_iload_n hx hb dX12_make_2 rfl (lv_at hl 1 rfl) ?_
  have hPc := hP.sub (ws' := [(md, .inr (12, [.ref m0, .ref m1, .int 0, .ref m3, .ref m4, .ref m5, .ref m6, .ref m7, .ref m8, .ref m9, .ref m10, .ref m11, .ref m12, .ref m13, .ref m14, .ref m15, .ref m16, .int 0, .int 0, .int 0, .int 0, .int 0, .int 0, .int 0, .ref m24, .int 0, .ref m26, .int 0, .ref m28, .long 0, .ref m30, .ref m31, .int 0, .int 0, .int 0, .ref m35, .ref m36, .int 0, .ref m38, .int 0, .int 0, .ref m41, .ref m42, .ref m43, .ref m44, .ref m45, .ref m46, .ref m47, .ref m48])), (m3, .inl (cy 0, 3, .inl (fun _ => 0)))]) [0, 2] rfl
  have hDc := hD.sub (ws' := [(md, .inr (12, [.ref m0, .ref m1, .int 0, .ref m3, .ref m4, .ref m5, .ref m6, .ref m7, .ref m8, .ref m9, .ref m10, .ref m11, .ref m12, .ref m13, .ref m14, .ref m15, .ref m16, .int 0, .int 0, .int 0, .int 0, .int 0, .int 0, .int 0, .ref m24, .int 0, .ref m26, .int 0, .ref m28, .long 0, .ref m30, .ref m31, .int 0, .int 0, .int 0, .ref m35, .ref m36, .int 0, .ref m38, .int 0, .int 0, .ref m41, .ref m42, .ref m43, .ref m44, .ref m45, .ref m46, .ref m47, .ref m48])), (m3, .inl (cy 0, 3, .inl (fun _ => 0)))]) [0, 2] (by decide) rfl
  refine tl_si (tl_rV (As := [.int 0, .int p0]) (rest := []) ⟨hx, hb, hml, hown, hta⟩ hK hN hPc hDc (ci := 12) rfl 0 rfl lk_X12_382 (c_X12_isText_0 l D cy s.heap.size md p0 m0 m1 m3 m4 m5 m6 m7 m8 m9 m10 m11 m12 m13 m14 m15 m16 m24 m26 m28 m30 m31 m35 m36 m38 m41 m42 m43 m44 m45 m46 m47 m48 ) rfl rfl ⟨Nat.le_of_ble_eq_true rfl, Nat.le_of_ble_eq_true rfl⟩ rfl hl.1 rfl (Nat.le_of_ble_eq_true rfl) dX12_make_3 ⟨Nat.le_of_ble_eq_true rfl, Nat.le_of_ble_eq_true rfl⟩) (fun r_2 hw_1 => ?_)
  subst hw_1
  refine lv_if_eq (tgt := 44) hx hb dX12_make_6 (by decide) (fun _ => ?_) (fun c => absurd c (by decide))
  refine lv_iconst (v := (-1)) hx hb dX12_make_44 (by decide) ?_
  exact W.iret (v := (-1)) hx hb hr (fun t ht hW => ⟨_, rfl, rfl, ht⟩) (fun q h => by cases h) dX12_make_45
set_option maxHeartbeats 4000000 in
set_option maxRecDepth 100000 in
theorem c_X12_curve (l : Launch) (D : va_G) (cy : Nat → ClassId) (sz : Nat) (md : Nat) (p0 : Int32) (p1 : Int32) (p2 : Int32) (p3 : Int32) (m0 : Nat) (m1 : Nat) (m3 : Nat) (m4 : Nat) (m5 : Nat) (m6 : Nat) (m7 : Nat) (m8 : Nat) (m9 : Nat) (m10 : Nat) (m11 : Nat) (m12 : Nat) (m13 : Nat) (m14 : Nat) (m15 : Nat) (m16 : Nat) (m24 : Nat) (m26 : Nat) (m28 : Nat) (m30 : Nat) (m31 : Nat) (m35 : Nat) (m36 : Nat) (m38 : Nat) (m41 : Nat) (m42 : Nat) (m43 : Nat) (m44 : Nat) (m45 : Nat) (m46 : Nat) (m47 : Nat) (m48 : Nat) (sd : Nat → Int32) (hsd : ∀ k : Nat, (k < 441 ∨ 7641 ≤ k) → sd k = 0) : Met l yX12_curve (tl_w yX12_curve cX12_curve 5 (some .int)) ({ frames := 2, cells := 0, slots := 0, locals := 44 }) (va_Pc [.ref md, .int p0, .int p1, .int p2, .int p3] (tl_P D cy [(md, .inr (12, [.ref m0, .ref m1, .int 0, .ref m3, .ref m4, .ref m5, .ref m6, .ref m7, .ref m8, .ref m9, .ref m10, .ref m11, .ref m12, .ref m13, .ref m14, .ref m15, .ref m16, .int 0, .int 0, .int 0, .int 0, .int 0, .int 0, .int 0, .ref m24, .int 0, .ref m26, .int 0, .ref m28, .long 0, .ref m30, .ref m31, .int 0, .int 0, .int 0, .ref m35, .ref m36, .int 0, .ref m38, .int 0, .int 0, .ref m41, .ref m42, .ref m43, .ref m44, .ref m45, .ref m46, .ref m47, .ref m48])), (m0, .inl (cy 0, 7666, .inl sd)), (m3, .inl (cy 0, 3, .inl (fun _ => 0)))] sz)) (vp_Si (fun r : Int32 => r = (-2000000))) 0 0 (fun _ => False) := by
  refine Met.ofW (cc := cX12_curve) (maxL := 5) (ret := (some .int)) (by decide) rfl ?_
  intro p e s m args below meth c s₁ B hml hv
  obtain ⟨rfl, hsz, hP, hK, hD0, hN⟩ := hv
  have hx := B.exec
  have hb := B.bytes
  have hr := B.returns
  have hta := tl_hta (atoms_spec (ws := tl_w yX12_curve cX12_curve 5 (some .int)) B.pre)
  have hown : s.vm.findClass RX12 = some m.cls := findClass_of_methodNamed B.named
  have hlocks := B.notSynchronized
  subst hsz
  have hD := hD0
  have hP : va_P D vwCl [(md, .inr (12, [.ref m0, .ref m1, .int 0, .ref m3, .ref m4, .ref m5, .ref m6, .ref m7, .ref m8, .ref m9, .ref m10, .ref m11, .ref m12, .ref m13, .ref m14, .ref m15, .ref m16, .int 0, .int 0, .int 0, .int 0, .int 0, .int 0, .int 0, .ref m24, .int 0, .ref m26, .int 0, .ref m28, .long 0, .ref m30, .ref m31, .int 0, .int 0, .int 0, .ref m35, .ref m36, .int 0, .ref m38, .int 0, .int 0, .ref m41, .ref m42, .ref m43, .ref m44, .ref m45, .ref m46, .ref m47, .ref m48])), (m0, .inl (cy 0, 7666, .inl sd)), (m3, .inl (cy 0, 3, .inl (fun _ => 0)))] s.heap := hP
  have hl := lv_entry ([.ref md, .int p0, .int p1, .int p2, .int p3]) (n := 5) (Nat.le_of_ble_eq_true rfl)
  rw [lg_entry_eq]
  generalize (lg_sl ([.ref md, .int p0, .int p1, .int p2, .int p3]) ++ List.replicate (5 - (lg_sl ([.ref md, .int p0, .int p1, .int p2, .int p3])).length) Slot.unset).toArray = ls at hl ⊢
  have hl : lv_has ls 5 [(0, .ref md), (1, .int p0), (2, .int p1), (3, .int p2), (4, .int p3)] := hl
  refine lv_aload_n hx hb dX12_curve_0 rfl (lv_at hl 0 rfl) ?_
  refine lv_iload_n hx hb dX12_curve_1 rfl (lv_at hl 1 rfl) ?_
  refine lv_iload_n hx hb dX12_curve_2 rfl (lv_at hl 2 rfl) ?_
  refine tl_si (tl_rV (As := [.int p0, .int p1]) (rest := []) ⟨hx, hb, hml, hown, hta⟩ hK hN hP hD (ci := 12) rfl 0 rfl lk_X12_447 (c_X12_canAsk l D cy s.heap.size md p0 p1 m0 m1 m3 m4 m5 m6 m7 m8 m9 m10 m11 m12 m13 m14 m15 m16 m24 m26 m28 m30 m31 m35 m36 m38 m41 m42 m43 m44 m45 m46 m47 m48 sd hsd) rfl rfl ⟨Nat.le_of_ble_eq_true rfl, Nat.le_of_ble_eq_true rfl⟩ rfl hl.1 rfl (Nat.le_of_ble_eq_true rfl) dX12_curve_3 ⟨Nat.le_of_ble_eq_true rfl, Nat.le_of_ble_eq_true rfl⟩) (fun r_2 hw_1 => ?_)
  subst hw_1
  refine lv_if_eq (tgt := 29) hx hb dX12_curve_6 (by decide) (fun _ => ?_) (fun c => absurd c (by decide))
  refine lv_ldc (v := (-2000000)) hx hb hown (hta _ wk_248) dX12_curve_29 ?_
  exact W.iret (v := (-2000000)) hx hb hr (fun t ht hW => ⟨_, rfl, rfl, ht⟩) (fun q h => by cases h) dX12_curve_31
set_option maxHeartbeats 4000000 in
set_option maxRecDepth 100000 in
theorem c_X12_deep (l : Launch) (D : va_G) (cy : Nat → ClassId) (sz : Nat) (md : Nat) (p0 : Int32) (p1 : Int32) (p2 : Int32) (m0 : Nat) (m1 : Nat) (m3 : Nat) (m4 : Nat) (m5 : Nat) (m6 : Nat) (m7 : Nat) (m8 : Nat) (m9 : Nat) (m10 : Nat) (m11 : Nat) (m12 : Nat) (m13 : Nat) (m14 : Nat) (m15 : Nat) (m16 : Nat) (m24 : Nat) (m26 : Nat) (m28 : Nat) (m30 : Nat) (m31 : Nat) (m35 : Nat) (m36 : Nat) (m38 : Nat) (m41 : Nat) (m42 : Nat) (m43 : Nat) (m44 : Nat) (m45 : Nat) (m46 : Nat) (m47 : Nat) (m48 : Nat) (sd : Nat → Int32) (hsd : ∀ k : Nat, (k < 441 ∨ 7641 ≤ k) → sd k = 0) : Met l yX12_deep (tl_w yX12_deep cX12_deep 6 (some .long)) ({ frames := 2, cells := 0, slots := 0, locals := 44 }) (va_Pc [.ref md, .int p0, .int p1, .int p2] (tl_P D cy [(md, .inr (12, [.ref m0, .ref m1, .int 0, .ref m3, .ref m4, .ref m5, .ref m6, .ref m7, .ref m8, .ref m9, .ref m10, .ref m11, .ref m12, .ref m13, .ref m14, .ref m15, .ref m16, .int 0, .int 0, .int 0, .int 0, .int 0, .int 0, .int 0, .ref m24, .int 0, .ref m26, .int 0, .ref m28, .long 0, .ref m30, .ref m31, .int 0, .int 0, .int 0, .ref m35, .ref m36, .int 0, .ref m38, .int 0, .int 0, .ref m41, .ref m42, .ref m43, .ref m44, .ref m45, .ref m46, .ref m47, .ref m48])), (m0, .inl (cy 0, 7666, .inl sd)), (m3, .inl (cy 0, 3, .inl (fun _ => 0)))] sz)) (vp_Sl (fun r : Int64 => r = (-2000000000))) 0 0 (fun _ => False) := by
  refine Met.ofW (cc := cX12_deep) (maxL := 6) (ret := (some .long)) (by decide) rfl ?_
  intro p e s m args below meth c s₁ B hml hv
  obtain ⟨rfl, hsz, hP, hK, hD0, hN⟩ := hv
  have hx := B.exec
  have hb := B.bytes
  have hr := B.returns
  have hta := tl_hta (atoms_spec (ws := tl_w yX12_deep cX12_deep 6 (some .long)) B.pre)
  have hown : s.vm.findClass RX12 = some m.cls := findClass_of_methodNamed B.named
  have hlocks := B.notSynchronized
  subst hsz
  have hD := hD0
  have hP : va_P D vwCl [(md, .inr (12, [.ref m0, .ref m1, .int 0, .ref m3, .ref m4, .ref m5, .ref m6, .ref m7, .ref m8, .ref m9, .ref m10, .ref m11, .ref m12, .ref m13, .ref m14, .ref m15, .ref m16, .int 0, .int 0, .int 0, .int 0, .int 0, .int 0, .int 0, .ref m24, .int 0, .ref m26, .int 0, .ref m28, .long 0, .ref m30, .ref m31, .int 0, .int 0, .int 0, .ref m35, .ref m36, .int 0, .ref m38, .int 0, .int 0, .ref m41, .ref m42, .ref m43, .ref m44, .ref m45, .ref m46, .ref m47, .ref m48])), (m0, .inl (cy 0, 7666, .inl sd)), (m3, .inl (cy 0, 3, .inl (fun _ => 0)))] s.heap := hP
  have hl := lv_entry ([.ref md, .int p0, .int p1, .int p2]) (n := 6) (Nat.le_of_ble_eq_true rfl)
  rw [lg_entry_eq]
  generalize (lg_sl ([.ref md, .int p0, .int p1, .int p2]) ++ List.replicate (6 - (lg_sl ([.ref md, .int p0, .int p1, .int p2])).length) Slot.unset).toArray = ls at hl ⊢
  have hl : lv_has ls 6 [(0, .ref md), (1, .int p0), (2, .int p1), (3, .int p2)] := hl
  refine lv_aload_n hx hb dX12_deep_0 rfl (lv_at hl 0 rfl) ?_
  refine lv_iload_n hx hb dX12_deep_1 rfl (lv_at hl 1 rfl) ?_
  refine lv_iload_n hx hb dX12_deep_2 rfl (lv_at hl 2 rfl) ?_
  refine tl_si (tl_rV (As := [.int p0, .int p1]) (rest := []) ⟨hx, hb, hml, hown, hta⟩ hK hN hP hD (ci := 12) rfl 0 rfl lk_X12_447 (c_X12_canAsk l D cy s.heap.size md p0 p1 m0 m1 m3 m4 m5 m6 m7 m8 m9 m10 m11 m12 m13 m14 m15 m16 m24 m26 m28 m30 m31 m35 m36 m38 m41 m42 m43 m44 m45 m46 m47 m48 sd hsd) rfl rfl ⟨Nat.le_of_ble_eq_true rfl, Nat.le_of_ble_eq_true rfl⟩ rfl hl.1 rfl (Nat.le_of_ble_eq_true rfl) dX12_deep_3 ⟨Nat.le_of_ble_eq_true rfl, Nat.le_of_ble_eq_true rfl⟩) (fun r_2 hw_1 => ?_)
  subst hw_1
  refine lv_if_eq (tgt := 21) hx hb dX12_deep_6 (by decide) (fun _ => ?_) (fun c => absurd c (by decide))
  refine lv_ldc2 (v := (-2000000000)) hx hb hown (hta _ wk_990) dX12_deep_21 ?_
  exact W.lret (v := (-2000000000)) hx hb hr (fun t ht hW => ⟨_, rfl, rfl, ht⟩) (fun q h => by cases h) dX12_deep_24
set_option maxHeartbeats 4000000 in
set_option maxRecDepth 100000 in
theorem c_X12_moved (l : Launch) (D : va_G) (cy : Nat → ClassId) (sz : Nat) (md : Nat) (p0 : Int32) (p1 : Int32) (p2 : Int32) (m0 : Nat) (m1 : Nat) (m3 : Nat) (m4 : Nat) (m5 : Nat) (m6 : Nat) (m7 : Nat) (m8 : Nat) (m9 : Nat) (m10 : Nat) (m11 : Nat) (m12 : Nat) (m13 : Nat) (m14 : Nat) (m15 : Nat) (m16 : Nat) (m24 : Nat) (m26 : Nat) (m28 : Nat) (m30 : Nat) (m31 : Nat) (m35 : Nat) (m36 : Nat) (m38 : Nat) (m41 : Nat) (m42 : Nat) (m43 : Nat) (m44 : Nat) (m45 : Nat) (m46 : Nat) (m47 : Nat) (m48 : Nat) (sd : Nat → Int32) (hsd : ∀ k : Nat, (k < 441 ∨ 7641 ≤ k) → sd k = 0) : Met l yX12_moved (tl_w yX12_moved cX12_moved 4 (some .long)) ({ frames := 2, cells := 0, slots := 0, locals := 44 }) (va_Pc [.ref md, .int p0, .int p1, .int p2] (tl_P D cy [(md, .inr (12, [.ref m0, .ref m1, .int 0, .ref m3, .ref m4, .ref m5, .ref m6, .ref m7, .ref m8, .ref m9, .ref m10, .ref m11, .ref m12, .ref m13, .ref m14, .ref m15, .ref m16, .int 0, .int 0, .int 0, .int 0, .int 0, .int 0, .int 0, .ref m24, .int 0, .ref m26, .int 0, .ref m28, .long 0, .ref m30, .ref m31, .int 0, .int 0, .int 0, .ref m35, .ref m36, .int 0, .ref m38, .int 0, .int 0, .ref m41, .ref m42, .ref m43, .ref m44, .ref m45, .ref m46, .ref m47, .ref m48])), (m0, .inl (cy 0, 7666, .inl sd)), (m3, .inl (cy 0, 3, .inl (fun _ => 0)))] sz)) (vp_Sl (fun r : Int64 => r = (-2000000000))) 0 0 (fun _ => False) := by
  refine Met.ofW (cc := cX12_moved) (maxL := 4) (ret := (some .long)) (by decide) rfl ?_
  intro p e s m args below meth c s₁ B hml hv
  obtain ⟨rfl, hsz, hP, hK, hD0, hN⟩ := hv
  have hx := B.exec
  have hb := B.bytes
  have hr := B.returns
  have hta := tl_hta (atoms_spec (ws := tl_w yX12_moved cX12_moved 4 (some .long)) B.pre)
  have hown : s.vm.findClass RX12 = some m.cls := findClass_of_methodNamed B.named
  have hlocks := B.notSynchronized
  subst hsz
  have hD := hD0
  have hP : va_P D vwCl [(md, .inr (12, [.ref m0, .ref m1, .int 0, .ref m3, .ref m4, .ref m5, .ref m6, .ref m7, .ref m8, .ref m9, .ref m10, .ref m11, .ref m12, .ref m13, .ref m14, .ref m15, .ref m16, .int 0, .int 0, .int 0, .int 0, .int 0, .int 0, .int 0, .ref m24, .int 0, .ref m26, .int 0, .ref m28, .long 0, .ref m30, .ref m31, .int 0, .int 0, .int 0, .ref m35, .ref m36, .int 0, .ref m38, .int 0, .int 0, .ref m41, .ref m42, .ref m43, .ref m44, .ref m45, .ref m46, .ref m47, .ref m48])), (m0, .inl (cy 0, 7666, .inl sd)), (m3, .inl (cy 0, 3, .inl (fun _ => 0)))] s.heap := hP
  have hl := lv_entry ([.ref md, .int p0, .int p1, .int p2]) (n := 4) (Nat.le_of_ble_eq_true rfl)
  rw [lg_entry_eq]
  generalize (lg_sl ([.ref md, .int p0, .int p1, .int p2]) ++ List.replicate (4 - (lg_sl ([.ref md, .int p0, .int p1, .int p2])).length) Slot.unset).toArray = ls at hl ⊢
  have hl : lv_has ls 4 [(0, .ref md), (1, .int p0), (2, .int p1), (3, .int p2)] := hl
  refine lv_aload_n hx hb dX12_moved_0 rfl (lv_at hl 0 rfl) ?_
  refine lv_iload_n hx hb dX12_moved_1 rfl (lv_at hl 1 rfl) ?_
  refine lv_iload_n hx hb dX12_moved_2 rfl (lv_at hl 2 rfl) ?_
  refine tl_si (tl_rV (As := [.int p0, .int p1]) (rest := []) ⟨hx, hb, hml, hown, hta⟩ hK hN hP hD (ci := 12) rfl 0 rfl lk_X12_447 (c_X12_canAsk l D cy s.heap.size md p0 p1 m0 m1 m3 m4 m5 m6 m7 m8 m9 m10 m11 m12 m13 m14 m15 m16 m24 m26 m28 m30 m31 m35 m36 m38 m41 m42 m43 m44 m45 m46 m47 m48 sd hsd) rfl rfl ⟨Nat.le_of_ble_eq_true rfl, Nat.le_of_ble_eq_true rfl⟩ rfl hl.1 rfl (Nat.le_of_ble_eq_true rfl) dX12_moved_3 ⟨Nat.le_of_ble_eq_true rfl, Nat.le_of_ble_eq_true rfl⟩) (fun r_2 hw_1 => ?_)
  subst hw_1
  refine lv_if_eq (tgt := 28) hx hb dX12_moved_6 (by decide) (fun _ => ?_) (fun c => absurd c (by decide))
  refine lv_ldc2 (v := (-2000000000)) hx hb hown (hta _ wk_990) dX12_moved_28 ?_
  exact W.lret (v := (-2000000000)) hx hb hr (fun t ht hW => ⟨_, rfl, rfl, ht⟩) (fun q h => by cases h) dX12_moved_31
set_option maxHeartbeats 4000000 in
set_option maxRecDepth 100000 in
theorem c_X12_elsewhere (l : Launch) (D : va_G) (cy : Nat → ClassId) (sz : Nat) (md : Nat) (p0 : Int32) (p1 : Int32) (p2 : Int32) (m0 : Nat) (m1 : Nat) (m3 : Nat) (m4 : Nat) (m5 : Nat) (m6 : Nat) (m7 : Nat) (m8 : Nat) (m9 : Nat) (m10 : Nat) (m11 : Nat) (m12 : Nat) (m13 : Nat) (m14 : Nat) (m15 : Nat) (m16 : Nat) (m24 : Nat) (m26 : Nat) (m28 : Nat) (m30 : Nat) (m31 : Nat) (m35 : Nat) (m36 : Nat) (m38 : Nat) (m41 : Nat) (m42 : Nat) (m43 : Nat) (m44 : Nat) (m45 : Nat) (m46 : Nat) (m47 : Nat) (m48 : Nat) (sd : Nat → Int32) (hsd : ∀ k : Nat, (k < 441 ∨ 7641 ≤ k) → sd k = 0) : Met l yX12_elsewhere (tl_w yX12_elsewhere cX12_elsewhere 12 (some .int)) ({ frames := 2, cells := 0, slots := 0, locals := 44 }) (va_Pc [.ref md, .int p0, .int p1, .int p2] (tl_P D cy [(md, .inr (12, [.ref m0, .ref m1, .int 0, .ref m3, .ref m4, .ref m5, .ref m6, .ref m7, .ref m8, .ref m9, .ref m10, .ref m11, .ref m12, .ref m13, .ref m14, .ref m15, .ref m16, .int 0, .int 0, .int 0, .int 0, .int 0, .int 0, .int 0, .ref m24, .int 0, .ref m26, .int 0, .ref m28, .long 0, .ref m30, .ref m31, .int 0, .int 0, .int 0, .ref m35, .ref m36, .int 0, .ref m38, .int 0, .int 0, .ref m41, .ref m42, .ref m43, .ref m44, .ref m45, .ref m46, .ref m47, .ref m48])), (m0, .inl (cy 0, 7666, .inl sd)), (m3, .inl (cy 0, 3, .inl (fun _ => 0)))] sz)) (vp_Si (fun r : Int32 => r = (-1))) 0 0 (fun _ => False) := by
  refine Met.ofW (cc := cX12_elsewhere) (maxL := 12) (ret := (some .int)) (by decide) rfl ?_
  intro p e s m args below meth c s₁ B hml hv
  obtain ⟨rfl, hsz, hP, hK, hD0, hN⟩ := hv
  have hx := B.exec
  have hb := B.bytes
  have hr := B.returns
  have hta := tl_hta (atoms_spec (ws := tl_w yX12_elsewhere cX12_elsewhere 12 (some .int)) B.pre)
  have hown : s.vm.findClass RX12 = some m.cls := findClass_of_methodNamed B.named
  have hlocks := B.notSynchronized
  subst hsz
  have hD := hD0
  have hP : va_P D vwCl [(md, .inr (12, [.ref m0, .ref m1, .int 0, .ref m3, .ref m4, .ref m5, .ref m6, .ref m7, .ref m8, .ref m9, .ref m10, .ref m11, .ref m12, .ref m13, .ref m14, .ref m15, .ref m16, .int 0, .int 0, .int 0, .int 0, .int 0, .int 0, .int 0, .ref m24, .int 0, .ref m26, .int 0, .ref m28, .long 0, .ref m30, .ref m31, .int 0, .int 0, .int 0, .ref m35, .ref m36, .int 0, .ref m38, .int 0, .int 0, .ref m41, .ref m42, .ref m43, .ref m44, .ref m45, .ref m46, .ref m47, .ref m48])), (m0, .inl (cy 0, 7666, .inl sd)), (m3, .inl (cy 0, 3, .inl (fun _ => 0)))] s.heap := hP
  have hl := lv_entry ([.ref md, .int p0, .int p1, .int p2]) (n := 12) (Nat.le_of_ble_eq_true rfl)
  rw [lg_entry_eq]
  generalize (lg_sl ([.ref md, .int p0, .int p1, .int p2]) ++ List.replicate (12 - (lg_sl ([.ref md, .int p0, .int p1, .int p2])).length) Slot.unset).toArray = ls at hl ⊢
  have hl : lv_has ls 12 [(0, .ref md), (1, .int p0), (2, .int p1), (3, .int p2)] := hl
  refine lv_aload_n hx hb dX12_elsewhere_0 rfl (lv_at hl 0 rfl) ?_
  refine lv_iload_n hx hb dX12_elsewhere_1 rfl (lv_at hl 1 rfl) ?_
  refine lv_iload_n hx hb dX12_elsewhere_2 rfl (lv_at hl 2 rfl) ?_
  refine tl_si (tl_rV (As := [.int p0, .int p1]) (rest := []) ⟨hx, hb, hml, hown, hta⟩ hK hN hP hD (ci := 12) rfl 0 rfl lk_X12_447 (c_X12_canAsk l D cy s.heap.size md p0 p1 m0 m1 m3 m4 m5 m6 m7 m8 m9 m10 m11 m12 m13 m14 m15 m16 m24 m26 m28 m30 m31 m35 m36 m38 m41 m42 m43 m44 m45 m46 m47 m48 sd hsd) rfl rfl ⟨Nat.le_of_ble_eq_true rfl, Nat.le_of_ble_eq_true rfl⟩ rfl hl.1 rfl (Nat.le_of_ble_eq_true rfl) dX12_elsewhere_3 ⟨Nat.le_of_ble_eq_true rfl, Nat.le_of_ble_eq_true rfl⟩) (fun r_2 hw_1 => ?_)
  subst hw_1
  refine lv_if_eq (tgt := 19) hx hb dX12_elsewhere_6 (by decide) (fun _ => ?_) (fun c => absurd c (by decide))
  refine lv_iconst (v := (-1)) hx hb dX12_elsewhere_19 (by decide) ?_
  exact W.iret (v := (-1)) hx hb hr (fun t ht hW => ⟨_, rfl, rfl, ht⟩) (fun q h => by cases h) dX12_elsewhere_20
set_option maxHeartbeats 4000000 in
set_option maxRecDepth 100000 in
theorem c_X12_deepest (l : Launch) (D : va_G) (cy : Nat → ClassId) (sz : Nat) (md : Nat) (p0 : Int32) (p1 : Int32) (p2 : Int32) (m0 : Nat) (m1 : Nat) (m3 : Nat) (m4 : Nat) (m5 : Nat) (m6 : Nat) (m7 : Nat) (m8 : Nat) (m9 : Nat) (m10 : Nat) (m11 : Nat) (m12 : Nat) (m13 : Nat) (m14 : Nat) (m15 : Nat) (m16 : Nat) (m24 : Nat) (m26 : Nat) (m28 : Nat) (m30 : Nat) (m31 : Nat) (m35 : Nat) (m36 : Nat) (m38 : Nat) (m41 : Nat) (m42 : Nat) (m43 : Nat) (m44 : Nat) (m45 : Nat) (m46 : Nat) (m47 : Nat) (m48 : Nat) (sd : Nat → Int32) (hsd : ∀ k : Nat, (k < 441 ∨ 7641 ≤ k) → sd k = 0) : Met l yX12_deepest (tl_w yX12_deepest cX12_deepest 11 (some .long)) ({ frames := 2, cells := 0, slots := 0, locals := 44 }) (va_Pc [.ref md, .int p0, .int p1, .int p2] (tl_P D cy [(md, .inr (12, [.ref m0, .ref m1, .int 0, .ref m3, .ref m4, .ref m5, .ref m6, .ref m7, .ref m8, .ref m9, .ref m10, .ref m11, .ref m12, .ref m13, .ref m14, .ref m15, .ref m16, .int 0, .int 0, .int 0, .int 0, .int 0, .int 0, .int 0, .ref m24, .int 0, .ref m26, .int 0, .ref m28, .long 0, .ref m30, .ref m31, .int 0, .int 0, .int 0, .ref m35, .ref m36, .int 0, .ref m38, .int 0, .int 0, .ref m41, .ref m42, .ref m43, .ref m44, .ref m45, .ref m46, .ref m47, .ref m48])), (m0, .inl (cy 0, 7666, .inl sd)), (m3, .inl (cy 0, 3, .inl (fun _ => 0)))] sz)) (vp_Sl (fun r : Int64 => r = (-2100000000))) 0 0 (fun _ => False) := by
  refine Met.ofW (cc := cX12_deepest) (maxL := 11) (ret := (some .long)) (by decide) rfl ?_
  intro p e s m args below meth c s₁ B hml hv
  obtain ⟨rfl, hsz, hP, hK, hD0, hN⟩ := hv
  have hx := B.exec
  have hb := B.bytes
  have hr := B.returns
  have hta := tl_hta (atoms_spec (ws := tl_w yX12_deepest cX12_deepest 11 (some .long)) B.pre)
  have hown : s.vm.findClass RX12 = some m.cls := findClass_of_methodNamed B.named
  have hlocks := B.notSynchronized
  subst hsz
  have hD := hD0
  have hP : va_P D vwCl [(md, .inr (12, [.ref m0, .ref m1, .int 0, .ref m3, .ref m4, .ref m5, .ref m6, .ref m7, .ref m8, .ref m9, .ref m10, .ref m11, .ref m12, .ref m13, .ref m14, .ref m15, .ref m16, .int 0, .int 0, .int 0, .int 0, .int 0, .int 0, .int 0, .ref m24, .int 0, .ref m26, .int 0, .ref m28, .long 0, .ref m30, .ref m31, .int 0, .int 0, .int 0, .ref m35, .ref m36, .int 0, .ref m38, .int 0, .int 0, .ref m41, .ref m42, .ref m43, .ref m44, .ref m45, .ref m46, .ref m47, .ref m48])), (m0, .inl (cy 0, 7666, .inl sd)), (m3, .inl (cy 0, 3, .inl (fun _ => 0)))] s.heap := hP
  have hl := lv_entry ([.ref md, .int p0, .int p1, .int p2]) (n := 11) (Nat.le_of_ble_eq_true rfl)
  rw [lg_entry_eq]
  generalize (lg_sl ([.ref md, .int p0, .int p1, .int p2]) ++ List.replicate (11 - (lg_sl ([.ref md, .int p0, .int p1, .int p2])).length) Slot.unset).toArray = ls at hl ⊢
  have hl : lv_has ls 11 [(0, .ref md), (1, .int p0), (2, .int p1), (3, .int p2)] := hl
  refine lv_aload_n hx hb dX12_deepest_0 rfl (lv_at hl 0 rfl) ?_
  refine lv_iload_n hx hb dX12_deepest_1 rfl (lv_at hl 1 rfl) ?_
  refine lv_iload_n hx hb dX12_deepest_2 rfl (lv_at hl 2 rfl) ?_
  refine tl_si (tl_rV (As := [.int p0, .int p1]) (rest := []) ⟨hx, hb, hml, hown, hta⟩ hK hN hP hD (ci := 12) rfl 0 rfl lk_X12_447 (c_X12_canAsk l D cy s.heap.size md p0 p1 m0 m1 m3 m4 m5 m6 m7 m8 m9 m10 m11 m12 m13 m14 m15 m16 m24 m26 m28 m30 m31 m35 m36 m38 m41 m42 m43 m44 m45 m46 m47 m48 sd hsd) rfl rfl ⟨Nat.le_of_ble_eq_true rfl, Nat.le_of_ble_eq_true rfl⟩ rfl hl.1 rfl (Nat.le_of_ble_eq_true rfl) dX12_deepest_3 ⟨Nat.le_of_ble_eq_true rfl, Nat.le_of_ble_eq_true rfl⟩) (fun r_2 hw_1 => ?_)
  subst hw_1
  refine lv_if_eq (tgt := 19) hx hb dX12_deepest_6 (by decide) (fun _ => ?_) (fun c => absurd c (by decide))
  refine lv_ldc2 (v := (-2100000000)) hx hb hown (hta _ wk_1307) dX12_deepest_19 ?_
  exact W.lret (v := (-2100000000)) hx hb hr (fun t ht hW => ⟨_, rfl, rfl, ht⟩) (fun q h => by cases h) dX12_deepest_22
set_option maxHeartbeats 4000000 in
set_option maxRecDepth 100000 in
theorem c_X12_drawn (l : Launch) (D : va_G) (cy : Nat → ClassId) (sz : Nat) (md : Nat) (p0 : Int32) (p1 : Int32) (p2 : Int32) (p3 : Int32) (p4 : Int32) (m0 : Nat) (m1 : Nat) (m3 : Nat) (m4 : Nat) (m5 : Nat) (m6 : Nat) (m7 : Nat) (m8 : Nat) (m9 : Nat) (m10 : Nat) (m11 : Nat) (m12 : Nat) (m13 : Nat) (m14 : Nat) (m15 : Nat) (m16 : Nat) (m24 : Nat) (m26 : Nat) (m28 : Nat) (m30 : Nat) (m31 : Nat) (m35 : Nat) (m36 : Nat) (m38 : Nat) (m41 : Nat) (m42 : Nat) (m43 : Nat) (m44 : Nat) (m45 : Nat) (m46 : Nat) (m47 : Nat) (m48 : Nat) (sd : Nat → Int32) (hsd : ∀ k : Nat, (k < 441 ∨ 7641 ≤ k) → sd k = 0) : Met l yX12_drawn (tl_w yX12_drawn cX12_drawn 12 (some .int)) ({ frames := 1, cells := 0, slots := 0, locals := 22 }) (va_Pc [.ref md, .int p0, .int p1, .int p2, .int p3, .int p4] (tl_P D cy [(md, .inr (12, [.ref m0, .ref m1, .int 0, .ref m3, .ref m4, .ref m5, .ref m6, .ref m7, .ref m8, .ref m9, .ref m10, .ref m11, .ref m12, .ref m13, .ref m14, .ref m15, .ref m16, .int 0, .int 0, .int 0, .int 0, .int 0, .int 0, .int 0, .ref m24, .int 0, .ref m26, .int 0, .ref m28, .long 0, .ref m30, .ref m31, .int 0, .int 0, .int 0, .ref m35, .ref m36, .int 0, .ref m38, .int 0, .int 0, .ref m41, .ref m42, .ref m43, .ref m44, .ref m45, .ref m46, .ref m47, .ref m48])), (m0, .inl (cy 0, 7666, .inl sd)), (m3, .inl (cy 0, 3, .inl (fun _ => 0)))] sz)) (vp_Si (fun r : Int32 => r = (-1))) 0 0 (fun _ => False) := by
  refine Met.ofW (cc := cX12_drawn) (maxL := 12) (ret := (some .int)) (by decide) rfl ?_
  intro p e s m args below meth c s₁ B hml hv
  obtain ⟨rfl, hsz, hP, hK, hD0, hN⟩ := hv
  have hx := B.exec
  have hb := B.bytes
  have hr := B.returns
  have hta := tl_hta (atoms_spec (ws := tl_w yX12_drawn cX12_drawn 12 (some .int)) B.pre)
  have hown : s.vm.findClass RX12 = some m.cls := findClass_of_methodNamed B.named
  have hlocks := B.notSynchronized
  subst hsz
  have hD := hD0
  have hP : va_P D vwCl [(md, .inr (12, [.ref m0, .ref m1, .int 0, .ref m3, .ref m4, .ref m5, .ref m6, .ref m7, .ref m8, .ref m9, .ref m10, .ref m11, .ref m12, .ref m13, .ref m14, .ref m15, .ref m16, .int 0, .int 0, .int 0, .int 0, .int 0, .int 0, .int 0, .ref m24, .int 0, .ref m26, .int 0, .ref m28, .long 0, .ref m30, .ref m31, .int 0, .int 0, .int 0, .ref m35, .ref m36, .int 0, .ref m38, .int 0, .int 0, .ref m41, .ref m42, .ref m43, .ref m44, .ref m45, .ref m46, .ref m47, .ref m48])), (m0, .inl (cy 0, 7666, .inl sd)), (m3, .inl (cy 0, 3, .inl (fun _ => 0)))] s.heap := hP
  have hl := lv_entry ([.ref md, .int p0, .int p1, .int p2, .int p3, .int p4]) (n := 12) (Nat.le_of_ble_eq_true rfl)
  rw [lg_entry_eq]
  generalize (lg_sl ([.ref md, .int p0, .int p1, .int p2, .int p3, .int p4]) ++ List.replicate (12 - (lg_sl ([.ref md, .int p0, .int p1, .int p2, .int p3, .int p4])).length) Slot.unset).toArray = ls at hl ⊢
  have hl : lv_has ls 12 [(0, .ref md), (1, .int p0), (2, .int p1), (3, .int p2), (4, .int p3), (5, .int p4)] := hl
  refine lv_aload_n hx hb dX12_drawn_0 rfl (lv_at hl 0 rfl) ?_
  refine lv_iconst (v := 0) hx hb dX12_drawn_1 (by decide) ?_
  refine lv_iload_n hx hb dX12_drawn_2 rfl (lv_at hl 1 rfl) ?_
  have hPc := hP.sub (ws' := [(md, .inr (12, [.ref m0, .ref m1, .int 0, .ref m3, .ref m4, .ref m5, .ref m6, .ref m7, .ref m8, .ref m9, .ref m10, .ref m11, .ref m12, .ref m13, .ref m14, .ref m15, .ref m16, .int 0, .int 0, .int 0, .int 0, .int 0, .int 0, .int 0, .ref m24, .int 0, .ref m26, .int 0, .ref m28, .long 0, .ref m30, .ref m31, .int 0, .int 0, .int 0, .ref m35, .ref m36, .int 0, .ref m38, .int 0, .int 0, .ref m41, .ref m42, .ref m43, .ref m44, .ref m45, .ref m46, .ref m47, .ref m48])), (m3, .inl (cy 0, 3, .inl (fun _ => 0)))]) [0, 2] rfl
  have hDc := hD.sub (ws' := [(md, .inr (12, [.ref m0, .ref m1, .int 0, .ref m3, .ref m4, .ref m5, .ref m6, .ref m7, .ref m8, .ref m9, .ref m10, .ref m11, .ref m12, .ref m13, .ref m14, .ref m15, .ref m16, .int 0, .int 0, .int 0, .int 0, .int 0, .int 0, .int 0, .ref m24, .int 0, .ref m26, .int 0, .ref m28, .long 0, .ref m30, .ref m31, .int 0, .int 0, .int 0, .ref m35, .ref m36, .int 0, .ref m38, .int 0, .int 0, .ref m41, .ref m42, .ref m43, .ref m44, .ref m45, .ref m46, .ref m47, .ref m48])), (m3, .inl (cy 0, 3, .inl (fun _ => 0)))]) [0, 2] (by decide) rfl
  refine tl_si (tl_rV (As := [.int 0, .int p0]) (rest := []) ⟨hx, hb, hml, hown, hta⟩ hK hN hPc hDc (ci := 12) rfl 0 rfl lk_X12_382 (c_X12_isText_0 l D cy s.heap.size md p0 m0 m1 m3 m4 m5 m6 m7 m8 m9 m10 m11 m12 m13 m14 m15 m16 m24 m26 m28 m30 m31 m35 m36 m38 m41 m42 m43 m44 m45 m46 m47 m48 ) rfl rfl ⟨Nat.le_of_ble_eq_true rfl, Nat.le_of_ble_eq_true rfl⟩ rfl hl.1 rfl (Nat.le_of_ble_eq_true rfl) dX12_drawn_3 ⟨Nat.le_of_ble_eq_true rfl, Nat.le_of_ble_eq_true rfl⟩) (fun r_2 hw_1 => ?_)
  subst hw_1
  refine lv_if_eq (tgt := 36) hx hb dX12_drawn_6 (by decide) (fun _ => ?_) (fun c => absurd c (by decide))
  refine lv_iconst (v := (-1)) hx hb dX12_drawn_36 (by decide) ?_
  exact W.iret (v := (-1)) hx hb hr (fun t ht hW => ⟨_, rfl, rfl, ht⟩) (fun q h => by cases h) dX12_drawn_37
set_option maxHeartbeats 4000000 in
set_option maxRecDepth 100000 in
theorem c_X12_bent (l : Launch) (D : va_G) (cy : Nat → ClassId) (sz : Nat) (md : Nat) (p0 : Int32) (p1 : Int32) (p2 : Int32) (m0 : Nat) (m1 : Nat) (m3 : Nat) (m4 : Nat) (m5 : Nat) (m6 : Nat) (m7 : Nat) (m8 : Nat) (m9 : Nat) (m10 : Nat) (m11 : Nat) (m12 : Nat) (m13 : Nat) (m14 : Nat) (m15 : Nat) (m16 : Nat) (m24 : Nat) (m26 : Nat) (m28 : Nat) (m30 : Nat) (m31 : Nat) (m35 : Nat) (m36 : Nat) (m38 : Nat) (m41 : Nat) (m42 : Nat) (m43 : Nat) (m44 : Nat) (m45 : Nat) (m46 : Nat) (m47 : Nat) (m48 : Nat) (sd : Nat → Int32) (hsd : ∀ k : Nat, (k < 441 ∨ 7641 ≤ k) → sd k = 0) : Met l yX12_bent (tl_w yX12_bent cX12_bent 4 (some .long)) ({ frames := 2, cells := 0, slots := 0, locals := 44 }) (va_Pc [.ref md, .int p0, .int p1, .int p2] (tl_P D cy [(md, .inr (12, [.ref m0, .ref m1, .int 0, .ref m3, .ref m4, .ref m5, .ref m6, .ref m7, .ref m8, .ref m9, .ref m10, .ref m11, .ref m12, .ref m13, .ref m14, .ref m15, .ref m16, .int 0, .int 0, .int 0, .int 0, .int 0, .int 0, .int 0, .ref m24, .int 0, .ref m26, .int 0, .ref m28, .long 0, .ref m30, .ref m31, .int 0, .int 0, .int 0, .ref m35, .ref m36, .int 0, .ref m38, .int 0, .int 0, .ref m41, .ref m42, .ref m43, .ref m44, .ref m45, .ref m46, .ref m47, .ref m48])), (m0, .inl (cy 0, 7666, .inl sd)), (m3, .inl (cy 0, 3, .inl (fun _ => 0)))] sz)) (vp_Sl (fun r : Int64 => r = (-2000000000))) 0 0 (fun _ => False) := by
  refine Met.ofW (cc := cX12_bent) (maxL := 4) (ret := (some .long)) (by decide) rfl ?_
  intro p e s m args below meth c s₁ B hml hv
  obtain ⟨rfl, hsz, hP, hK, hD0, hN⟩ := hv
  have hx := B.exec
  have hb := B.bytes
  have hr := B.returns
  have hta := tl_hta (atoms_spec (ws := tl_w yX12_bent cX12_bent 4 (some .long)) B.pre)
  have hown : s.vm.findClass RX12 = some m.cls := findClass_of_methodNamed B.named
  have hlocks := B.notSynchronized
  subst hsz
  have hD := hD0
  have hP : va_P D vwCl [(md, .inr (12, [.ref m0, .ref m1, .int 0, .ref m3, .ref m4, .ref m5, .ref m6, .ref m7, .ref m8, .ref m9, .ref m10, .ref m11, .ref m12, .ref m13, .ref m14, .ref m15, .ref m16, .int 0, .int 0, .int 0, .int 0, .int 0, .int 0, .int 0, .ref m24, .int 0, .ref m26, .int 0, .ref m28, .long 0, .ref m30, .ref m31, .int 0, .int 0, .int 0, .ref m35, .ref m36, .int 0, .ref m38, .int 0, .int 0, .ref m41, .ref m42, .ref m43, .ref m44, .ref m45, .ref m46, .ref m47, .ref m48])), (m0, .inl (cy 0, 7666, .inl sd)), (m3, .inl (cy 0, 3, .inl (fun _ => 0)))] s.heap := hP
  have hl := lv_entry ([.ref md, .int p0, .int p1, .int p2]) (n := 4) (Nat.le_of_ble_eq_true rfl)
  rw [lg_entry_eq]
  generalize (lg_sl ([.ref md, .int p0, .int p1, .int p2]) ++ List.replicate (4 - (lg_sl ([.ref md, .int p0, .int p1, .int p2])).length) Slot.unset).toArray = ls at hl ⊢
  have hl : lv_has ls 4 [(0, .ref md), (1, .int p0), (2, .int p1), (3, .int p2)] := hl
  refine lv_aload_n hx hb dX12_bent_0 rfl (lv_at hl 0 rfl) ?_
  refine lv_iload_n hx hb dX12_bent_1 rfl (lv_at hl 1 rfl) ?_
  refine lv_iload_n hx hb dX12_bent_2 rfl (lv_at hl 2 rfl) ?_
  refine tl_si (tl_rV (As := [.int p0, .int p1]) (rest := []) ⟨hx, hb, hml, hown, hta⟩ hK hN hP hD (ci := 12) rfl 0 rfl lk_X12_447 (c_X12_canAsk l D cy s.heap.size md p0 p1 m0 m1 m3 m4 m5 m6 m7 m8 m9 m10 m11 m12 m13 m14 m15 m16 m24 m26 m28 m30 m31 m35 m36 m38 m41 m42 m43 m44 m45 m46 m47 m48 sd hsd) rfl rfl ⟨Nat.le_of_ble_eq_true rfl, Nat.le_of_ble_eq_true rfl⟩ rfl hl.1 rfl (Nat.le_of_ble_eq_true rfl) dX12_bent_3 ⟨Nat.le_of_ble_eq_true rfl, Nat.le_of_ble_eq_true rfl⟩) (fun r_2 hw_1 => ?_)
  subst hw_1
  refine lv_if_eq (tgt := 21) hx hb dX12_bent_6 (by decide) (fun _ => ?_) (fun c => absurd c (by decide))
  refine lv_ldc2 (v := (-2000000000)) hx hb hown (hta _ wk_990) dX12_bent_21 ?_
  exact W.lret (v := (-2000000000)) hx hb hr (fun t ht hW => ⟨_, rfl, rfl, ht⟩) (fun q h => by cases h) dX12_bent_24
set_option maxHeartbeats 4000000 in
set_option maxRecDepth 100000 in
theorem c_X12_best (l : Launch) (D : va_G) (cy : Nat → ClassId) (sz : Nat) (md : Nat) (p0 : Int32) (p1 : Int32) (p2 : Int32) (p3 : Int32) (m0 : Nat) (m1 : Nat) (m3 : Nat) (m4 : Nat) (m5 : Nat) (m6 : Nat) (m7 : Nat) (m8 : Nat) (m9 : Nat) (m10 : Nat) (m11 : Nat) (m12 : Nat) (m13 : Nat) (m14 : Nat) (m15 : Nat) (m16 : Nat) (m24 : Nat) (m26 : Nat) (m28 : Nat) (m30 : Nat) (m31 : Nat) (m35 : Nat) (m36 : Nat) (m38 : Nat) (m41 : Nat) (m42 : Nat) (m43 : Nat) (m44 : Nat) (m45 : Nat) (m46 : Nat) (m47 : Nat) (m48 : Nat) (sd : Nat → Int32) (hsd : ∀ k : Nat, (k < 441 ∨ 7641 ≤ k) → sd k = 0) : Met l yX12_best (tl_w yX12_best cX12_best 13 (some .long)) ({ frames := 2, cells := 0, slots := 0, locals := 44 }) (va_Pc [.ref md, .int p0, .int p1, .int p2, .int p3] (tl_P D cy [(md, .inr (12, [.ref m0, .ref m1, .int 0, .ref m3, .ref m4, .ref m5, .ref m6, .ref m7, .ref m8, .ref m9, .ref m10, .ref m11, .ref m12, .ref m13, .ref m14, .ref m15, .ref m16, .int 0, .int 0, .int 0, .int 0, .int 0, .int 0, .int 0, .ref m24, .int 0, .ref m26, .int 0, .ref m28, .long 0, .ref m30, .ref m31, .int 0, .int 0, .int 0, .ref m35, .ref m36, .int 0, .ref m38, .int 0, .int 0, .ref m41, .ref m42, .ref m43, .ref m44, .ref m45, .ref m46, .ref m47, .ref m48])), (m0, .inl (cy 0, 7666, .inl sd)), (m3, .inl (cy 0, 3, .inl (fun _ => 0)))] sz)) (vp_Sl (fun r : Int64 => r = (-1))) 0 0 (fun _ => False) := by
  refine Met.ofW (cc := cX12_best) (maxL := 13) (ret := (some .long)) (by decide) rfl ?_
  intro p e s m args below meth c s₁ B hml hv
  obtain ⟨rfl, hsz, hP, hK, hD0, hN⟩ := hv
  have hx := B.exec
  have hb := B.bytes
  have hr := B.returns
  have hta := tl_hta (atoms_spec (ws := tl_w yX12_best cX12_best 13 (some .long)) B.pre)
  have hown : s.vm.findClass RX12 = some m.cls := findClass_of_methodNamed B.named
  have hlocks := B.notSynchronized
  subst hsz
  have hD := hD0
  have hP : va_P D vwCl [(md, .inr (12, [.ref m0, .ref m1, .int 0, .ref m3, .ref m4, .ref m5, .ref m6, .ref m7, .ref m8, .ref m9, .ref m10, .ref m11, .ref m12, .ref m13, .ref m14, .ref m15, .ref m16, .int 0, .int 0, .int 0, .int 0, .int 0, .int 0, .int 0, .ref m24, .int 0, .ref m26, .int 0, .ref m28, .long 0, .ref m30, .ref m31, .int 0, .int 0, .int 0, .ref m35, .ref m36, .int 0, .ref m38, .int 0, .int 0, .ref m41, .ref m42, .ref m43, .ref m44, .ref m45, .ref m46, .ref m47, .ref m48])), (m0, .inl (cy 0, 7666, .inl sd)), (m3, .inl (cy 0, 3, .inl (fun _ => 0)))] s.heap := hP
  have hl := lv_entry ([.ref md, .int p0, .int p1, .int p2, .int p3]) (n := 13) (Nat.le_of_ble_eq_true rfl)
  rw [lg_entry_eq]
  generalize (lg_sl ([.ref md, .int p0, .int p1, .int p2, .int p3]) ++ List.replicate (13 - (lg_sl ([.ref md, .int p0, .int p1, .int p2, .int p3])).length) Slot.unset).toArray = ls at hl ⊢
  have hl : lv_has ls 13 [(0, .ref md), (1, .int p0), (2, .int p1), (3, .int p2), (4, .int p3)] := hl
  refine lv_aload_n hx hb dX12_best_0 rfl (lv_at hl 0 rfl) ?_
  refine lv_iload_n hx hb dX12_best_1 rfl (lv_at hl 1 rfl) ?_
  refine lv_iload_n hx hb dX12_best_2 rfl (lv_at hl 2 rfl) ?_
  refine tl_si (tl_rV (As := [.int p0, .int p1]) (rest := []) ⟨hx, hb, hml, hown, hta⟩ hK hN hP hD (ci := 12) rfl 0 rfl lk_X12_447 (c_X12_canAsk l D cy s.heap.size md p0 p1 m0 m1 m3 m4 m5 m6 m7 m8 m9 m10 m11 m12 m13 m14 m15 m16 m24 m26 m28 m30 m31 m35 m36 m38 m41 m42 m43 m44 m45 m46 m47 m48 sd hsd) rfl rfl ⟨Nat.le_of_ble_eq_true rfl, Nat.le_of_ble_eq_true rfl⟩ rfl hl.1 rfl (Nat.le_of_ble_eq_true rfl) dX12_best_3 ⟨Nat.le_of_ble_eq_true rfl, Nat.le_of_ble_eq_true rfl⟩) (fun r_2 hw_1 => ?_)
  subst hw_1
  refine lv_if_eq (tgt := 32) hx hb dX12_best_6 (by decide) (fun _ => ?_) (fun c => absurd c (by decide))
  refine lv_ldc2 (v := (-1)) hx hb hown (hta _ wk_991) dX12_best_32 ?_
  exact W.lret (v := (-1)) hx hb hr (fun t ht hW => ⟨_, rfl, rfl, ht⟩) (fun q h => by cases h) dX12_best_35
set_option maxHeartbeats 4000000 in
set_option maxRecDepth 100000 in
theorem c_X12_taken (l : Launch) (D : va_G) (cy : Nat → ClassId) (sz : Nat) (md : Nat) (p0 : Int32) (p1 : Int32) (p2 : Int32) (p3 : Int32) (m0 : Nat) (m1 : Nat) (m3 : Nat) (m4 : Nat) (m5 : Nat) (m6 : Nat) (m7 : Nat) (m8 : Nat) (m9 : Nat) (m10 : Nat) (m11 : Nat) (m12 : Nat) (m13 : Nat) (m14 : Nat) (m15 : Nat) (m16 : Nat) (m24 : Nat) (m26 : Nat) (m28 : Nat) (m30 : Nat) (m31 : Nat) (m35 : Nat) (m36 : Nat) (m38 : Nat) (m41 : Nat) (m42 : Nat) (m43 : Nat) (m44 : Nat) (m45 : Nat) (m46 : Nat) (m47 : Nat) (m48 : Nat) (sd : Nat → Int32) (hsd : ∀ k : Nat, (k < 441 ∨ 7641 ≤ k) → sd k = 0) : Met l yX12_taken (tl_w yX12_taken cX12_taken 12 (some .int)) ({ frames := 2, cells := 0, slots := 0, locals := 44 }) (va_Pc [.ref md, .int p0, .int p1, .int p2, .int p3] (tl_P D cy [(md, .inr (12, [.ref m0, .ref m1, .int 0, .ref m3, .ref m4, .ref m5, .ref m6, .ref m7, .ref m8, .ref m9, .ref m10, .ref m11, .ref m12, .ref m13, .ref m14, .ref m15, .ref m16, .int 0, .int 0, .int 0, .int 0, .int 0, .int 0, .int 0, .ref m24, .int 0, .ref m26, .int 0, .ref m28, .long 0, .ref m30, .ref m31, .int 0, .int 0, .int 0, .ref m35, .ref m36, .int 0, .ref m38, .int 0, .int 0, .ref m41, .ref m42, .ref m43, .ref m44, .ref m45, .ref m46, .ref m47, .ref m48])), (m0, .inl (cy 0, 7666, .inl sd)), (m3, .inl (cy 0, 3, .inl (fun _ => 0)))] sz)) (vp_Si (fun r : Int32 => r = (-2000000))) 0 0 (fun _ => False) := by
  refine Met.ofW (cc := cX12_taken) (maxL := 12) (ret := (some .int)) (by decide) rfl ?_
  intro p e s m args below meth c s₁ B hml hv
  obtain ⟨rfl, hsz, hP, hK, hD0, hN⟩ := hv
  have hx := B.exec
  have hb := B.bytes
  have hr := B.returns
  have hta := tl_hta (atoms_spec (ws := tl_w yX12_taken cX12_taken 12 (some .int)) B.pre)
  have hown : s.vm.findClass RX12 = some m.cls := findClass_of_methodNamed B.named
  have hlocks := B.notSynchronized
  subst hsz
  have hD := hD0
  have hP : va_P D vwCl [(md, .inr (12, [.ref m0, .ref m1, .int 0, .ref m3, .ref m4, .ref m5, .ref m6, .ref m7, .ref m8, .ref m9, .ref m10, .ref m11, .ref m12, .ref m13, .ref m14, .ref m15, .ref m16, .int 0, .int 0, .int 0, .int 0, .int 0, .int 0, .int 0, .ref m24, .int 0, .ref m26, .int 0, .ref m28, .long 0, .ref m30, .ref m31, .int 0, .int 0, .int 0, .ref m35, .ref m36, .int 0, .ref m38, .int 0, .int 0, .ref m41, .ref m42, .ref m43, .ref m44, .ref m45, .ref m46, .ref m47, .ref m48])), (m0, .inl (cy 0, 7666, .inl sd)), (m3, .inl (cy 0, 3, .inl (fun _ => 0)))] s.heap := hP
  have hl := lv_entry ([.ref md, .int p0, .int p1, .int p2, .int p3]) (n := 12) (Nat.le_of_ble_eq_true rfl)
  rw [lg_entry_eq]
  generalize (lg_sl ([.ref md, .int p0, .int p1, .int p2, .int p3]) ++ List.replicate (12 - (lg_sl ([.ref md, .int p0, .int p1, .int p2, .int p3])).length) Slot.unset).toArray = ls at hl ⊢
  have hl : lv_has ls 12 [(0, .ref md), (1, .int p0), (2, .int p1), (3, .int p2), (4, .int p3)] := hl
  refine lv_aload_n hx hb dX12_taken_0 rfl (lv_at hl 0 rfl) ?_
  refine lv_iload_n hx hb dX12_taken_1 rfl (lv_at hl 1 rfl) ?_
  refine lv_iload_n hx hb dX12_taken_2 rfl (lv_at hl 2 rfl) ?_
  refine tl_si (tl_rV (As := [.int p0, .int p1]) (rest := []) ⟨hx, hb, hml, hown, hta⟩ hK hN hP hD (ci := 12) rfl 0 rfl lk_X12_447 (c_X12_canAsk l D cy s.heap.size md p0 p1 m0 m1 m3 m4 m5 m6 m7 m8 m9 m10 m11 m12 m13 m14 m15 m16 m24 m26 m28 m30 m31 m35 m36 m38 m41 m42 m43 m44 m45 m46 m47 m48 sd hsd) rfl rfl ⟨Nat.le_of_ble_eq_true rfl, Nat.le_of_ble_eq_true rfl⟩ rfl hl.1 rfl (Nat.le_of_ble_eq_true rfl) dX12_taken_3 ⟨Nat.le_of_ble_eq_true rfl, Nat.le_of_ble_eq_true rfl⟩) (fun r_2 hw_1 => ?_)
  subst hw_1
  refine lv_if_eq (tgt := 34) hx hb dX12_taken_6 (by decide) (fun _ => ?_) (fun c => absurd c (by decide))
  refine lv_ldc (v := (-2000000)) hx hb hown (hta _ wk_248) dX12_taken_34 ?_
  exact W.iret (v := (-2000000)) hx hb hr (fun t ht hW => ⟨_, rfl, rfl, ht⟩) (fun q h => by cases h) dX12_taken_36
set_option maxHeartbeats 4000000 in
set_option maxRecDepth 100000 in
theorem c_X12_apart (l : Launch) (D : va_G) (cy : Nat → ClassId) (sz : Nat) (md : Nat) (p0 : Int32) (p1 : Int32) (p2 : Int32) (m0 : Nat) (m1 : Nat) (m3 : Nat) (m4 : Nat) (m5 : Nat) (m6 : Nat) (m7 : Nat) (m8 : Nat) (m9 : Nat) (m10 : Nat) (m11 : Nat) (m12 : Nat) (m13 : Nat) (m14 : Nat) (m15 : Nat) (m16 : Nat) (m24 : Nat) (m26 : Nat) (m28 : Nat) (m30 : Nat) (m31 : Nat) (m35 : Nat) (m36 : Nat) (m38 : Nat) (m41 : Nat) (m42 : Nat) (m43 : Nat) (m44 : Nat) (m45 : Nat) (m46 : Nat) (m47 : Nat) (m48 : Nat) (sd : Nat → Int32) (hsd : ∀ k : Nat, (k < 441 ∨ 7641 ≤ k) → sd k = 0) : Met l yX12_apart (tl_w yX12_apart cX12_apart 6 (some .int)) ({ frames := 1, cells := 0, slots := 0, locals := 22 }) (va_Pc [.ref md, .int p0, .int p1, .int p2] (tl_P D cy [(md, .inr (12, [.ref m0, .ref m1, .int 0, .ref m3, .ref m4, .ref m5, .ref m6, .ref m7, .ref m8, .ref m9, .ref m10, .ref m11, .ref m12, .ref m13, .ref m14, .ref m15, .ref m16, .int 0, .int 0, .int 0, .int 0, .int 0, .int 0, .int 0, .ref m24, .int 0, .ref m26, .int 0, .ref m28, .long 0, .ref m30, .ref m31, .int 0, .int 0, .int 0, .ref m35, .ref m36, .int 0, .ref m38, .int 0, .int 0, .ref m41, .ref m42, .ref m43, .ref m44, .ref m45, .ref m46, .ref m47, .ref m48])), (m0, .inl (cy 0, 7666, .inl sd)), (m3, .inl (cy 0, 3, .inl (fun _ => 0)))] sz)) (vp_Si (fun r : Int32 => r = (-1))) 0 0 (fun _ => False) := by
  refine Met.ofW (cc := cX12_apart) (maxL := 6) (ret := (some .int)) (by decide) rfl ?_
  intro p e s m args below meth c s₁ B hml hv
  obtain ⟨rfl, hsz, hP, hK, hD0, hN⟩ := hv
  have hx := B.exec
  have hb := B.bytes
  have hr := B.returns
  have hta := tl_hta (atoms_spec (ws := tl_w yX12_apart cX12_apart 6 (some .int)) B.pre)
  have hown : s.vm.findClass RX12 = some m.cls := findClass_of_methodNamed B.named
  have hlocks := B.notSynchronized
  subst hsz
  have hD := hD0
  have hP : va_P D vwCl [(md, .inr (12, [.ref m0, .ref m1, .int 0, .ref m3, .ref m4, .ref m5, .ref m6, .ref m7, .ref m8, .ref m9, .ref m10, .ref m11, .ref m12, .ref m13, .ref m14, .ref m15, .ref m16, .int 0, .int 0, .int 0, .int 0, .int 0, .int 0, .int 0, .ref m24, .int 0, .ref m26, .int 0, .ref m28, .long 0, .ref m30, .ref m31, .int 0, .int 0, .int 0, .ref m35, .ref m36, .int 0, .ref m38, .int 0, .int 0, .ref m41, .ref m42, .ref m43, .ref m44, .ref m45, .ref m46, .ref m47, .ref m48])), (m0, .inl (cy 0, 7666, .inl sd)), (m3, .inl (cy 0, 3, .inl (fun _ => 0)))] s.heap := hP
  have hl := lv_entry ([.ref md, .int p0, .int p1, .int p2]) (n := 6) (Nat.le_of_ble_eq_true rfl)
  rw [lg_entry_eq]
  generalize (lg_sl ([.ref md, .int p0, .int p1, .int p2]) ++ List.replicate (6 - (lg_sl ([.ref md, .int p0, .int p1, .int p2])).length) Slot.unset).toArray = ls at hl ⊢
  have hl : lv_has ls 6 [(0, .ref md), (1, .int p0), (2, .int p1), (3, .int p2)] := hl
  refine lv_aload_n hx hb dX12_apart_0 rfl (lv_at hl 0 rfl) ?_
  refine lv_iconst (v := 1) hx hb dX12_apart_1 (by decide) ?_
  refine lv_iload_n hx hb dX12_apart_2 rfl (lv_at hl 1 rfl) ?_
  have hPc := hP.sub (ws' := [(md, .inr (12, [.ref m0, .ref m1, .int 0, .ref m3, .ref m4, .ref m5, .ref m6, .ref m7, .ref m8, .ref m9, .ref m10, .ref m11, .ref m12, .ref m13, .ref m14, .ref m15, .ref m16, .int 0, .int 0, .int 0, .int 0, .int 0, .int 0, .int 0, .ref m24, .int 0, .ref m26, .int 0, .ref m28, .long 0, .ref m30, .ref m31, .int 0, .int 0, .int 0, .ref m35, .ref m36, .int 0, .ref m38, .int 0, .int 0, .ref m41, .ref m42, .ref m43, .ref m44, .ref m45, .ref m46, .ref m47, .ref m48])), (m3, .inl (cy 0, 3, .inl (fun _ => 0)))]) [0, 2] rfl
  have hDc := hD.sub (ws' := [(md, .inr (12, [.ref m0, .ref m1, .int 0, .ref m3, .ref m4, .ref m5, .ref m6, .ref m7, .ref m8, .ref m9, .ref m10, .ref m11, .ref m12, .ref m13, .ref m14, .ref m15, .ref m16, .int 0, .int 0, .int 0, .int 0, .int 0, .int 0, .int 0, .ref m24, .int 0, .ref m26, .int 0, .ref m28, .long 0, .ref m30, .ref m31, .int 0, .int 0, .int 0, .ref m35, .ref m36, .int 0, .ref m38, .int 0, .int 0, .ref m41, .ref m42, .ref m43, .ref m44, .ref m45, .ref m46, .ref m47, .ref m48])), (m3, .inl (cy 0, 3, .inl (fun _ => 0)))]) [0, 2] (by decide) rfl
  refine tl_si (tl_rV (As := [.int 1, .int p0]) (rest := []) ⟨hx, hb, hml, hown, hta⟩ hK hN hPc hDc (ci := 12) rfl 0 rfl lk_X12_382 (c_X12_isText_1 l D cy s.heap.size md p0 m0 m1 m3 m4 m5 m6 m7 m8 m9 m10 m11 m12 m13 m14 m15 m16 m24 m26 m28 m30 m31 m35 m36 m38 m41 m42 m43 m44 m45 m46 m47 m48 ) rfl rfl ⟨Nat.le_of_ble_eq_true rfl, Nat.le_of_ble_eq_true rfl⟩ rfl hl.1 rfl (Nat.le_of_ble_eq_true rfl) dX12_apart_3 ⟨Nat.le_of_ble_eq_true rfl, Nat.le_of_ble_eq_true rfl⟩) (fun r_2 hw_1 => ?_)
  subst hw_1
  refine lv_if_eq (tgt := 37) hx hb dX12_apart_6 (by decide) (fun _ => ?_) (fun c => absurd c (by decide))
  refine lv_iconst (v := (-1)) hx hb dX12_apart_37 (by decide) ?_
  exact W.iret (v := (-1)) hx hb hr (fun t ht hW => ⟨_, rfl, rfl, ht⟩) (fun q h => by cases h) dX12_apart_38
set_option maxHeartbeats 4000000 in
set_option maxRecDepth 100000 in
theorem c_X12_stuff (l : Launch) (D : va_G) (cy : Nat → ClassId) (sz : Nat) (md : Nat) (p0 : Int32) (p1 : Int32) (p2 : Int32) (p3 : Int32) (m0 : Nat) (m1 : Nat) (m3 : Nat) (m4 : Nat) (m5 : Nat) (m6 : Nat) (m7 : Nat) (m8 : Nat) (m9 : Nat) (m10 : Nat) (m11 : Nat) (m12 : Nat) (m13 : Nat) (m14 : Nat) (m15 : Nat) (m16 : Nat) (m24 : Nat) (m26 : Nat) (m28 : Nat) (m30 : Nat) (m31 : Nat) (m35 : Nat) (m36 : Nat) (m38 : Nat) (m41 : Nat) (m42 : Nat) (m43 : Nat) (m44 : Nat) (m45 : Nat) (m46 : Nat) (m47 : Nat) (m48 : Nat) (sd : Nat → Int32) (hsd : ∀ k : Nat, (k < 441 ∨ 7641 ≤ k) → sd k = 0) : Met l yX12_stuff (tl_w yX12_stuff cX12_stuff 5 (some .long)) ({ frames := 2, cells := 0, slots := 0, locals := 44 }) (va_Pc [.ref md, .int p0, .int p1, .int p2, .int p3] (tl_P D cy [(md, .inr (12, [.ref m0, .ref m1, .int 0, .ref m3, .ref m4, .ref m5, .ref m6, .ref m7, .ref m8, .ref m9, .ref m10, .ref m11, .ref m12, .ref m13, .ref m14, .ref m15, .ref m16, .int 0, .int 0, .int 0, .int 0, .int 0, .int 0, .int 0, .ref m24, .int 0, .ref m26, .int 0, .ref m28, .long 0, .ref m30, .ref m31, .int 0, .int 0, .int 0, .ref m35, .ref m36, .int 0, .ref m38, .int 0, .int 0, .ref m41, .ref m42, .ref m43, .ref m44, .ref m45, .ref m46, .ref m47, .ref m48])), (m0, .inl (cy 0, 7666, .inl sd)), (m3, .inl (cy 0, 3, .inl (fun _ => 0)))] sz)) (vp_Sl (fun r : Int64 => r = (-2))) 0 0 (fun _ => False) := by
  refine Met.ofW (cc := cX12_stuff) (maxL := 5) (ret := (some .long)) (by decide) rfl ?_
  intro p e s m args below meth c s₁ B hml hv
  obtain ⟨rfl, hsz, hP, hK, hD0, hN⟩ := hv
  have hx := B.exec
  have hb := B.bytes
  have hr := B.returns
  have hta := tl_hta (atoms_spec (ws := tl_w yX12_stuff cX12_stuff 5 (some .long)) B.pre)
  have hown : s.vm.findClass RX12 = some m.cls := findClass_of_methodNamed B.named
  have hlocks := B.notSynchronized
  subst hsz
  have hD := hD0
  have hP : va_P D vwCl [(md, .inr (12, [.ref m0, .ref m1, .int 0, .ref m3, .ref m4, .ref m5, .ref m6, .ref m7, .ref m8, .ref m9, .ref m10, .ref m11, .ref m12, .ref m13, .ref m14, .ref m15, .ref m16, .int 0, .int 0, .int 0, .int 0, .int 0, .int 0, .int 0, .ref m24, .int 0, .ref m26, .int 0, .ref m28, .long 0, .ref m30, .ref m31, .int 0, .int 0, .int 0, .ref m35, .ref m36, .int 0, .ref m38, .int 0, .int 0, .ref m41, .ref m42, .ref m43, .ref m44, .ref m45, .ref m46, .ref m47, .ref m48])), (m0, .inl (cy 0, 7666, .inl sd)), (m3, .inl (cy 0, 3, .inl (fun _ => 0)))] s.heap := hP
  have hl := lv_entry ([.ref md, .int p0, .int p1, .int p2, .int p3]) (n := 5) (Nat.le_of_ble_eq_true rfl)
  rw [lg_entry_eq]
  generalize (lg_sl ([.ref md, .int p0, .int p1, .int p2, .int p3]) ++ List.replicate (5 - (lg_sl ([.ref md, .int p0, .int p1, .int p2, .int p3])).length) Slot.unset).toArray = ls at hl ⊢
  have hl : lv_has ls 5 [(0, .ref md), (1, .int p0), (2, .int p1), (3, .int p2), (4, .int p3)] := hl
  refine lv_aload_n hx hb dX12_stuff_0 rfl (lv_at hl 0 rfl) ?_
  refine lv_iload_n hx hb dX12_stuff_1 rfl (lv_at hl 1 rfl) ?_
  refine lv_iload_n hx hb dX12_stuff_2 rfl (lv_at hl 2 rfl) ?_
  refine tl_si (tl_rV (As := [.int p0, .int p1]) (rest := []) ⟨hx, hb, hml, hown, hta⟩ hK hN hP hD (ci := 12) rfl 0 rfl lk_X12_447 (c_X12_canAsk l D cy s.heap.size md p0 p1 m0 m1 m3 m4 m5 m6 m7 m8 m9 m10 m11 m12 m13 m14 m15 m16 m24 m26 m28 m30 m31 m35 m36 m38 m41 m42 m43 m44 m45 m46 m47 m48 sd hsd) rfl rfl ⟨Nat.le_of_ble_eq_true rfl, Nat.le_of_ble_eq_true rfl⟩ rfl hl.1 rfl (Nat.le_of_ble_eq_true rfl) dX12_stuff_3 ⟨Nat.le_of_ble_eq_true rfl, Nat.le_of_ble_eq_true rfl⟩) (fun r_2 hw_1 => ?_)
  subst hw_1
  refine lv_if_eq (tgt := 34) hx hb dX12_stuff_6 (by decide) (fun _ => ?_) (fun c => absurd c (by decide))
  refine lv_ldc2 (v := (-2)) hx hb hown (hta _ wk_1124) dX12_stuff_34 ?_
  exact W.lret (v := (-2)) hx hb hr (fun t ht hW => ⟨_, rfl, rfl, ht⟩) (fun q h => by cases h) dX12_stuff_37
set_option maxHeartbeats 4000000 in
set_option maxRecDepth 100000 in
theorem c_X12_likeliest (l : Launch) (D : va_G) (cy : Nat → ClassId) (sz : Nat) (md : Nat) (p0 : Int32) (p1 : Int32) (m0 : Nat) (m1 : Nat) (m3 : Nat) (m4 : Nat) (m5 : Nat) (m6 : Nat) (m7 : Nat) (m8 : Nat) (m9 : Nat) (m10 : Nat) (m11 : Nat) (m12 : Nat) (m13 : Nat) (m14 : Nat) (m15 : Nat) (m16 : Nat) (m24 : Nat) (m26 : Nat) (m28 : Nat) (m30 : Nat) (m31 : Nat) (m35 : Nat) (m36 : Nat) (m38 : Nat) (m41 : Nat) (m42 : Nat) (m43 : Nat) (m44 : Nat) (m45 : Nat) (m46 : Nat) (m47 : Nat) (m48 : Nat) (sd : Nat → Int32) (hsd : ∀ k : Nat, (k < 441 ∨ 7641 ≤ k) → sd k = 0) : Met l yX12_likeliest (tl_w yX12_likeliest cX12_likeliest 10 (some .int)) ({ frames := 2, cells := 0, slots := 0, locals := 44 }) (va_Pc [.ref md, .int p0, .int p1] (tl_P D cy [(md, .inr (12, [.ref m0, .ref m1, .int 0, .ref m3, .ref m4, .ref m5, .ref m6, .ref m7, .ref m8, .ref m9, .ref m10, .ref m11, .ref m12, .ref m13, .ref m14, .ref m15, .ref m16, .int 0, .int 0, .int 0, .int 0, .int 0, .int 0, .int 0, .ref m24, .int 0, .ref m26, .int 0, .ref m28, .long 0, .ref m30, .ref m31, .int 0, .int 0, .int 0, .ref m35, .ref m36, .int 0, .ref m38, .int 0, .int 0, .ref m41, .ref m42, .ref m43, .ref m44, .ref m45, .ref m46, .ref m47, .ref m48])), (m0, .inl (cy 0, 7666, .inl sd)), (m3, .inl (cy 0, 3, .inl (fun _ => 0)))] sz)) (vp_Si (fun r : Int32 => r = (-1))) 0 0 (fun _ => False) := by
  refine Met.ofW (cc := cX12_likeliest) (maxL := 10) (ret := (some .int)) (by decide) rfl ?_
  intro p e s m args below meth c s₁ B hml hv
  obtain ⟨rfl, hsz, hP, hK, hD0, hN⟩ := hv
  have hx := B.exec
  have hb := B.bytes
  have hr := B.returns
  have hta := tl_hta (atoms_spec (ws := tl_w yX12_likeliest cX12_likeliest 10 (some .int)) B.pre)
  have hown : s.vm.findClass RX12 = some m.cls := findClass_of_methodNamed B.named
  have hlocks := B.notSynchronized
  subst hsz
  have hD := hD0
  have hP : va_P D vwCl [(md, .inr (12, [.ref m0, .ref m1, .int 0, .ref m3, .ref m4, .ref m5, .ref m6, .ref m7, .ref m8, .ref m9, .ref m10, .ref m11, .ref m12, .ref m13, .ref m14, .ref m15, .ref m16, .int 0, .int 0, .int 0, .int 0, .int 0, .int 0, .int 0, .ref m24, .int 0, .ref m26, .int 0, .ref m28, .long 0, .ref m30, .ref m31, .int 0, .int 0, .int 0, .ref m35, .ref m36, .int 0, .ref m38, .int 0, .int 0, .ref m41, .ref m42, .ref m43, .ref m44, .ref m45, .ref m46, .ref m47, .ref m48])), (m0, .inl (cy 0, 7666, .inl sd)), (m3, .inl (cy 0, 3, .inl (fun _ => 0)))] s.heap := hP
  have hl := lv_entry ([.ref md, .int p0, .int p1]) (n := 10) (Nat.le_of_ble_eq_true rfl)
  rw [lg_entry_eq]
  generalize (lg_sl ([.ref md, .int p0, .int p1]) ++ List.replicate (10 - (lg_sl ([.ref md, .int p0, .int p1])).length) Slot.unset).toArray = ls at hl ⊢
  have hl : lv_has ls 10 [(0, .ref md), (1, .int p0), (2, .int p1)] := hl
  refine lv_aload_n hx hb dX12_likeliest_0 rfl (lv_at hl 0 rfl) ?_
  refine lv_iload_n hx hb dX12_likeliest_1 rfl (lv_at hl 1 rfl) ?_
  refine lv_iload_n hx hb dX12_likeliest_2 rfl (lv_at hl 2 rfl) ?_
  refine tl_si (tl_rV (As := [.int p0, .int p1]) (rest := []) ⟨hx, hb, hml, hown, hta⟩ hK hN hP hD (ci := 12) rfl 0 rfl lk_X12_447 (c_X12_canAsk l D cy s.heap.size md p0 p1 m0 m1 m3 m4 m5 m6 m7 m8 m9 m10 m11 m12 m13 m14 m15 m16 m24 m26 m28 m30 m31 m35 m36 m38 m41 m42 m43 m44 m45 m46 m47 m48 sd hsd) rfl rfl ⟨Nat.le_of_ble_eq_true rfl, Nat.le_of_ble_eq_true rfl⟩ rfl hl.1 rfl (Nat.le_of_ble_eq_true rfl) dX12_likeliest_3 ⟨Nat.le_of_ble_eq_true rfl, Nat.le_of_ble_eq_true rfl⟩) (fun r_2 hw_1 => ?_)
  subst hw_1
  refine lv_if_ne (tgt := 11) hx hb dX12_likeliest_6 (by decide) (fun c => absurd c (by decide)) (fun _ => ?_)
  refine lv_iconst (v := (-1)) hx hb dX12_likeliest_9 (by decide) ?_
  exact W.iret (v := (-1)) hx hb hr (fun t ht hW => ⟨_, rfl, rfl, ht⟩) (fun q h => by cases h) dX12_likeliest_10
set_option maxHeartbeats 4000000 in
set_option maxRecDepth 100000 in
theorem c_X12_together (l : Launch) (D : va_G) (cy : Nat → ClassId) (sz : Nat) (md : Nat) (p0 : Int32) (p1 : Int32) (p2 : Int32) (p3 : Int32) (m0 : Nat) (m1 : Nat) (m3 : Nat) (m4 : Nat) (m5 : Nat) (m6 : Nat) (m7 : Nat) (m8 : Nat) (m9 : Nat) (m10 : Nat) (m11 : Nat) (m12 : Nat) (m13 : Nat) (m14 : Nat) (m15 : Nat) (m16 : Nat) (m24 : Nat) (m26 : Nat) (m28 : Nat) (m30 : Nat) (m31 : Nat) (m35 : Nat) (m36 : Nat) (m38 : Nat) (m41 : Nat) (m42 : Nat) (m43 : Nat) (m44 : Nat) (m45 : Nat) (m46 : Nat) (m47 : Nat) (m48 : Nat) (sd : Nat → Int32) (hsd : ∀ k : Nat, (k < 441 ∨ 7641 ≤ k) → sd k = 0) : Met l yX12_together (tl_w yX12_together cX12_together 10 (some .int)) ({ frames := 1, cells := 0, slots := 0, locals := 22 }) (va_Pc [.ref md, .int p0, .int p1, .int p2, .int p3] (tl_P D cy [(md, .inr (12, [.ref m0, .ref m1, .int 0, .ref m3, .ref m4, .ref m5, .ref m6, .ref m7, .ref m8, .ref m9, .ref m10, .ref m11, .ref m12, .ref m13, .ref m14, .ref m15, .ref m16, .int 0, .int 0, .int 0, .int 0, .int 0, .int 0, .int 0, .ref m24, .int 0, .ref m26, .int 0, .ref m28, .long 0, .ref m30, .ref m31, .int 0, .int 0, .int 0, .ref m35, .ref m36, .int 0, .ref m38, .int 0, .int 0, .ref m41, .ref m42, .ref m43, .ref m44, .ref m45, .ref m46, .ref m47, .ref m48])), (m0, .inl (cy 0, 7666, .inl sd)), (m3, .inl (cy 0, 3, .inl (fun _ => 0)))] sz)) (vp_Si (fun r : Int32 => r = (-2000000000))) 0 0 (fun _ => False) := by
  refine Met.ofW (cc := cX12_together) (maxL := 10) (ret := (some .int)) (by decide) rfl ?_
  intro p e s m args below meth c s₁ B hml hv
  obtain ⟨rfl, hsz, hP, hK, hD0, hN⟩ := hv
  have hx := B.exec
  have hb := B.bytes
  have hr := B.returns
  have hta := tl_hta (atoms_spec (ws := tl_w yX12_together cX12_together 10 (some .int)) B.pre)
  have hown : s.vm.findClass RX12 = some m.cls := findClass_of_methodNamed B.named
  have hlocks := B.notSynchronized
  subst hsz
  have hD := hD0
  have hP : va_P D vwCl [(md, .inr (12, [.ref m0, .ref m1, .int 0, .ref m3, .ref m4, .ref m5, .ref m6, .ref m7, .ref m8, .ref m9, .ref m10, .ref m11, .ref m12, .ref m13, .ref m14, .ref m15, .ref m16, .int 0, .int 0, .int 0, .int 0, .int 0, .int 0, .int 0, .ref m24, .int 0, .ref m26, .int 0, .ref m28, .long 0, .ref m30, .ref m31, .int 0, .int 0, .int 0, .ref m35, .ref m36, .int 0, .ref m38, .int 0, .int 0, .ref m41, .ref m42, .ref m43, .ref m44, .ref m45, .ref m46, .ref m47, .ref m48])), (m0, .inl (cy 0, 7666, .inl sd)), (m3, .inl (cy 0, 3, .inl (fun _ => 0)))] s.heap := hP
  have hl := lv_entry ([.ref md, .int p0, .int p1, .int p2, .int p3]) (n := 10) (Nat.le_of_ble_eq_true rfl)
  rw [lg_entry_eq]
  generalize (lg_sl ([.ref md, .int p0, .int p1, .int p2, .int p3]) ++ List.replicate (10 - (lg_sl ([.ref md, .int p0, .int p1, .int p2, .int p3])).length) Slot.unset).toArray = ls at hl ⊢
  have hl : lv_has ls 10 [(0, .ref md), (1, .int p0), (2, .int p1), (3, .int p2), (4, .int p3)] := hl
  refine lv_aload_n hx hb dX12_together_0 rfl (lv_at hl 0 rfl) ?_
  refine lv_iconst (v := 1) hx hb dX12_together_1 (by decide) ?_
  refine lv_iload_n hx hb dX12_together_2 rfl (lv_at hl 1 rfl) ?_
  have hPc := hP.sub (ws' := [(md, .inr (12, [.ref m0, .ref m1, .int 0, .ref m3, .ref m4, .ref m5, .ref m6, .ref m7, .ref m8, .ref m9, .ref m10, .ref m11, .ref m12, .ref m13, .ref m14, .ref m15, .ref m16, .int 0, .int 0, .int 0, .int 0, .int 0, .int 0, .int 0, .ref m24, .int 0, .ref m26, .int 0, .ref m28, .long 0, .ref m30, .ref m31, .int 0, .int 0, .int 0, .ref m35, .ref m36, .int 0, .ref m38, .int 0, .int 0, .ref m41, .ref m42, .ref m43, .ref m44, .ref m45, .ref m46, .ref m47, .ref m48])), (m3, .inl (cy 0, 3, .inl (fun _ => 0)))]) [0, 2] rfl
  have hDc := hD.sub (ws' := [(md, .inr (12, [.ref m0, .ref m1, .int 0, .ref m3, .ref m4, .ref m5, .ref m6, .ref m7, .ref m8, .ref m9, .ref m10, .ref m11, .ref m12, .ref m13, .ref m14, .ref m15, .ref m16, .int 0, .int 0, .int 0, .int 0, .int 0, .int 0, .int 0, .ref m24, .int 0, .ref m26, .int 0, .ref m28, .long 0, .ref m30, .ref m31, .int 0, .int 0, .int 0, .ref m35, .ref m36, .int 0, .ref m38, .int 0, .int 0, .ref m41, .ref m42, .ref m43, .ref m44, .ref m45, .ref m46, .ref m47, .ref m48])), (m3, .inl (cy 0, 3, .inl (fun _ => 0)))]) [0, 2] (by decide) rfl
  refine tl_si (tl_rV (As := [.int 1, .int p0]) (rest := []) ⟨hx, hb, hml, hown, hta⟩ hK hN hPc hDc (ci := 12) rfl 0 rfl lk_X12_382 (c_X12_isText_1 l D cy s.heap.size md p0 m0 m1 m3 m4 m5 m6 m7 m8 m9 m10 m11 m12 m13 m14 m15 m16 m24 m26 m28 m30 m31 m35 m36 m38 m41 m42 m43 m44 m45 m46 m47 m48 ) rfl rfl ⟨Nat.le_of_ble_eq_true rfl, Nat.le_of_ble_eq_true rfl⟩ rfl hl.1 rfl (Nat.le_of_ble_eq_true rfl) dX12_together_3 ⟨Nat.le_of_ble_eq_true rfl, Nat.le_of_ble_eq_true rfl⟩) (fun r_2 hw_1 => ?_)
  subst hw_1
  refine lv_if_eq (tgt := 41) hx hb dX12_together_6 (by decide) (fun _ => ?_) (fun c => absurd c (by decide))
  refine lv_ldcw (v := (-2000000000)) hx hb hown (hta _ wk_1174) dX12_together_41 ?_
  exact W.iret (v := (-2000000000)) hx hb hr (fun t ht hW => ⟨_, rfl, rfl, ht⟩) (fun q h => by cases h) dX12_together_44
set_option maxHeartbeats 4000000 in
set_option maxRecDepth 100000 in
theorem c_X12_hour (l : Launch) (D : va_G) (cy : Nat → ClassId) (sz : Nat) (md : Nat) (p0 : Int32) (p1 : Int32) (p2 : Int32) (m0 : Nat) (m1 : Nat) (m3 : Nat) (m4 : Nat) (m5 : Nat) (m6 : Nat) (m7 : Nat) (m8 : Nat) (m9 : Nat) (m10 : Nat) (m11 : Nat) (m12 : Nat) (m13 : Nat) (m14 : Nat) (m15 : Nat) (m16 : Nat) (m24 : Nat) (m26 : Nat) (m28 : Nat) (m30 : Nat) (m31 : Nat) (m35 : Nat) (m36 : Nat) (m38 : Nat) (m41 : Nat) (m42 : Nat) (m43 : Nat) (m44 : Nat) (m45 : Nat) (m46 : Nat) (m47 : Nat) (m48 : Nat) (sd : Nat → Int32) (hsd : ∀ k : Nat, (k < 441 ∨ 7641 ≤ k) → sd k = 0) : Met l yX12_hour (tl_w yX12_hour cX12_hour 9 (some .int)) ({ frames := 1, cells := 0, slots := 0, locals := 22 }) (va_Pc [.ref md, .int p0, .int p1, .int p2] (tl_P D cy [(md, .inr (12, [.ref m0, .ref m1, .int 0, .ref m3, .ref m4, .ref m5, .ref m6, .ref m7, .ref m8, .ref m9, .ref m10, .ref m11, .ref m12, .ref m13, .ref m14, .ref m15, .ref m16, .int 0, .int 0, .int 0, .int 0, .int 0, .int 0, .int 0, .ref m24, .int 0, .ref m26, .int 0, .ref m28, .long 0, .ref m30, .ref m31, .int 0, .int 0, .int 0, .ref m35, .ref m36, .int 0, .ref m38, .int 0, .int 0, .ref m41, .ref m42, .ref m43, .ref m44, .ref m45, .ref m46, .ref m47, .ref m48])), (m0, .inl (cy 0, 7666, .inl sd)), (m3, .inl (cy 0, 3, .inl (fun _ => 0)))] sz)) (vp_Si (fun r : Int32 => r = (-1))) 0 0 (fun _ => False) := by
  refine Met.ofW (cc := cX12_hour) (maxL := 9) (ret := (some .int)) (by decide) rfl ?_
  intro p e s m args below meth c s₁ B hml hv
  obtain ⟨rfl, hsz, hP, hK, hD0, hN⟩ := hv
  have hx := B.exec
  have hb := B.bytes
  have hr := B.returns
  have hta := tl_hta (atoms_spec (ws := tl_w yX12_hour cX12_hour 9 (some .int)) B.pre)
  have hown : s.vm.findClass RX12 = some m.cls := findClass_of_methodNamed B.named
  have hlocks := B.notSynchronized
  subst hsz
  have hD := hD0
  have hP : va_P D vwCl [(md, .inr (12, [.ref m0, .ref m1, .int 0, .ref m3, .ref m4, .ref m5, .ref m6, .ref m7, .ref m8, .ref m9, .ref m10, .ref m11, .ref m12, .ref m13, .ref m14, .ref m15, .ref m16, .int 0, .int 0, .int 0, .int 0, .int 0, .int 0, .int 0, .ref m24, .int 0, .ref m26, .int 0, .ref m28, .long 0, .ref m30, .ref m31, .int 0, .int 0, .int 0, .ref m35, .ref m36, .int 0, .ref m38, .int 0, .int 0, .ref m41, .ref m42, .ref m43, .ref m44, .ref m45, .ref m46, .ref m47, .ref m48])), (m0, .inl (cy 0, 7666, .inl sd)), (m3, .inl (cy 0, 3, .inl (fun _ => 0)))] s.heap := hP
  have hl := lv_entry ([.ref md, .int p0, .int p1, .int p2]) (n := 9) (Nat.le_of_ble_eq_true rfl)
  rw [lg_entry_eq]
  generalize (lg_sl ([.ref md, .int p0, .int p1, .int p2]) ++ List.replicate (9 - (lg_sl ([.ref md, .int p0, .int p1, .int p2])).length) Slot.unset).toArray = ls at hl ⊢
  have hl : lv_has ls 9 [(0, .ref md), (1, .int p0), (2, .int p1), (3, .int p2)] := hl
  refine lv_aload_n hx hb dX12_hour_0 rfl (lv_at hl 0 rfl) ?_
  refine lv_iconst (v := 1) hx hb dX12_hour_1 (by decide) ?_
  refine lv_iload_n hx hb dX12_hour_2 rfl (lv_at hl 1 rfl) ?_
  have hPc := hP.sub (ws' := [(md, .inr (12, [.ref m0, .ref m1, .int 0, .ref m3, .ref m4, .ref m5, .ref m6, .ref m7, .ref m8, .ref m9, .ref m10, .ref m11, .ref m12, .ref m13, .ref m14, .ref m15, .ref m16, .int 0, .int 0, .int 0, .int 0, .int 0, .int 0, .int 0, .ref m24, .int 0, .ref m26, .int 0, .ref m28, .long 0, .ref m30, .ref m31, .int 0, .int 0, .int 0, .ref m35, .ref m36, .int 0, .ref m38, .int 0, .int 0, .ref m41, .ref m42, .ref m43, .ref m44, .ref m45, .ref m46, .ref m47, .ref m48])), (m3, .inl (cy 0, 3, .inl (fun _ => 0)))]) [0, 2] rfl
  have hDc := hD.sub (ws' := [(md, .inr (12, [.ref m0, .ref m1, .int 0, .ref m3, .ref m4, .ref m5, .ref m6, .ref m7, .ref m8, .ref m9, .ref m10, .ref m11, .ref m12, .ref m13, .ref m14, .ref m15, .ref m16, .int 0, .int 0, .int 0, .int 0, .int 0, .int 0, .int 0, .ref m24, .int 0, .ref m26, .int 0, .ref m28, .long 0, .ref m30, .ref m31, .int 0, .int 0, .int 0, .ref m35, .ref m36, .int 0, .ref m38, .int 0, .int 0, .ref m41, .ref m42, .ref m43, .ref m44, .ref m45, .ref m46, .ref m47, .ref m48])), (m3, .inl (cy 0, 3, .inl (fun _ => 0)))]) [0, 2] (by decide) rfl
  refine tl_si (tl_rV (As := [.int 1, .int p0]) (rest := []) ⟨hx, hb, hml, hown, hta⟩ hK hN hPc hDc (ci := 12) rfl 0 rfl lk_X12_382 (c_X12_isText_1 l D cy s.heap.size md p0 m0 m1 m3 m4 m5 m6 m7 m8 m9 m10 m11 m12 m13 m14 m15 m16 m24 m26 m28 m30 m31 m35 m36 m38 m41 m42 m43 m44 m45 m46 m47 m48 ) rfl rfl ⟨Nat.le_of_ble_eq_true rfl, Nat.le_of_ble_eq_true rfl⟩ rfl hl.1 rfl (Nat.le_of_ble_eq_true rfl) dX12_hour_3 ⟨Nat.le_of_ble_eq_true rfl, Nat.le_of_ble_eq_true rfl⟩) (fun r_2 hw_1 => ?_)
  subst hw_1
  refine lv_if_eq (tgt := 26) hx hb dX12_hour_6 (by decide) (fun _ => ?_) (fun c => absurd c (by decide))
  refine lv_iconst (v := (-1)) hx hb dX12_hour_26 (by decide) ?_
  exact W.iret (v := (-1)) hx hb hr (fun t ht hW => ⟨_, rfl, rfl, ht⟩) (fun q h => by cases h) dX12_hour_27
set_option maxHeartbeats 4000000 in
set_option maxRecDepth 100000 in
theorem c_X12_said (l : Launch) (D : va_G) (cy : Nat → ClassId) (sz : Nat) (md : Nat) (p0 : Int32) (p1 : Int32) (p2 : Int32) (m0 : Nat) (m1 : Nat) (m3 : Nat) (m4 : Nat) (m5 : Nat) (m6 : Nat) (m7 : Nat) (m8 : Nat) (m9 : Nat) (m10 : Nat) (m11 : Nat) (m12 : Nat) (m13 : Nat) (m14 : Nat) (m15 : Nat) (m16 : Nat) (m24 : Nat) (m26 : Nat) (m28 : Nat) (m30 : Nat) (m31 : Nat) (m35 : Nat) (m36 : Nat) (m38 : Nat) (m41 : Nat) (m42 : Nat) (m43 : Nat) (m44 : Nat) (m45 : Nat) (m46 : Nat) (m47 : Nat) (m48 : Nat) (sd : Nat → Int32) (hsd : ∀ k : Nat, (k < 441 ∨ 7641 ≤ k) → sd k = 0) : Met l yX12_said (tl_w yX12_said cX12_said 4 (some .int)) ({ frames := 1, cells := 0, slots := 0, locals := 22 }) (va_Pc [.ref md, .int p0, .int p1, .int p2] (tl_P D cy [(md, .inr (12, [.ref m0, .ref m1, .int 0, .ref m3, .ref m4, .ref m5, .ref m6, .ref m7, .ref m8, .ref m9, .ref m10, .ref m11, .ref m12, .ref m13, .ref m14, .ref m15, .ref m16, .int 0, .int 0, .int 0, .int 0, .int 0, .int 0, .int 0, .ref m24, .int 0, .ref m26, .int 0, .ref m28, .long 0, .ref m30, .ref m31, .int 0, .int 0, .int 0, .ref m35, .ref m36, .int 0, .ref m38, .int 0, .int 0, .ref m41, .ref m42, .ref m43, .ref m44, .ref m45, .ref m46, .ref m47, .ref m48])), (m0, .inl (cy 0, 7666, .inl sd)), (m3, .inl (cy 0, 3, .inl (fun _ => 0)))] sz)) (vp_Si (fun r : Int32 => r = (-1))) 0 0 (fun _ => False) := by
  refine Met.ofW (cc := cX12_said) (maxL := 4) (ret := (some .int)) (by decide) rfl ?_
  intro p e s m args below meth c s₁ B hml hv
  obtain ⟨rfl, hsz, hP, hK, hD0, hN⟩ := hv
  have hx := B.exec
  have hb := B.bytes
  have hr := B.returns
  have hta := tl_hta (atoms_spec (ws := tl_w yX12_said cX12_said 4 (some .int)) B.pre)
  have hown : s.vm.findClass RX12 = some m.cls := findClass_of_methodNamed B.named
  have hlocks := B.notSynchronized
  subst hsz
  have hD := hD0
  have hP : va_P D vwCl [(md, .inr (12, [.ref m0, .ref m1, .int 0, .ref m3, .ref m4, .ref m5, .ref m6, .ref m7, .ref m8, .ref m9, .ref m10, .ref m11, .ref m12, .ref m13, .ref m14, .ref m15, .ref m16, .int 0, .int 0, .int 0, .int 0, .int 0, .int 0, .int 0, .ref m24, .int 0, .ref m26, .int 0, .ref m28, .long 0, .ref m30, .ref m31, .int 0, .int 0, .int 0, .ref m35, .ref m36, .int 0, .ref m38, .int 0, .int 0, .ref m41, .ref m42, .ref m43, .ref m44, .ref m45, .ref m46, .ref m47, .ref m48])), (m0, .inl (cy 0, 7666, .inl sd)), (m3, .inl (cy 0, 3, .inl (fun _ => 0)))] s.heap := hP
  have hl := lv_entry ([.ref md, .int p0, .int p1, .int p2]) (n := 4) (Nat.le_of_ble_eq_true rfl)
  rw [lg_entry_eq]
  generalize (lg_sl ([.ref md, .int p0, .int p1, .int p2]) ++ List.replicate (4 - (lg_sl ([.ref md, .int p0, .int p1, .int p2])).length) Slot.unset).toArray = ls at hl ⊢
  have hl : lv_has ls 4 [(0, .ref md), (1, .int p0), (2, .int p1), (3, .int p2)] := hl
  refine lv_aload_n hx hb dX12_said_0 rfl (lv_at hl 0 rfl) ?_
  refine lv_iconst (v := 1) hx hb dX12_said_1 (by decide) ?_
  refine lv_iload_n hx hb dX12_said_2 rfl (lv_at hl 1 rfl) ?_
  have hPc := hP.sub (ws' := [(md, .inr (12, [.ref m0, .ref m1, .int 0, .ref m3, .ref m4, .ref m5, .ref m6, .ref m7, .ref m8, .ref m9, .ref m10, .ref m11, .ref m12, .ref m13, .ref m14, .ref m15, .ref m16, .int 0, .int 0, .int 0, .int 0, .int 0, .int 0, .int 0, .ref m24, .int 0, .ref m26, .int 0, .ref m28, .long 0, .ref m30, .ref m31, .int 0, .int 0, .int 0, .ref m35, .ref m36, .int 0, .ref m38, .int 0, .int 0, .ref m41, .ref m42, .ref m43, .ref m44, .ref m45, .ref m46, .ref m47, .ref m48])), (m3, .inl (cy 0, 3, .inl (fun _ => 0)))]) [0, 2] rfl
  have hDc := hD.sub (ws' := [(md, .inr (12, [.ref m0, .ref m1, .int 0, .ref m3, .ref m4, .ref m5, .ref m6, .ref m7, .ref m8, .ref m9, .ref m10, .ref m11, .ref m12, .ref m13, .ref m14, .ref m15, .ref m16, .int 0, .int 0, .int 0, .int 0, .int 0, .int 0, .int 0, .ref m24, .int 0, .ref m26, .int 0, .ref m28, .long 0, .ref m30, .ref m31, .int 0, .int 0, .int 0, .ref m35, .ref m36, .int 0, .ref m38, .int 0, .int 0, .ref m41, .ref m42, .ref m43, .ref m44, .ref m45, .ref m46, .ref m47, .ref m48])), (m3, .inl (cy 0, 3, .inl (fun _ => 0)))]) [0, 2] (by decide) rfl
  refine tl_si (tl_rV (As := [.int 1, .int p0]) (rest := []) ⟨hx, hb, hml, hown, hta⟩ hK hN hPc hDc (ci := 12) rfl 0 rfl lk_X12_382 (c_X12_isText_1 l D cy s.heap.size md p0 m0 m1 m3 m4 m5 m6 m7 m8 m9 m10 m11 m12 m13 m14 m15 m16 m24 m26 m28 m30 m31 m35 m36 m38 m41 m42 m43 m44 m45 m46 m47 m48 ) rfl rfl ⟨Nat.le_of_ble_eq_true rfl, Nat.le_of_ble_eq_true rfl⟩ rfl hl.1 rfl (Nat.le_of_ble_eq_true rfl) dX12_said_3 ⟨Nat.le_of_ble_eq_true rfl, Nat.le_of_ble_eq_true rfl⟩) (fun r_2 hw_1 => ?_)
  subst hw_1
  refine lv_if_eq (tgt := 30) hx hb dX12_said_6 (by decide) (fun _ => ?_) (fun c => absurd c (by decide))
  refine lv_iconst (v := (-1)) hx hb dX12_said_30 (by decide) ?_
  exact W.iret (v := (-1)) hx hb hr (fun t ht hW => ⟨_, rfl, rfl, ht⟩) (fun q h => by cases h) dX12_said_31
set_option maxHeartbeats 4000000 in
set_option maxRecDepth 100000 in
theorem c_X12_weeks (l : Launch) (D : va_G) (cy : Nat → ClassId) (sz : Nat) (md : Nat) (p0 : Int32) (p1 : Int32) (p2 : Int32) (p3 : Int32) (p4 : Int32) (p5 : Int32) (m0 : Nat) (m1 : Nat) (m3 : Nat) (m4 : Nat) (m5 : Nat) (m6 : Nat) (m7 : Nat) (m8 : Nat) (m9 : Nat) (m10 : Nat) (m11 : Nat) (m12 : Nat) (m13 : Nat) (m14 : Nat) (m15 : Nat) (m16 : Nat) (m24 : Nat) (m26 : Nat) (m28 : Nat) (m30 : Nat) (m31 : Nat) (m35 : Nat) (m36 : Nat) (m38 : Nat) (m41 : Nat) (m42 : Nat) (m43 : Nat) (m44 : Nat) (m45 : Nat) (m46 : Nat) (m47 : Nat) (m48 : Nat) (sd : Nat → Int32) (hsd : ∀ k : Nat, (k < 441 ∨ 7641 ≤ k) → sd k = 0) : Met l yX12_weeks (tl_w yX12_weeks cX12_weeks 12 (some .int)) ({ frames := 1, cells := 0, slots := 0, locals := 22 }) (va_Pc [.ref md, .int p0, .int p1, .int p2, .int p3, .int p4, .int p5] (tl_P D cy [(md, .inr (12, [.ref m0, .ref m1, .int 0, .ref m3, .ref m4, .ref m5, .ref m6, .ref m7, .ref m8, .ref m9, .ref m10, .ref m11, .ref m12, .ref m13, .ref m14, .ref m15, .ref m16, .int 0, .int 0, .int 0, .int 0, .int 0, .int 0, .int 0, .ref m24, .int 0, .ref m26, .int 0, .ref m28, .long 0, .ref m30, .ref m31, .int 0, .int 0, .int 0, .ref m35, .ref m36, .int 0, .ref m38, .int 0, .int 0, .ref m41, .ref m42, .ref m43, .ref m44, .ref m45, .ref m46, .ref m47, .ref m48])), (m0, .inl (cy 0, 7666, .inl sd)), (m3, .inl (cy 0, 3, .inl (fun _ => 0)))] sz)) (vp_Si (fun r : Int32 => r = (-1))) 0 0 (fun _ => False) := by
  refine Met.ofW (cc := cX12_weeks) (maxL := 12) (ret := (some .int)) (by decide) rfl ?_
  intro p e s m args below meth c s₁ B hml hv
  obtain ⟨rfl, hsz, hP, hK, hD0, hN⟩ := hv
  have hx := B.exec
  have hb := B.bytes
  have hr := B.returns
  have hta := tl_hta (atoms_spec (ws := tl_w yX12_weeks cX12_weeks 12 (some .int)) B.pre)
  have hown : s.vm.findClass RX12 = some m.cls := findClass_of_methodNamed B.named
  have hlocks := B.notSynchronized
  subst hsz
  have hD := hD0
  have hP : va_P D vwCl [(md, .inr (12, [.ref m0, .ref m1, .int 0, .ref m3, .ref m4, .ref m5, .ref m6, .ref m7, .ref m8, .ref m9, .ref m10, .ref m11, .ref m12, .ref m13, .ref m14, .ref m15, .ref m16, .int 0, .int 0, .int 0, .int 0, .int 0, .int 0, .int 0, .ref m24, .int 0, .ref m26, .int 0, .ref m28, .long 0, .ref m30, .ref m31, .int 0, .int 0, .int 0, .ref m35, .ref m36, .int 0, .ref m38, .int 0, .int 0, .ref m41, .ref m42, .ref m43, .ref m44, .ref m45, .ref m46, .ref m47, .ref m48])), (m0, .inl (cy 0, 7666, .inl sd)), (m3, .inl (cy 0, 3, .inl (fun _ => 0)))] s.heap := hP
  have hl := lv_entry ([.ref md, .int p0, .int p1, .int p2, .int p3, .int p4, .int p5]) (n := 12) (Nat.le_of_ble_eq_true rfl)
  rw [lg_entry_eq]
  generalize (lg_sl ([.ref md, .int p0, .int p1, .int p2, .int p3, .int p4, .int p5]) ++ List.replicate (12 - (lg_sl ([.ref md, .int p0, .int p1, .int p2, .int p3, .int p4, .int p5])).length) Slot.unset).toArray = ls at hl ⊢
  have hl : lv_has ls 12 [(0, .ref md), (1, .int p0), (2, .int p1), (3, .int p2), (4, .int p3), (5, .int p4), (6, .int p5)] := hl
  refine lv_aload_n hx hb dX12_weeks_0 rfl (lv_at hl 0 rfl) ?_
  refine lv_iconst (v := 1) hx hb dX12_weeks_1 (by decide) ?_
  refine lv_iload_n hx hb dX12_weeks_2 rfl (lv_at hl 1 rfl) ?_
  have hPc := hP.sub (ws' := [(md, .inr (12, [.ref m0, .ref m1, .int 0, .ref m3, .ref m4, .ref m5, .ref m6, .ref m7, .ref m8, .ref m9, .ref m10, .ref m11, .ref m12, .ref m13, .ref m14, .ref m15, .ref m16, .int 0, .int 0, .int 0, .int 0, .int 0, .int 0, .int 0, .ref m24, .int 0, .ref m26, .int 0, .ref m28, .long 0, .ref m30, .ref m31, .int 0, .int 0, .int 0, .ref m35, .ref m36, .int 0, .ref m38, .int 0, .int 0, .ref m41, .ref m42, .ref m43, .ref m44, .ref m45, .ref m46, .ref m47, .ref m48])), (m3, .inl (cy 0, 3, .inl (fun _ => 0)))]) [0, 2] rfl
  have hDc := hD.sub (ws' := [(md, .inr (12, [.ref m0, .ref m1, .int 0, .ref m3, .ref m4, .ref m5, .ref m6, .ref m7, .ref m8, .ref m9, .ref m10, .ref m11, .ref m12, .ref m13, .ref m14, .ref m15, .ref m16, .int 0, .int 0, .int 0, .int 0, .int 0, .int 0, .int 0, .ref m24, .int 0, .ref m26, .int 0, .ref m28, .long 0, .ref m30, .ref m31, .int 0, .int 0, .int 0, .ref m35, .ref m36, .int 0, .ref m38, .int 0, .int 0, .ref m41, .ref m42, .ref m43, .ref m44, .ref m45, .ref m46, .ref m47, .ref m48])), (m3, .inl (cy 0, 3, .inl (fun _ => 0)))]) [0, 2] (by decide) rfl
  refine tl_si (tl_rV (As := [.int 1, .int p0]) (rest := []) ⟨hx, hb, hml, hown, hta⟩ hK hN hPc hDc (ci := 12) rfl 0 rfl lk_X12_382 (c_X12_isText_1 l D cy s.heap.size md p0 m0 m1 m3 m4 m5 m6 m7 m8 m9 m10 m11 m12 m13 m14 m15 m16 m24 m26 m28 m30 m31 m35 m36 m38 m41 m42 m43 m44 m45 m46 m47 m48 ) rfl rfl ⟨Nat.le_of_ble_eq_true rfl, Nat.le_of_ble_eq_true rfl⟩ rfl hl.1 rfl (Nat.le_of_ble_eq_true rfl) dX12_weeks_3 ⟨Nat.le_of_ble_eq_true rfl, Nat.le_of_ble_eq_true rfl⟩) (fun r_2 hw_1 => ?_)
  subst hw_1
  refine lv_if_eq (tgt := 75) hx hb dX12_weeks_6 (by decide) (fun _ => ?_) (fun c => absurd c (by decide))
  refine lv_iconst (v := (-1)) hx hb dX12_weeks_75 (by decide) ?_
  exact W.iret (v := (-1)) hx hb hr (fun t ht hW => ⟨_, rfl, rfl, ht⟩) (fun q h => by cases h) dX12_weeks_76
set_option maxHeartbeats 4000000 in
set_option maxRecDepth 100000 in
theorem c_X12_odd (l : Launch) (D : va_G) (cy : Nat → ClassId) (sz : Nat) (md : Nat) (p0 : Int32) (p1 : Int32) (m0 : Nat) (m1 : Nat) (m3 : Nat) (m4 : Nat) (m5 : Nat) (m6 : Nat) (m7 : Nat) (m8 : Nat) (m9 : Nat) (m10 : Nat) (m11 : Nat) (m12 : Nat) (m13 : Nat) (m14 : Nat) (m15 : Nat) (m16 : Nat) (m24 : Nat) (m26 : Nat) (m28 : Nat) (m30 : Nat) (m31 : Nat) (m35 : Nat) (m36 : Nat) (m38 : Nat) (m41 : Nat) (m42 : Nat) (m43 : Nat) (m44 : Nat) (m45 : Nat) (m46 : Nat) (m47 : Nat) (m48 : Nat) (sd : Nat → Int32) (hsd : ∀ k : Nat, (k < 441 ∨ 7641 ≤ k) → sd k = 0) : Met l yX12_odd (tl_w yX12_odd cX12_odd 9 (some .int)) ({ frames := 1, cells := 0, slots := 0, locals := 22 }) (va_Pc [.ref md, .int p0, .int p1] (tl_P D cy [(md, .inr (12, [.ref m0, .ref m1, .int 0, .ref m3, .ref m4, .ref m5, .ref m6, .ref m7, .ref m8, .ref m9, .ref m10, .ref m11, .ref m12, .ref m13, .ref m14, .ref m15, .ref m16, .int 0, .int 0, .int 0, .int 0, .int 0, .int 0, .int 0, .ref m24, .int 0, .ref m26, .int 0, .ref m28, .long 0, .ref m30, .ref m31, .int 0, .int 0, .int 0, .ref m35, .ref m36, .int 0, .ref m38, .int 0, .int 0, .ref m41, .ref m42, .ref m43, .ref m44, .ref m45, .ref m46, .ref m47, .ref m48])), (m0, .inl (cy 0, 7666, .inl sd)), (m3, .inl (cy 0, 3, .inl (fun _ => 0)))] sz)) (vp_Si (fun r : Int32 => r = (-1))) 0 0 (fun _ => False) := by
  refine Met.ofW (cc := cX12_odd) (maxL := 9) (ret := (some .int)) (by decide) rfl ?_
  intro p e s m args below meth c s₁ B hml hv
  obtain ⟨rfl, hsz, hP, hK, hD0, hN⟩ := hv
  have hx := B.exec
  have hb := B.bytes
  have hr := B.returns
  have hta := tl_hta (atoms_spec (ws := tl_w yX12_odd cX12_odd 9 (some .int)) B.pre)
  have hown : s.vm.findClass RX12 = some m.cls := findClass_of_methodNamed B.named
  have hlocks := B.notSynchronized
  subst hsz
  have hD := hD0
  have hP : va_P D vwCl [(md, .inr (12, [.ref m0, .ref m1, .int 0, .ref m3, .ref m4, .ref m5, .ref m6, .ref m7, .ref m8, .ref m9, .ref m10, .ref m11, .ref m12, .ref m13, .ref m14, .ref m15, .ref m16, .int 0, .int 0, .int 0, .int 0, .int 0, .int 0, .int 0, .ref m24, .int 0, .ref m26, .int 0, .ref m28, .long 0, .ref m30, .ref m31, .int 0, .int 0, .int 0, .ref m35, .ref m36, .int 0, .ref m38, .int 0, .int 0, .ref m41, .ref m42, .ref m43, .ref m44, .ref m45, .ref m46, .ref m47, .ref m48])), (m0, .inl (cy 0, 7666, .inl sd)), (m3, .inl (cy 0, 3, .inl (fun _ => 0)))] s.heap := hP
  have hl := lv_entry ([.ref md, .int p0, .int p1]) (n := 9) (Nat.le_of_ble_eq_true rfl)
  rw [lg_entry_eq]
  generalize (lg_sl ([.ref md, .int p0, .int p1]) ++ List.replicate (9 - (lg_sl ([.ref md, .int p0, .int p1])).length) Slot.unset).toArray = ls at hl ⊢
  have hl : lv_has ls 9 [(0, .ref md), (1, .int p0), (2, .int p1)] := hl
  refine lv_aload_n hx hb dX12_odd_0 rfl (lv_at hl 0 rfl) ?_
  refine lv_iconst (v := 1) hx hb dX12_odd_1 (by decide) ?_
  refine lv_iload_n hx hb dX12_odd_2 rfl (lv_at hl 1 rfl) ?_
  have hPc := hP.sub (ws' := [(md, .inr (12, [.ref m0, .ref m1, .int 0, .ref m3, .ref m4, .ref m5, .ref m6, .ref m7, .ref m8, .ref m9, .ref m10, .ref m11, .ref m12, .ref m13, .ref m14, .ref m15, .ref m16, .int 0, .int 0, .int 0, .int 0, .int 0, .int 0, .int 0, .ref m24, .int 0, .ref m26, .int 0, .ref m28, .long 0, .ref m30, .ref m31, .int 0, .int 0, .int 0, .ref m35, .ref m36, .int 0, .ref m38, .int 0, .int 0, .ref m41, .ref m42, .ref m43, .ref m44, .ref m45, .ref m46, .ref m47, .ref m48])), (m3, .inl (cy 0, 3, .inl (fun _ => 0)))]) [0, 2] rfl
  have hDc := hD.sub (ws' := [(md, .inr (12, [.ref m0, .ref m1, .int 0, .ref m3, .ref m4, .ref m5, .ref m6, .ref m7, .ref m8, .ref m9, .ref m10, .ref m11, .ref m12, .ref m13, .ref m14, .ref m15, .ref m16, .int 0, .int 0, .int 0, .int 0, .int 0, .int 0, .int 0, .ref m24, .int 0, .ref m26, .int 0, .ref m28, .long 0, .ref m30, .ref m31, .int 0, .int 0, .int 0, .ref m35, .ref m36, .int 0, .ref m38, .int 0, .int 0, .ref m41, .ref m42, .ref m43, .ref m44, .ref m45, .ref m46, .ref m47, .ref m48])), (m3, .inl (cy 0, 3, .inl (fun _ => 0)))]) [0, 2] (by decide) rfl
  refine tl_si (tl_rV (As := [.int 1, .int p0]) (rest := []) ⟨hx, hb, hml, hown, hta⟩ hK hN hPc hDc (ci := 12) rfl 0 rfl lk_X12_382 (c_X12_isText_1 l D cy s.heap.size md p0 m0 m1 m3 m4 m5 m6 m7 m8 m9 m10 m11 m12 m13 m14 m15 m16 m24 m26 m28 m30 m31 m35 m36 m38 m41 m42 m43 m44 m45 m46 m47 m48 ) rfl rfl ⟨Nat.le_of_ble_eq_true rfl, Nat.le_of_ble_eq_true rfl⟩ rfl hl.1 rfl (Nat.le_of_ble_eq_true rfl) dX12_odd_3 ⟨Nat.le_of_ble_eq_true rfl, Nat.le_of_ble_eq_true rfl⟩) (fun r_2 hw_1 => ?_)
  subst hw_1
  refine lv_if_eq (tgt := 21) hx hb dX12_odd_6 (by decide) (fun _ => ?_) (fun c => absurd c (by decide))
  refine lv_iconst (v := (-1)) hx hb dX12_odd_21 (by decide) ?_
  exact W.iret (v := (-1)) hx hb hr (fun t ht hW => ⟨_, rfl, rfl, ht⟩) (fun q h => by cases h) dX12_odd_22
set_option maxHeartbeats 4000000 in
set_option maxRecDepth 100000 in
theorem c_X12_ripple (l : Launch) (D : va_G) (cy : Nat → ClassId) (sz : Nat) (md : Nat) (p0 : Int32) (p1 : Int32) (p2 : Int32) (m0 : Nat) (m1 : Nat) (m3 : Nat) (m4 : Nat) (m5 : Nat) (m6 : Nat) (m7 : Nat) (m8 : Nat) (m9 : Nat) (m10 : Nat) (m11 : Nat) (m12 : Nat) (m13 : Nat) (m14 : Nat) (m15 : Nat) (m16 : Nat) (m24 : Nat) (m26 : Nat) (m28 : Nat) (m30 : Nat) (m31 : Nat) (m35 : Nat) (m36 : Nat) (m38 : Nat) (m41 : Nat) (m42 : Nat) (m43 : Nat) (m44 : Nat) (m45 : Nat) (m46 : Nat) (m47 : Nat) (m48 : Nat) (sd : Nat → Int32) (hsd : ∀ k : Nat, (k < 441 ∨ 7641 ≤ k) → sd k = 0) : Met l yX12_ripple (tl_w yX12_ripple cX12_ripple 5 (some .long)) ({ frames := 2, cells := 0, slots := 0, locals := 44 }) (va_Pc [.ref md, .int p0, .int p1, .int p2] (tl_P D cy [(md, .inr (12, [.ref m0, .ref m1, .int 0, .ref m3, .ref m4, .ref m5, .ref m6, .ref m7, .ref m8, .ref m9, .ref m10, .ref m11, .ref m12, .ref m13, .ref m14, .ref m15, .ref m16, .int 0, .int 0, .int 0, .int 0, .int 0, .int 0, .int 0, .ref m24, .int 0, .ref m26, .int 0, .ref m28, .long 0, .ref m30, .ref m31, .int 0, .int 0, .int 0, .ref m35, .ref m36, .int 0, .ref m38, .int 0, .int 0, .ref m41, .ref m42, .ref m43, .ref m44, .ref m45, .ref m46, .ref m47, .ref m48])), (m0, .inl (cy 0, 7666, .inl sd)), (m3, .inl (cy 0, 3, .inl (fun _ => 0)))] sz)) (vp_Sl (fun r : Int64 => r = (-2))) 0 0 (fun _ => False) := by
  refine Met.ofW (cc := cX12_ripple) (maxL := 5) (ret := (some .long)) (by decide) rfl ?_
  intro p e s m args below meth c s₁ B hml hv
  obtain ⟨rfl, hsz, hP, hK, hD0, hN⟩ := hv
  have hx := B.exec
  have hb := B.bytes
  have hr := B.returns
  have hta := tl_hta (atoms_spec (ws := tl_w yX12_ripple cX12_ripple 5 (some .long)) B.pre)
  have hown : s.vm.findClass RX12 = some m.cls := findClass_of_methodNamed B.named
  have hlocks := B.notSynchronized
  subst hsz
  have hD := hD0
  have hP : va_P D vwCl [(md, .inr (12, [.ref m0, .ref m1, .int 0, .ref m3, .ref m4, .ref m5, .ref m6, .ref m7, .ref m8, .ref m9, .ref m10, .ref m11, .ref m12, .ref m13, .ref m14, .ref m15, .ref m16, .int 0, .int 0, .int 0, .int 0, .int 0, .int 0, .int 0, .ref m24, .int 0, .ref m26, .int 0, .ref m28, .long 0, .ref m30, .ref m31, .int 0, .int 0, .int 0, .ref m35, .ref m36, .int 0, .ref m38, .int 0, .int 0, .ref m41, .ref m42, .ref m43, .ref m44, .ref m45, .ref m46, .ref m47, .ref m48])), (m0, .inl (cy 0, 7666, .inl sd)), (m3, .inl (cy 0, 3, .inl (fun _ => 0)))] s.heap := hP
  have hl := lv_entry ([.ref md, .int p0, .int p1, .int p2]) (n := 5) (Nat.le_of_ble_eq_true rfl)
  rw [lg_entry_eq]
  generalize (lg_sl ([.ref md, .int p0, .int p1, .int p2]) ++ List.replicate (5 - (lg_sl ([.ref md, .int p0, .int p1, .int p2])).length) Slot.unset).toArray = ls at hl ⊢
  have hl : lv_has ls 5 [(0, .ref md), (1, .int p0), (2, .int p1), (3, .int p2)] := hl
  refine lv_aload_n hx hb dX12_ripple_0 rfl (lv_at hl 0 rfl) ?_
  refine lv_iload_n hx hb dX12_ripple_1 rfl (lv_at hl 1 rfl) ?_
  refine lv_iload_n hx hb dX12_ripple_2 rfl (lv_at hl 2 rfl) ?_
  refine tl_si (tl_rV (As := [.int p0, .int p1]) (rest := []) ⟨hx, hb, hml, hown, hta⟩ hK hN hP hD (ci := 12) rfl 0 rfl lk_X12_447 (c_X12_canAsk l D cy s.heap.size md p0 p1 m0 m1 m3 m4 m5 m6 m7 m8 m9 m10 m11 m12 m13 m14 m15 m16 m24 m26 m28 m30 m31 m35 m36 m38 m41 m42 m43 m44 m45 m46 m47 m48 sd hsd) rfl rfl ⟨Nat.le_of_ble_eq_true rfl, Nat.le_of_ble_eq_true rfl⟩ rfl hl.1 rfl (Nat.le_of_ble_eq_true rfl) dX12_ripple_3 ⟨Nat.le_of_ble_eq_true rfl, Nat.le_of_ble_eq_true rfl⟩) (fun r_2 hw_1 => ?_)
  subst hw_1
  refine lv_if_eq (tgt := 19) hx hb dX12_ripple_6 (by decide) (fun _ => ?_) (fun c => absurd c (by decide))
  refine lv_ldc2 (v := (-2)) hx hb hown (hta _ wk_1124) dX12_ripple_19 ?_
  exact W.lret (v := (-2)) hx hb hr (fun t ht hW => ⟨_, rfl, rfl, ht⟩) (fun q h => by cases h) dX12_ripple_22
set_option maxHeartbeats 4000000 in
set_option maxRecDepth 100000 in
theorem c_X12_smooth (l : Launch) (D : va_G) (cy : Nat → ClassId) (sz : Nat) (md : Nat) (p0 : Int32) (p1 : Int32) (m0 : Nat) (m1 : Nat) (m3 : Nat) (m4 : Nat) (m5 : Nat) (m6 : Nat) (m7 : Nat) (m8 : Nat) (m9 : Nat) (m10 : Nat) (m11 : Nat) (m12 : Nat) (m13 : Nat) (m14 : Nat) (m15 : Nat) (m16 : Nat) (m24 : Nat) (m26 : Nat) (m28 : Nat) (m30 : Nat) (m31 : Nat) (m35 : Nat) (m36 : Nat) (m38 : Nat) (m41 : Nat) (m42 : Nat) (m43 : Nat) (m44 : Nat) (m45 : Nat) (m46 : Nat) (m47 : Nat) (m48 : Nat) (sd : Nat → Int32) (hsd : ∀ k : Nat, (k < 441 ∨ 7641 ≤ k) → sd k = 0) : Met l yX12_smooth (tl_w yX12_smooth cX12_smooth 5 (some .int)) ({ frames := 2, cells := 0, slots := 0, locals := 44 }) (va_Pc [.ref md, .int p0, .int p1] (tl_P D cy [(md, .inr (12, [.ref m0, .ref m1, .int 0, .ref m3, .ref m4, .ref m5, .ref m6, .ref m7, .ref m8, .ref m9, .ref m10, .ref m11, .ref m12, .ref m13, .ref m14, .ref m15, .ref m16, .int 0, .int 0, .int 0, .int 0, .int 0, .int 0, .int 0, .ref m24, .int 0, .ref m26, .int 0, .ref m28, .long 0, .ref m30, .ref m31, .int 0, .int 0, .int 0, .ref m35, .ref m36, .int 0, .ref m38, .int 0, .int 0, .ref m41, .ref m42, .ref m43, .ref m44, .ref m45, .ref m46, .ref m47, .ref m48])), (m0, .inl (cy 0, 7666, .inl sd)), (m3, .inl (cy 0, 3, .inl (fun _ => 0)))] sz)) (vp_Si (fun r : Int32 => r = (-2000000))) 0 0 (fun _ => False) := by
  refine Met.ofW (cc := cX12_smooth) (maxL := 5) (ret := (some .int)) (by decide) rfl ?_
  intro p e s m args below meth c s₁ B hml hv
  obtain ⟨rfl, hsz, hP, hK, hD0, hN⟩ := hv
  have hx := B.exec
  have hb := B.bytes
  have hr := B.returns
  have hta := tl_hta (atoms_spec (ws := tl_w yX12_smooth cX12_smooth 5 (some .int)) B.pre)
  have hown : s.vm.findClass RX12 = some m.cls := findClass_of_methodNamed B.named
  have hlocks := B.notSynchronized
  subst hsz
  have hD := hD0
  have hP : va_P D vwCl [(md, .inr (12, [.ref m0, .ref m1, .int 0, .ref m3, .ref m4, .ref m5, .ref m6, .ref m7, .ref m8, .ref m9, .ref m10, .ref m11, .ref m12, .ref m13, .ref m14, .ref m15, .ref m16, .int 0, .int 0, .int 0, .int 0, .int 0, .int 0, .int 0, .ref m24, .int 0, .ref m26, .int 0, .ref m28, .long 0, .ref m30, .ref m31, .int 0, .int 0, .int 0, .ref m35, .ref m36, .int 0, .ref m38, .int 0, .int 0, .ref m41, .ref m42, .ref m43, .ref m44, .ref m45, .ref m46, .ref m47, .ref m48])), (m0, .inl (cy 0, 7666, .inl sd)), (m3, .inl (cy 0, 3, .inl (fun _ => 0)))] s.heap := hP
  have hl := lv_entry ([.ref md, .int p0, .int p1]) (n := 5) (Nat.le_of_ble_eq_true rfl)
  rw [lg_entry_eq]
  generalize (lg_sl ([.ref md, .int p0, .int p1]) ++ List.replicate (5 - (lg_sl ([.ref md, .int p0, .int p1])).length) Slot.unset).toArray = ls at hl ⊢
  have hl : lv_has ls 5 [(0, .ref md), (1, .int p0), (2, .int p1)] := hl
  refine lv_aload_n hx hb dX12_smooth_0 rfl (lv_at hl 0 rfl) ?_
  refine lv_iload_n hx hb dX12_smooth_1 rfl (lv_at hl 1 rfl) ?_
  refine lv_iload_n hx hb dX12_smooth_2 rfl (lv_at hl 2 rfl) ?_
  refine tl_si (tl_rV (As := [.int p0, .int p1]) (rest := []) ⟨hx, hb, hml, hown, hta⟩ hK hN hP hD (ci := 12) rfl 0 rfl lk_X12_447 (c_X12_canAsk l D cy s.heap.size md p0 p1 m0 m1 m3 m4 m5 m6 m7 m8 m9 m10 m11 m12 m13 m14 m15 m16 m24 m26 m28 m30 m31 m35 m36 m38 m41 m42 m43 m44 m45 m46 m47 m48 sd hsd) rfl rfl ⟨Nat.le_of_ble_eq_true rfl, Nat.le_of_ble_eq_true rfl⟩ rfl hl.1 rfl (Nat.le_of_ble_eq_true rfl) dX12_smooth_3 ⟨Nat.le_of_ble_eq_true rfl, Nat.le_of_ble_eq_true rfl⟩) (fun r_2 hw_1 => ?_)
  subst hw_1
  refine lv_if_ne (tgt := 12) hx hb dX12_smooth_6 (by decide) (fun c => absurd c (by decide)) (fun _ => ?_)
  refine lv_ldc (v := (-2000000)) hx hb hown (hta _ wk_248) dX12_smooth_9 ?_
  exact W.iret (v := (-2000000)) hx hb hr (fun t ht hW => ⟨_, rfl, rfl, ht⟩) (fun q h => by cases h) dX12_smooth_11
set_option maxHeartbeats 4000000 in
set_option maxRecDepth 100000 in
theorem c_X12_without (l : Launch) (D : va_G) (cy : Nat → ClassId) (sz : Nat) (md : Nat) (p0 : Int32) (p1 : Int32) (p2 : Int32) (m0 : Nat) (m1 : Nat) (m3 : Nat) (m4 : Nat) (m5 : Nat) (m6 : Nat) (m7 : Nat) (m8 : Nat) (m9 : Nat) (m10 : Nat) (m11 : Nat) (m12 : Nat) (m13 : Nat) (m14 : Nat) (m15 : Nat) (m16 : Nat) (m24 : Nat) (m26 : Nat) (m28 : Nat) (m30 : Nat) (m31 : Nat) (m35 : Nat) (m36 : Nat) (m38 : Nat) (m41 : Nat) (m42 : Nat) (m43 : Nat) (m44 : Nat) (m45 : Nat) (m46 : Nat) (m47 : Nat) (m48 : Nat) (sd : Nat → Int32) (hsd : ∀ k : Nat, (k < 441 ∨ 7641 ≤ k) → sd k = 0) : Met l yX12_without (tl_w yX12_without cX12_without 4 (some .int)) ({ frames := 2, cells := 0, slots := 0, locals := 44 }) (va_Pc [.ref md, .int p0, .int p1, .int p2] (tl_P D cy [(md, .inr (12, [.ref m0, .ref m1, .int 0, .ref m3, .ref m4, .ref m5, .ref m6, .ref m7, .ref m8, .ref m9, .ref m10, .ref m11, .ref m12, .ref m13, .ref m14, .ref m15, .ref m16, .int 0, .int 0, .int 0, .int 0, .int 0, .int 0, .int 0, .ref m24, .int 0, .ref m26, .int 0, .ref m28, .long 0, .ref m30, .ref m31, .int 0, .int 0, .int 0, .ref m35, .ref m36, .int 0, .ref m38, .int 0, .int 0, .ref m41, .ref m42, .ref m43, .ref m44, .ref m45, .ref m46, .ref m47, .ref m48])), (m0, .inl (cy 0, 7666, .inl sd)), (m3, .inl (cy 0, 3, .inl (fun _ => 0)))] sz)) (vp_Si (fun r : Int32 => r = (-2000000))) 0 0 (fun _ => False) := by
  refine Met.ofW (cc := cX12_without) (maxL := 4) (ret := (some .int)) (by decide) rfl ?_
  intro p e s m args below meth c s₁ B hml hv
  obtain ⟨rfl, hsz, hP, hK, hD0, hN⟩ := hv
  have hx := B.exec
  have hb := B.bytes
  have hr := B.returns
  have hta := tl_hta (atoms_spec (ws := tl_w yX12_without cX12_without 4 (some .int)) B.pre)
  have hown : s.vm.findClass RX12 = some m.cls := findClass_of_methodNamed B.named
  have hlocks := B.notSynchronized
  subst hsz
  have hD := hD0
  have hP : va_P D vwCl [(md, .inr (12, [.ref m0, .ref m1, .int 0, .ref m3, .ref m4, .ref m5, .ref m6, .ref m7, .ref m8, .ref m9, .ref m10, .ref m11, .ref m12, .ref m13, .ref m14, .ref m15, .ref m16, .int 0, .int 0, .int 0, .int 0, .int 0, .int 0, .int 0, .ref m24, .int 0, .ref m26, .int 0, .ref m28, .long 0, .ref m30, .ref m31, .int 0, .int 0, .int 0, .ref m35, .ref m36, .int 0, .ref m38, .int 0, .int 0, .ref m41, .ref m42, .ref m43, .ref m44, .ref m45, .ref m46, .ref m47, .ref m48])), (m0, .inl (cy 0, 7666, .inl sd)), (m3, .inl (cy 0, 3, .inl (fun _ => 0)))] s.heap := hP
  have hl := lv_entry ([.ref md, .int p0, .int p1, .int p2]) (n := 4) (Nat.le_of_ble_eq_true rfl)
  rw [lg_entry_eq]
  generalize (lg_sl ([.ref md, .int p0, .int p1, .int p2]) ++ List.replicate (4 - (lg_sl ([.ref md, .int p0, .int p1, .int p2])).length) Slot.unset).toArray = ls at hl ⊢
  have hl : lv_has ls 4 [(0, .ref md), (1, .int p0), (2, .int p1), (3, .int p2)] := hl
  refine lv_aload_n hx hb dX12_without_0 rfl (lv_at hl 0 rfl) ?_
  refine lv_iload_n hx hb dX12_without_1 rfl (lv_at hl 1 rfl) ?_
  refine lv_iload_n hx hb dX12_without_2 rfl (lv_at hl 2 rfl) ?_
  refine tl_si (tl_rV (As := [.int p0, .int p1]) (rest := []) ⟨hx, hb, hml, hown, hta⟩ hK hN hP hD (ci := 12) rfl 0 rfl lk_X12_447 (c_X12_canAsk l D cy s.heap.size md p0 p1 m0 m1 m3 m4 m5 m6 m7 m8 m9 m10 m11 m12 m13 m14 m15 m16 m24 m26 m28 m30 m31 m35 m36 m38 m41 m42 m43 m44 m45 m46 m47 m48 sd hsd) rfl rfl ⟨Nat.le_of_ble_eq_true rfl, Nat.le_of_ble_eq_true rfl⟩ rfl hl.1 rfl (Nat.le_of_ble_eq_true rfl) dX12_without_3 ⟨Nat.le_of_ble_eq_true rfl, Nat.le_of_ble_eq_true rfl⟩) (fun r_2 hw_1 => ?_)
  subst hw_1
  refine lv_if_eq (tgt := 38) hx hb dX12_without_6 (by decide) (fun _ => ?_) (fun c => absurd c (by decide))
  refine lv_ldc (v := (-2000000)) hx hb hown (hta _ wk_248) dX12_without_38 ?_
  exact W.iret (v := (-2000000)) hx hb hr (fun t ht hW => ⟨_, rfl, rfl, ht⟩) (fun q h => by cases h) dX12_without_40
set_option maxHeartbeats 4000000 in
set_option maxRecDepth 100000 in
theorem c_X12_weightiest (l : Launch) (D : va_G) (cy : Nat → ClassId) (sz : Nat) (md : Nat) (p0 : Int32) (p1 : Int32) (m0 : Nat) (m1 : Nat) (m3 : Nat) (m4 : Nat) (m5 : Nat) (m6 : Nat) (m7 : Nat) (m8 : Nat) (m9 : Nat) (m10 : Nat) (m11 : Nat) (m12 : Nat) (m13 : Nat) (m14 : Nat) (m15 : Nat) (m16 : Nat) (m24 : Nat) (m26 : Nat) (m28 : Nat) (m30 : Nat) (m31 : Nat) (m35 : Nat) (m36 : Nat) (m38 : Nat) (m41 : Nat) (m42 : Nat) (m43 : Nat) (m44 : Nat) (m45 : Nat) (m46 : Nat) (m47 : Nat) (m48 : Nat) (sd : Nat → Int32) (hsd : ∀ k : Nat, (k < 441 ∨ 7641 ≤ k) → sd k = 0) : Met l yX12_weightiest (tl_w yX12_weightiest cX12_weightiest 11 (some .int)) ({ frames := 2, cells := 0, slots := 0, locals := 44 }) (va_Pc [.ref md, .int p0, .int p1] (tl_P D cy [(md, .inr (12, [.ref m0, .ref m1, .int 0, .ref m3, .ref m4, .ref m5, .ref m6, .ref m7, .ref m8, .ref m9, .ref m10, .ref m11, .ref m12, .ref m13, .ref m14, .ref m15, .ref m16, .int 0, .int 0, .int 0, .int 0, .int 0, .int 0, .int 0, .ref m24, .int 0, .ref m26, .int 0, .ref m28, .long 0, .ref m30, .ref m31, .int 0, .int 0, .int 0, .ref m35, .ref m36, .int 0, .ref m38, .int 0, .int 0, .ref m41, .ref m42, .ref m43, .ref m44, .ref m45, .ref m46, .ref m47, .ref m48])), (m0, .inl (cy 0, 7666, .inl sd)), (m3, .inl (cy 0, 3, .inl (fun _ => 0)))] sz)) (vp_Si (fun r : Int32 => r = (-1))) 0 0 (fun _ => False) := by
  refine Met.ofW (cc := cX12_weightiest) (maxL := 11) (ret := (some .int)) (by decide) rfl ?_
  intro p e s m args below meth c s₁ B hml hv
  obtain ⟨rfl, hsz, hP, hK, hD0, hN⟩ := hv
  have hx := B.exec
  have hb := B.bytes
  have hr := B.returns
  have hta := tl_hta (atoms_spec (ws := tl_w yX12_weightiest cX12_weightiest 11 (some .int)) B.pre)
  have hown : s.vm.findClass RX12 = some m.cls := findClass_of_methodNamed B.named
  have hlocks := B.notSynchronized
  subst hsz
  have hD := hD0
  have hP : va_P D vwCl [(md, .inr (12, [.ref m0, .ref m1, .int 0, .ref m3, .ref m4, .ref m5, .ref m6, .ref m7, .ref m8, .ref m9, .ref m10, .ref m11, .ref m12, .ref m13, .ref m14, .ref m15, .ref m16, .int 0, .int 0, .int 0, .int 0, .int 0, .int 0, .int 0, .ref m24, .int 0, .ref m26, .int 0, .ref m28, .long 0, .ref m30, .ref m31, .int 0, .int 0, .int 0, .ref m35, .ref m36, .int 0, .ref m38, .int 0, .int 0, .ref m41, .ref m42, .ref m43, .ref m44, .ref m45, .ref m46, .ref m47, .ref m48])), (m0, .inl (cy 0, 7666, .inl sd)), (m3, .inl (cy 0, 3, .inl (fun _ => 0)))] s.heap := hP
  have hl := lv_entry ([.ref md, .int p0, .int p1]) (n := 11) (Nat.le_of_ble_eq_true rfl)
  rw [lg_entry_eq]
  generalize (lg_sl ([.ref md, .int p0, .int p1]) ++ List.replicate (11 - (lg_sl ([.ref md, .int p0, .int p1])).length) Slot.unset).toArray = ls at hl ⊢
  have hl : lv_has ls 11 [(0, .ref md), (1, .int p0), (2, .int p1)] := hl
  refine lv_aload_n hx hb dX12_weightiest_0 rfl (lv_at hl 0 rfl) ?_
  refine lv_iload_n hx hb dX12_weightiest_1 rfl (lv_at hl 1 rfl) ?_
  refine lv_iload_n hx hb dX12_weightiest_2 rfl (lv_at hl 2 rfl) ?_
  refine tl_si (tl_rV (As := [.int p0, .int p1]) (rest := []) ⟨hx, hb, hml, hown, hta⟩ hK hN hP hD (ci := 12) rfl 0 rfl lk_X12_447 (c_X12_canAsk l D cy s.heap.size md p0 p1 m0 m1 m3 m4 m5 m6 m7 m8 m9 m10 m11 m12 m13 m14 m15 m16 m24 m26 m28 m30 m31 m35 m36 m38 m41 m42 m43 m44 m45 m46 m47 m48 sd hsd) rfl rfl ⟨Nat.le_of_ble_eq_true rfl, Nat.le_of_ble_eq_true rfl⟩ rfl hl.1 rfl (Nat.le_of_ble_eq_true rfl) dX12_weightiest_3 ⟨Nat.le_of_ble_eq_true rfl, Nat.le_of_ble_eq_true rfl⟩) (fun r_2 hw_1 => ?_)
  subst hw_1
  refine lv_if_ne (tgt := 11) hx hb dX12_weightiest_6 (by decide) (fun c => absurd c (by decide)) (fun _ => ?_)
  refine lv_iconst (v := (-1)) hx hb dX12_weightiest_9 (by decide) ?_
  exact W.iret (v := (-1)) hx hb hr (fun t ht hW => ⟨_, rfl, rfl, ht⟩) (fun q h => by cases h) dX12_weightiest_10
set_option maxHeartbeats 4000000 in
set_option maxRecDepth 100000 in
theorem c_X12_house (l : Launch) (D : va_G) (cy : Nat → ClassId) (sz : Nat) (md : Nat) (p0 : Int32) (p1 : Int32) (p2 : Int32) (m0 : Nat) (m1 : Nat) (m3 : Nat) (m4 : Nat) (m5 : Nat) (m6 : Nat) (m7 : Nat) (m8 : Nat) (m9 : Nat) (m10 : Nat) (m11 : Nat) (m12 : Nat) (m13 : Nat) (m14 : Nat) (m15 : Nat) (m16 : Nat) (m24 : Nat) (m26 : Nat) (m28 : Nat) (m30 : Nat) (m31 : Nat) (m35 : Nat) (m36 : Nat) (m38 : Nat) (m41 : Nat) (m42 : Nat) (m43 : Nat) (m44 : Nat) (m45 : Nat) (m46 : Nat) (m47 : Nat) (m48 : Nat) (sd : Nat → Int32) (hsd : ∀ k : Nat, (k < 441 ∨ 7641 ≤ k) → sd k = 0) : Met l yX12_house (tl_w yX12_house cX12_house 5 (some .int)) ({ frames := 1, cells := 0, slots := 0, locals := 22 }) (va_Pc [.ref md, .int p0, .int p1, .int p2] (tl_P D cy [(md, .inr (12, [.ref m0, .ref m1, .int 0, .ref m3, .ref m4, .ref m5, .ref m6, .ref m7, .ref m8, .ref m9, .ref m10, .ref m11, .ref m12, .ref m13, .ref m14, .ref m15, .ref m16, .int 0, .int 0, .int 0, .int 0, .int 0, .int 0, .int 0, .ref m24, .int 0, .ref m26, .int 0, .ref m28, .long 0, .ref m30, .ref m31, .int 0, .int 0, .int 0, .ref m35, .ref m36, .int 0, .ref m38, .int 0, .int 0, .ref m41, .ref m42, .ref m43, .ref m44, .ref m45, .ref m46, .ref m47, .ref m48])), (m0, .inl (cy 0, 7666, .inl sd)), (m3, .inl (cy 0, 3, .inl (fun _ => 0)))] sz)) (vp_Si (fun r : Int32 => r = (-1))) 0 0 (fun _ => False) := by
  refine Met.ofW (cc := cX12_house) (maxL := 5) (ret := (some .int)) (by decide) rfl ?_
  intro p e s m args below meth c s₁ B hml hv
  obtain ⟨rfl, hsz, hP, hK, hD0, hN⟩ := hv
  have hx := B.exec
  have hb := B.bytes
  have hr := B.returns
  have hta := tl_hta (atoms_spec (ws := tl_w yX12_house cX12_house 5 (some .int)) B.pre)
  have hown : s.vm.findClass RX12 = some m.cls := findClass_of_methodNamed B.named
  have hlocks := B.notSynchronized
  subst hsz
  have hD := hD0
  have hP : va_P D vwCl [(md, .inr (12, [.ref m0, .ref m1, .int 0, .ref m3, .ref m4, .ref m5, .ref m6, .ref m7, .ref m8, .ref m9, .ref m10, .ref m11, .ref m12, .ref m13, .ref m14, .ref m15, .ref m16, .int 0, .int 0, .int 0, .int 0, .int 0, .int 0, .int 0, .ref m24, .int 0, .ref m26, .int 0, .ref m28, .long 0, .ref m30, .ref m31, .int 0, .int 0, .int 0, .ref m35, .ref m36, .int 0, .ref m38, .int 0, .int 0, .ref m41, .ref m42, .ref m43, .ref m44, .ref m45, .ref m46, .ref m47, .ref m48])), (m0, .inl (cy 0, 7666, .inl sd)), (m3, .inl (cy 0, 3, .inl (fun _ => 0)))] s.heap := hP
  have hl := lv_entry ([.ref md, .int p0, .int p1, .int p2]) (n := 5) (Nat.le_of_ble_eq_true rfl)
  rw [lg_entry_eq]
  generalize (lg_sl ([.ref md, .int p0, .int p1, .int p2]) ++ List.replicate (5 - (lg_sl ([.ref md, .int p0, .int p1, .int p2])).length) Slot.unset).toArray = ls at hl ⊢
  have hl : lv_has ls 5 [(0, .ref md), (1, .int p0), (2, .int p1), (3, .int p2)] := hl
  refine lv_aload_n hx hb dX12_house_0 rfl (lv_at hl 0 rfl) ?_
  refine va_get (D := D) (ci := 12) (v := .ref m0) (C := RX12) (T := TX12) (N := 49) hx hb hta inlX12 hown hK hP 0 rfl rfl 0 (by decide) (hta _ wk_149) (fun _ h9 => h9) rfl dX12_house_1 ?_
  refine lv_sipush (v := 7665) hx hb dX12_house_4 (by decide) ?_
  refine va_iald (D := D) hx hb hK hP 1 0 rfl rfl (tl_in (by decide) (by decide)) dX12_house_7 ?_
  refine W.eq (g2 := F0 m 8 ls ([.int 0])) (by rw [hsd _ (by decide)]) ?_
  refine lv_bipush (v := 8) hx hb dX12_house_8 (by decide) ?_
  refine lv_icmp_eq (tgt := 48) hx hb dX12_house_10 (by decide) (fun c => absurd c (by decide)) (fun _ => ?_)
  refine lv_aload_n hx hb dX12_house_13 rfl (lv_at hl 0 rfl) ?_
  refine lv_iconst (v := 1) hx hb dX12_house_14 (by decide) ?_
  refine lv_iload_n hx hb dX12_house_15 rfl (lv_at hl 1 rfl) ?_
  have hPc := hP.sub (ws' := [(md, .inr (12, [.ref m0, .ref m1, .int 0, .ref m3, .ref m4, .ref m5, .ref m6, .ref m7, .ref m8, .ref m9, .ref m10, .ref m11, .ref m12, .ref m13, .ref m14, .ref m15, .ref m16, .int 0, .int 0, .int 0, .int 0, .int 0, .int 0, .int 0, .ref m24, .int 0, .ref m26, .int 0, .ref m28, .long 0, .ref m30, .ref m31, .int 0, .int 0, .int 0, .ref m35, .ref m36, .int 0, .ref m38, .int 0, .int 0, .ref m41, .ref m42, .ref m43, .ref m44, .ref m45, .ref m46, .ref m47, .ref m48])), (m3, .inl (cy 0, 3, .inl (fun _ => 0)))]) [0, 2] rfl
  have hDc := hD.sub (ws' := [(md, .inr (12, [.ref m0, .ref m1, .int 0, .ref m3, .ref m4, .ref m5, .ref m6, .ref m7, .ref m8, .ref m9, .ref m10, .ref m11, .ref m12, .ref m13, .ref m14, .ref m15, .ref m16, .int 0, .int 0, .int 0, .int 0, .int 0, .int 0, .int 0, .ref m24, .int 0, .ref m26, .int 0, .ref m28, .long 0, .ref m30, .ref m31, .int 0, .int 0, .int 0, .ref m35, .ref m36, .int 0, .ref m38, .int 0, .int 0, .ref m41, .ref m42, .ref m43, .ref m44, .ref m45, .ref m46, .ref m47, .ref m48])), (m3, .inl (cy 0, 3, .inl (fun _ => 0)))]) [0, 2] (by decide) rfl
  refine tl_si (tl_rV (As := [.int 1, .int p0]) (rest := []) ⟨hx, hb, hml, hown, hta⟩ hK hN hPc hDc (ci := 12) rfl 0 rfl lk_X12_382 (c_X12_isText_1 l D cy s.heap.size md p0 m0 m1 m3 m4 m5 m6 m7 m8 m9 m10 m11 m12 m13 m14 m15 m16 m24 m26 m28 m30 m31 m35 m36 m38 m41 m42 m43 m44 m45 m46 m47 m48 ) rfl rfl ⟨Nat.le_of_ble_eq_true rfl, Nat.le_of_ble_eq_true rfl⟩ rfl hl.1 rfl (Nat.le_of_ble_eq_true rfl) dX12_house_16 ⟨Nat.le_of_ble_eq_true rfl, Nat.le_of_ble_eq_true rfl⟩) (fun r_2 hw_1 => ?_)
  subst hw_1
  refine lv_if_eq (tgt := 48) hx hb dX12_house_19 (by decide) (fun _ => ?_) (fun c => absurd c (by decide))
  refine lv_iconst (v := (-1)) hx hb dX12_house_48 (by decide) ?_
  exact W.iret (v := (-1)) hx hb hr (fun t ht hW => ⟨_, rfl, rfl, ht⟩) (fun q h => by cases h) dX12_house_49
set_option maxHeartbeats 4000000 in
set_option maxRecDepth 100000 in
theorem c_X12_says (l : Launch) (D : va_G) (cy : Nat → ClassId) (sz : Nat) (md : Nat) (p0 : Int32) (p1 : Int32) (m0 : Nat) (m1 : Nat) (m3 : Nat) (m4 : Nat) (m5 : Nat) (m6 : Nat) (m7 : Nat) (m8 : Nat) (m9 : Nat) (m10 : Nat) (m11 : Nat) (m12 : Nat) (m13 : Nat) (m14 : Nat) (m15 : Nat) (m16 : Nat) (m24 : Nat) (m26 : Nat) (m28 : Nat) (m30 : Nat) (m31 : Nat) (m35 : Nat) (m36 : Nat) (m38 : Nat) (m41 : Nat) (m42 : Nat) (m43 : Nat) (m44 : Nat) (m45 : Nat) (m46 : Nat) (m47 : Nat) (m48 : Nat) (sd : Nat → Int32) (hsd : ∀ k : Nat, (k < 441 ∨ 7641 ≤ k) → sd k = 0) : Met l yX12_says (tl_w yX12_says cX12_says 3 (some .int)) ({ frames := 1, cells := 0, slots := 0, locals := 25 }) (va_Pc [.ref md, .int p0, .int p1] (tl_P D cy [(md, .inr (12, [.ref m0, .ref m1, .int 0, .ref m3, .ref m4, .ref m5, .ref m6, .ref m7, .ref m8, .ref m9, .ref m10, .ref m11, .ref m12, .ref m13, .ref m14, .ref m15, .ref m16, .int 0, .int 0, .int 0, .int 0, .int 0, .int 0, .int 0, .ref m24, .int 0, .ref m26, .int 0, .ref m28, .long 0, .ref m30, .ref m31, .int 0, .int 0, .int 0, .ref m35, .ref m36, .int 0, .ref m38, .int 0, .int 0, .ref m41, .ref m42, .ref m43, .ref m44, .ref m45, .ref m46, .ref m47, .ref m48])), (m0, .inl (cy 0, 7666, .inl sd))] sz)) (vp_Si (fun r : Int32 => r = (-1))) 0 0 (fun _ => False) := by
  refine Met.ofW (cc := cX12_says) (maxL := 3) (ret := (some .int)) (by decide) rfl ?_
  intro p e s m args below meth c s₁ B hml hv
  obtain ⟨rfl, hsz, hP, hK, hD0, hN⟩ := hv
  have hx := B.exec
  have hb := B.bytes
  have hr := B.returns
  have hta := tl_hta (atoms_spec (ws := tl_w yX12_says cX12_says 3 (some .int)) B.pre)
  have hown : s.vm.findClass RX12 = some m.cls := findClass_of_methodNamed B.named
  have hlocks := B.notSynchronized
  subst hsz
  have hD := hD0
  have hP : va_P D vwCl [(md, .inr (12, [.ref m0, .ref m1, .int 0, .ref m3, .ref m4, .ref m5, .ref m6, .ref m7, .ref m8, .ref m9, .ref m10, .ref m11, .ref m12, .ref m13, .ref m14, .ref m15, .ref m16, .int 0, .int 0, .int 0, .int 0, .int 0, .int 0, .int 0, .ref m24, .int 0, .ref m26, .int 0, .ref m28, .long 0, .ref m30, .ref m31, .int 0, .int 0, .int 0, .ref m35, .ref m36, .int 0, .ref m38, .int 0, .int 0, .ref m41, .ref m42, .ref m43, .ref m44, .ref m45, .ref m46, .ref m47, .ref m48])), (m0, .inl (cy 0, 7666, .inl sd))] s.heap := hP
  have hl := lv_entry ([.ref md, .int p0, .int p1]) (n := 3) (Nat.le_of_ble_eq_true rfl)
  rw [lg_entry_eq]
  generalize (lg_sl ([.ref md, .int p0, .int p1]) ++ List.replicate (3 - (lg_sl ([.ref md, .int p0, .int p1])).length) Slot.unset).toArray = ls at hl ⊢
  have hl : lv_has ls 3 [(0, .ref md), (1, .int p0), (2, .int p1)] := hl
  refine lv_iload_n hx hb dX12_says_0 rfl (lv_at hl 1 rfl) ?_
  refine lv_i2l (v := p0.toInt64) hx hb dX12_says_1 (by first | rfl | decide) ?_
  refine lv_lconst (v := 0) hx hb dX12_says_2 (by decide) ?_
  refine lv_aload_n hx hb dX12_says_3 rfl (lv_at hl 0 rfl) ?_
  refine va_get (D := D) (ci := 12) (v := .ref m0) (C := RX12) (T := TX12) (N := 49) hx hb hta inlX12 hown hK hP 0 rfl rfl 0 (by decide) (hta _ wk_149) (fun _ h9 => h9) rfl dX12_says_4 ?_
  refine lv_sipush (v := 7665) hx hb dX12_says_7 (by decide) ?_
  refine va_iald (D := D) hx hb hK hP 1 0 rfl rfl (tl_in (by decide) (by decide)) dX12_says_10 ?_
  refine W.eq (g2 := F0 m 11 ls ([.int 0, .long 0, .long p0.toInt64])) (by rw [hsd _ (by decide)]) ?_
  refine lv_iconst (v := 1) hx hb dX12_says_11 (by decide) ?_
  refine lv_isub hx hb dX12_says_12 ?_
  refine lv_topi (fun z_1 ez_1 => ?_)
  obtain rfl : z_1 = ((-1) : Int32) := ez_1.trans (by decide)
  refine lv_i2l (v := (-1)) hx hb dX12_says_13 (by first | rfl | decide) ?_
  have hPc := hP.sub (ws' := []) [] rfl
  have hDc := hD.sub (ws' := []) [] (by decide) rfl
  refine tl_si (tl_rS (As := [.long p0.toInt64, .long 0, .long (-1)]) (rest := []) ⟨hx, hb, hml, hown, hta⟩ hK hN hPc hDc lk_X12_112 (c_X12_in l D cy s.heap.size p0.toInt64 0 (-1) ) rfl rfl ⟨Nat.le_of_ble_eq_true rfl, Nat.le_of_ble_eq_true rfl⟩ rfl hl.1 rfl (Nat.le_of_ble_eq_true rfl) dX12_says_14 ⟨Nat.le_of_ble_eq_true rfl, Nat.le_of_ble_eq_true rfl⟩) (fun r_3 hw_2 => ?_)
  simp only [Int32.toInt_toInt64] at hw_2
  have hw_2 : tl_E r_3 ((0 : Int) ≤ p0.toInt ∧ p0.toInt ≤ (-1 : Int)) 1 0 := hw_2
  refine lv_if_eq (tgt := 27) hx hb dX12_says_17 (by decide) (fun c_4 => ?_) (fun c_4 => ?_)
  · have c_4 := hw_2.f c_4
    refine lv_iconst (v := (-1)) hx hb dX12_says_27 (by decide) ?_
    exact W.iret (v := (-1)) hx hb hr (fun t ht hW => ⟨_, rfl, rfl, ht⟩) (fun q h => by cases h) dX12_says_28
  · have c_4 := hw_2.t c_4
    exfalso; omega
set_option maxHeartbeats 4000000 in
set_option maxRecDepth 100000 in
theorem c_X12_next (l : Launch) (D : va_G) (cy : Nat → ClassId) (sz : Nat) (md : Nat) (p0 : Int32) (p1 : Int32) (p2 : Int32) (m0 : Nat) (m1 : Nat) (m3 : Nat) (m4 : Nat) (m5 : Nat) (m6 : Nat) (m7 : Nat) (m8 : Nat) (m9 : Nat) (m10 : Nat) (m11 : Nat) (m12 : Nat) (m13 : Nat) (m14 : Nat) (m15 : Nat) (m16 : Nat) (m24 : Nat) (m26 : Nat) (m28 : Nat) (m30 : Nat) (m31 : Nat) (m35 : Nat) (m36 : Nat) (m38 : Nat) (m41 : Nat) (m42 : Nat) (m43 : Nat) (m44 : Nat) (m45 : Nat) (m46 : Nat) (m47 : Nat) (m48 : Nat) (sd : Nat → Int32) (hsd : ∀ k : Nat, (k < 441 ∨ 7641 ≤ k) → sd k = 0) : Met l yX12_next (tl_w yX12_next cX12_next 13 (some .long)) ({ frames := 1, cells := 0, slots := 0, locals := 22 }) (va_Pc [.ref md, .int p0, .int p1, .int p2] (tl_P D cy [(md, .inr (12, [.ref m0, .ref m1, .int 0, .ref m3, .ref m4, .ref m5, .ref m6, .ref m7, .ref m8, .ref m9, .ref m10, .ref m11, .ref m12, .ref m13, .ref m14, .ref m15, .ref m16, .int 0, .int 0, .int 0, .int 0, .int 0, .int 0, .int 0, .ref m24, .int 0, .ref m26, .int 0, .ref m28, .long 0, .ref m30, .ref m31, .int 0, .int 0, .int 0, .ref m35, .ref m36, .int 0, .ref m38, .int 0, .int 0, .ref m41, .ref m42, .ref m43, .ref m44, .ref m45, .ref m46, .ref m47, .ref m48])), (m0, .inl (cy 0, 7666, .inl sd)), (m3, .inl (cy 0, 3, .inl (fun _ => 0)))] sz)) (vp_Sl (fun r : Int64 => r = (-1))) 0 0 (fun _ => False) := by
  refine Met.ofW (cc := cX12_next) (maxL := 13) (ret := (some .long)) (by decide) rfl ?_
  intro p e s m args below meth c s₁ B hml hv
  obtain ⟨rfl, hsz, hP, hK, hD0, hN⟩ := hv
  have hx := B.exec
  have hb := B.bytes
  have hr := B.returns
  have hta := tl_hta (atoms_spec (ws := tl_w yX12_next cX12_next 13 (some .long)) B.pre)
  have hown : s.vm.findClass RX12 = some m.cls := findClass_of_methodNamed B.named
  have hlocks := B.notSynchronized
  subst hsz
  have hD := hD0
  have hP : va_P D vwCl [(md, .inr (12, [.ref m0, .ref m1, .int 0, .ref m3, .ref m4, .ref m5, .ref m6, .ref m7, .ref m8, .ref m9, .ref m10, .ref m11, .ref m12, .ref m13, .ref m14, .ref m15, .ref m16, .int 0, .int 0, .int 0, .int 0, .int 0, .int 0, .int 0, .ref m24, .int 0, .ref m26, .int 0, .ref m28, .long 0, .ref m30, .ref m31, .int 0, .int 0, .int 0, .ref m35, .ref m36, .int 0, .ref m38, .int 0, .int 0, .ref m41, .ref m42, .ref m43, .ref m44, .ref m45, .ref m46, .ref m47, .ref m48])), (m0, .inl (cy 0, 7666, .inl sd)), (m3, .inl (cy 0, 3, .inl (fun _ => 0)))] s.heap := hP
  have hl := lv_entry ([.ref md, .int p0, .int p1, .int p2]) (n := 13) (Nat.le_of_ble_eq_true rfl)
  rw [lg_entry_eq]
  generalize (lg_sl ([.ref md, .int p0, .int p1, .int p2]) ++ List.replicate (13 - (lg_sl ([.ref md, .int p0, .int p1, .int p2])).length) Slot.unset).toArray = ls at hl ⊢
  have hl : lv_has ls 13 [(0, .ref md), (1, .int p0), (2, .int p1), (3, .int p2)] := hl
  refine lv_aload_n hx hb dX12_next_0 rfl (lv_at hl 0 rfl) ?_
  refine lv_iconst (v := 1) hx hb dX12_next_1 (by decide) ?_
  refine lv_iload_n hx hb dX12_next_2 rfl (lv_at hl 1 rfl) ?_
  have hPc := hP.sub (ws' := [(md, .inr (12, [.ref m0, .ref m1, .int 0, .ref m3, .ref m4, .ref m5, .ref m6, .ref m7, .ref m8, .ref m9, .ref m10, .ref m11, .ref m12, .ref m13, .ref m14, .ref m15, .ref m16, .int 0, .int 0, .int 0, .int 0, .int 0, .int 0, .int 0, .ref m24, .int 0, .ref m26, .int 0, .ref m28, .long 0, .ref m30, .ref m31, .int 0, .int 0, .int 0, .ref m35, .ref m36, .int 0, .ref m38, .int 0, .int 0, .ref m41, .ref m42, .ref m43, .ref m44, .ref m45, .ref m46, .ref m47, .ref m48])), (m3, .inl (cy 0, 3, .inl (fun _ => 0)))]) [0, 2] rfl
  have hDc := hD.sub (ws' := [(md, .inr (12, [.ref m0, .ref m1, .int 0, .ref m3, .ref m4, .ref m5, .ref m6, .ref m7, .ref m8, .ref m9, .ref m10, .ref m11, .ref m12, .ref m13, .ref m14, .ref m15, .ref m16, .int 0, .int 0, .int 0, .int 0, .int 0, .int 0, .int 0, .ref m24, .int 0, .ref m26, .int 0, .ref m28, .long 0, .ref m30, .ref m31, .int 0, .int 0, .int 0, .ref m35, .ref m36, .int 0, .ref m38, .int 0, .int 0, .ref m41, .ref m42, .ref m43, .ref m44, .ref m45, .ref m46, .ref m47, .ref m48])), (m3, .inl (cy 0, 3, .inl (fun _ => 0)))]) [0, 2] (by decide) rfl
  refine tl_si (tl_rV (As := [.int 1, .int p0]) (rest := []) ⟨hx, hb, hml, hown, hta⟩ hK hN hPc hDc (ci := 12) rfl 0 rfl lk_X12_382 (c_X12_isText_1 l D cy s.heap.size md p0 m0 m1 m3 m4 m5 m6 m7 m8 m9 m10 m11 m12 m13 m14 m15 m16 m24 m26 m28 m30 m31 m35 m36 m38 m41 m42 m43 m44 m45 m46 m47 m48 ) rfl rfl ⟨Nat.le_of_ble_eq_true rfl, Nat.le_of_ble_eq_true rfl⟩ rfl hl.1 rfl (Nat.le_of_ble_eq_true rfl) dX12_next_3 ⟨Nat.le_of_ble_eq_true rfl, Nat.le_of_ble_eq_true rfl⟩) (fun r_2 hw_1 => ?_)
  subst hw_1
  refine lv_if_eq (tgt := 31) hx hb dX12_next_6 (by decide) (fun _ => ?_) (fun c => absurd c (by decide))
  refine lv_ldc2 (v := (-1)) hx hb hown (hta _ wk_991) dX12_next_31 ?_
  exact W.lret (v := (-1)) hx hb hr (fun t ht hW => ⟨_, rfl, rfl, ht⟩) (fun q h => by cases h) dX12_next_34
set_option maxHeartbeats 4000000 in
set_option maxRecDepth 100000 in
theorem c_X12_gives (l : Launch) (D : va_G) (cy : Nat → ClassId) (sz : Nat) (md : Nat) (p0 : Int32) (m0 : Nat) (m1 : Nat) (m3 : Nat) (m4 : Nat) (m5 : Nat) (m6 : Nat) (m7 : Nat) (m8 : Nat) (m9 : Nat) (m10 : Nat) (m11 : Nat) (m12 : Nat) (m13 : Nat) (m14 : Nat) (m15 : Nat) (m16 : Nat) (m24 : Nat) (m26 : Nat) (m28 : Nat) (m30 : Nat) (m31 : Nat) (m35 : Nat) (m36 : Nat) (m38 : Nat) (m41 : Nat) (m42 : Nat) (m43 : Nat) (m44 : Nat) (m45 : Nat) (m46 : Nat) (m47 : Nat) (m48 : Nat) (sd : Nat → Int32) (hsd : ∀ k : Nat, (k < 441 ∨ 7641 ≤ k) → sd k = 0) : Met l yX12_gives (tl_w yX12_gives cX12_gives 2 (some .int)) ({ frames := 1, cells := 0, slots := 0, locals := 22 }) (va_Pc [.ref md, .int p0] (tl_P D cy [(md, .inr (12, [.ref m0, .ref m1, .int 0, .ref m3, .ref m4, .ref m5, .ref m6, .ref m7, .ref m8, .ref m9, .ref m10, .ref m11, .ref m12, .ref m13, .ref m14, .ref m15, .ref m16, .int 0, .int 0, .int 0, .int 0, .int 0, .int 0, .int 0, .ref m24, .int 0, .ref m26, .int 0, .ref m28, .long 0, .ref m30, .ref m31, .int 0, .int 0, .int 0, .ref m35, .ref m36, .int 0, .ref m38, .int 0, .int 0, .ref m41, .ref m42, .ref m43, .ref m44, .ref m45, .ref m46, .ref m47, .ref m48])), (m0, .inl (cy 0, 7666, .inl sd)), (m3, .inl (cy 0, 3, .inl (fun _ => 0)))] sz)) (vp_Si (fun r : Int32 => r = (-1))) 0 0 (fun _ => False) := by
  refine Met.ofW (cc := cX12_gives) (maxL := 2) (ret := (some .int)) (by decide) rfl ?_
  intro p e s m args below meth c s₁ B hml hv
  obtain ⟨rfl, hsz, hP, hK, hD0, hN⟩ := hv
  have hx := B.exec
  have hb := B.bytes
  have hr := B.returns
  have hta := tl_hta (atoms_spec (ws := tl_w yX12_gives cX12_gives 2 (some .int)) B.pre)
  have hown : s.vm.findClass RX12 = some m.cls := findClass_of_methodNamed B.named
  have hlocks := B.notSynchronized
  subst hsz
  have hD := hD0
  have hP : va_P D vwCl [(md, .inr (12, [.ref m0, .ref m1, .int 0, .ref m3, .ref m4, .ref m5, .ref m6, .ref m7, .ref m8, .ref m9, .ref m10, .ref m11, .ref m12, .ref m13, .ref m14, .ref m15, .ref m16, .int 0, .int 0, .int 0, .int 0, .int 0, .int 0, .int 0, .ref m24, .int 0, .ref m26, .int 0, .ref m28, .long 0, .ref m30, .ref m31, .int 0, .int 0, .int 0, .ref m35, .ref m36, .int 0, .ref m38, .int 0, .int 0, .ref m41, .ref m42, .ref m43, .ref m44, .ref m45, .ref m46, .ref m47, .ref m48])), (m0, .inl (cy 0, 7666, .inl sd)), (m3, .inl (cy 0, 3, .inl (fun _ => 0)))] s.heap := hP
  have hl := lv_entry ([.ref md, .int p0]) (n := 2) (Nat.le_of_ble_eq_true rfl)
  rw [lg_entry_eq]
  generalize (lg_sl ([.ref md, .int p0]) ++ List.replicate (2 - (lg_sl ([.ref md, .int p0])).length) Slot.unset).toArray = ls at hl ⊢
  have hl : lv_has ls 2 [(0, .ref md), (1, .int p0)] := hl
  refine lv_aload_n hx hb dX12_gives_0 rfl (lv_at hl 0 rfl) ?_
  refine lv_iconst (v := 2) hx hb dX12_gives_1 (by decide) ?_
  refine lv_iload_n hx hb dX12_gives_2 rfl (lv_at hl 1 rfl) ?_
  have hPc := hP.sub (ws' := [(md, .inr (12, [.ref m0, .ref m1, .int 0, .ref m3, .ref m4, .ref m5, .ref m6, .ref m7, .ref m8, .ref m9, .ref m10, .ref m11, .ref m12, .ref m13, .ref m14, .ref m15, .ref m16, .int 0, .int 0, .int 0, .int 0, .int 0, .int 0, .int 0, .ref m24, .int 0, .ref m26, .int 0, .ref m28, .long 0, .ref m30, .ref m31, .int 0, .int 0, .int 0, .ref m35, .ref m36, .int 0, .ref m38, .int 0, .int 0, .ref m41, .ref m42, .ref m43, .ref m44, .ref m45, .ref m46, .ref m47, .ref m48])), (m3, .inl (cy 0, 3, .inl (fun _ => 0)))]) [0, 2] rfl
  have hDc := hD.sub (ws' := [(md, .inr (12, [.ref m0, .ref m1, .int 0, .ref m3, .ref m4, .ref m5, .ref m6, .ref m7, .ref m8, .ref m9, .ref m10, .ref m11, .ref m12, .ref m13, .ref m14, .ref m15, .ref m16, .int 0, .int 0, .int 0, .int 0, .int 0, .int 0, .int 0, .ref m24, .int 0, .ref m26, .int 0, .ref m28, .long 0, .ref m30, .ref m31, .int 0, .int 0, .int 0, .ref m35, .ref m36, .int 0, .ref m38, .int 0, .int 0, .ref m41, .ref m42, .ref m43, .ref m44, .ref m45, .ref m46, .ref m47, .ref m48])), (m3, .inl (cy 0, 3, .inl (fun _ => 0)))]) [0, 2] (by decide) rfl
  refine tl_si (tl_rV (As := [.int 2, .int p0]) (rest := []) ⟨hx, hb, hml, hown, hta⟩ hK hN hPc hDc (ci := 12) rfl 0 rfl lk_X12_382 (c_X12_isText_2 l D cy s.heap.size md p0 m0 m1 m3 m4 m5 m6 m7 m8 m9 m10 m11 m12 m13 m14 m15 m16 m24 m26 m28 m30 m31 m35 m36 m38 m41 m42 m43 m44 m45 m46 m47 m48 ) rfl rfl ⟨Nat.le_of_ble_eq_true rfl, Nat.le_of_ble_eq_true rfl⟩ rfl hl.1 rfl (Nat.le_of_ble_eq_true rfl) dX12_gives_3 ⟨Nat.le_of_ble_eq_true rfl, Nat.le_of_ble_eq_true rfl⟩) (fun r_2 hw_1 => ?_)
  subst hw_1
  refine lv_if_eq (tgt := 17) hx hb dX12_gives_6 (by decide) (fun _ => ?_) (fun c => absurd c (by decide))
  refine lv_iconst (v := (-1)) hx hb dX12_gives_17 (by decide) ?_
  exact W.iret (v := (-1)) hx hb hr (fun t ht hW => ⟨_, rfl, rfl, ht⟩) (fun q h => by cases h) dX12_gives_18
set_option maxHeartbeats 4000000 in
set_option maxRecDepth 100000 in
theorem c_X12_count (l : Launch) (D : va_G) (cy : Nat → ClassId) (sz : Nat) (md : Nat) (p0 : Int32) (m0 : Nat) (m1 : Nat) (m3 : Nat) (m4 : Nat) (m5 : Nat) (m6 : Nat) (m7 : Nat) (m8 : Nat) (m9 : Nat) (m10 : Nat) (m11 : Nat) (m12 : Nat) (m13 : Nat) (m14 : Nat) (m15 : Nat) (m16 : Nat) (m24 : Nat) (m26 : Nat) (m28 : Nat) (m30 : Nat) (m31 : Nat) (m35 : Nat) (m36 : Nat) (m38 : Nat) (m41 : Nat) (m42 : Nat) (m43 : Nat) (m44 : Nat) (m45 : Nat) (m46 : Nat) (m47 : Nat) (m48 : Nat) (sd : Nat → Int32) (hsd : ∀ k : Nat, (k < 441 ∨ 7641 ≤ k) → sd k = 0) : Met l yX12_count (tl_w yX12_count cX12_count 4 (some .int)) ({ frames := 0, cells := 0, slots := 0, locals := 0 }) (va_Pc [.ref md, .int p0] (tl_P D cy [(md, .inr (12, [.ref m0, .ref m1, .int 0, .ref m3, .ref m4, .ref m5, .ref m6, .ref m7, .ref m8, .ref m9, .ref m10, .ref m11, .ref m12, .ref m13, .ref m14, .ref m15, .ref m16, .int 0, .int 0, .int 0, .int 0, .int 0, .int 0, .int 0, .ref m24, .int 0, .ref m26, .int 0, .ref m28, .long 0, .ref m30, .ref m31, .int 0, .int 0, .int 0, .ref m35, .ref m36, .int 0, .ref m38, .int 0, .int 0, .ref m41, .ref m42, .ref m43, .ref m44, .ref m45, .ref m46, .ref m47, .ref m48])), (m0, .inl (cy 0, 7666, .inl sd)), (m3, .inl (cy 0, 3, .inl (fun _ => 0)))] sz)) (vp_Si (fun r : Int32 => tl_E r (0 ≤ p0.toInt ∧ p0.toInt ≤ 10) 0 (-1))) 0 0 (fun _ => False) := by
  refine Met.ofW (cc := cX12_count) (maxL := 4) (ret := (some .int)) (by decide) rfl ?_
  intro p e s m args below meth c s₁ B hml hv
  obtain ⟨rfl, hsz, hP, hK, hD0, hN⟩ := hv
  have hx := B.exec
  have hb := B.bytes
  have hr := B.returns
  have hta := tl_hta (atoms_spec (ws := tl_w yX12_count cX12_count 4 (some .int)) B.pre)
  have hown : s.vm.findClass RX12 = some m.cls := findClass_of_methodNamed B.named
  have hlocks := B.notSynchronized
  subst hsz
  have hD := hD0
  have hP : va_P D vwCl [(md, .inr (12, [.ref m0, .ref m1, .int 0, .ref m3, .ref m4, .ref m5, .ref m6, .ref m7, .ref m8, .ref m9, .ref m10, .ref m11, .ref m12, .ref m13, .ref m14, .ref m15, .ref m16, .int 0, .int 0, .int 0, .int 0, .int 0, .int 0, .int 0, .ref m24, .int 0, .ref m26, .int 0, .ref m28, .long 0, .ref m30, .ref m31, .int 0, .int 0, .int 0, .ref m35, .ref m36, .int 0, .ref m38, .int 0, .int 0, .ref m41, .ref m42, .ref m43, .ref m44, .ref m45, .ref m46, .ref m47, .ref m48])), (m0, .inl (cy 0, 7666, .inl sd)), (m3, .inl (cy 0, 3, .inl (fun _ => 0)))] s.heap := hP
  have hl := lv_entry ([.ref md, .int p0]) (n := 4) (Nat.le_of_ble_eq_true rfl)
  rw [lg_entry_eq]
  generalize (lg_sl ([.ref md, .int p0]) ++ List.replicate (4 - (lg_sl ([.ref md, .int p0])).length) Slot.unset).toArray = ls at hl ⊢
  have hl : lv_has ls 4 [(0, .ref md), (1, .int p0)] := hl
  refine lv_iconst (v := 0) hx hb dX12_count_0 (by decide) ?_
  refine lv_istore_n (lv' := [(2, .int 0), (0, .ref md), (1, .int p0)]) hx hb dX12_count_1 rfl hl (by decide) rfl (fun ls hl => ?_)
  refine lv_iload_n hx hb dX12_count_2 rfl (lv_at hl 2 rfl) ?_
  rcases (show p0.toInt = 0 ∨ p0.toInt = 1 ∨ p0.toInt = 2 ∨ p0.toInt = 3 ∨ p0.toInt = 4 ∨ p0.toInt = 5 ∨ p0.toInt = 6 ∨ p0.toInt = 7 ∨ p0.toInt = 8 ∨ p0.toInt = 9 ∨ p0.toInt = 10 ∨ (p0.toInt < 0 ∨ 10 < p0.toInt) by omega) with c_1 | c_1 | c_1 | c_1 | c_1 | c_1 | c_1 | c_1 | c_1 | c_1 | c_1 | c_1
  · refine lv_tableIn (tgt := 60) hx hb dX12_count_3 (by omega) (by omega) (by rw [c_1]; rfl) (by decide) ?_
    refine lv_aload_n hx hb dX12_count_60 rfl (lv_at hl 1 rfl) ?_
    refine va_get (D := D) (ci := 12) (v := .ref m0) (C := RX12) (T := TX12) (N := 49) hx hb hta inlX12 hown hK hP 0 rfl rfl 0 (by decide) (hta _ wk_149) (fun _ h9 => h9) rfl dX12_count_61 ?_
    refine lv_iconst (v := 0) hx hb dX12_count_64 (by decide) ?_
    refine va_iald (D := D) hx hb hK hP 1 0 rfl rfl (tl_in (by decide) (by decide)) dX12_count_65 ?_
    refine W.eq (g2 := F0 m 66 ls ([.int 0])) (by rw [hsd _ (by decide)]) ?_
    exact W.iret (v := 0) hx hb hr (fun t ht hW => ⟨_, rfl, (Or.inl ⟨by omega, rfl⟩), ht⟩) (fun q h => by cases h) dX12_count_66
  · refine lv_tableIn (tgt := 67) hx hb dX12_count_3 (by omega) (by omega) (by rw [c_1]; rfl) (by decide) ?_
    refine lv_aload_n hx hb dX12_count_67 rfl (lv_at hl 1 rfl) ?_
    refine va_get (D := D) (ci := 12) (v := .ref m0) (C := RX12) (T := TX12) (N := 49) hx hb hta inlX12 hown hK hP 0 rfl rfl 0 (by decide) (hta _ wk_149) (fun _ h9 => h9) rfl dX12_count_68 ?_
    refine lv_iconst (v := 1) hx hb dX12_count_71 (by decide) ?_
    refine va_iald (D := D) hx hb hK hP 1 0 rfl rfl (tl_in (by decide) (by decide)) dX12_count_72 ?_
    refine W.eq (g2 := F0 m 73 ls ([.int 0])) (by rw [hsd _ (by decide)]) ?_
    exact W.iret (v := 0) hx hb hr (fun t ht hW => ⟨_, rfl, (Or.inl ⟨by omega, rfl⟩), ht⟩) (fun q h => by cases h) dX12_count_73
  · refine lv_tableIn (tgt := 74) hx hb dX12_count_3 (by omega) (by omega) (by rw [c_1]; rfl) (by decide) ?_
    refine lv_aload_n hx hb dX12_count_74 rfl (lv_at hl 1 rfl) ?_
    refine va_get (D := D) (ci := 12) (v := .ref m0) (C := RX12) (T := TX12) (N := 49) hx hb hta inlX12 hown hK hP 0 rfl rfl 0 (by decide) (hta _ wk_149) (fun _ h9 => h9) rfl dX12_count_75 ?_
    refine lv_iconst (v := 2) hx hb dX12_count_78 (by decide) ?_
    refine va_iald (D := D) hx hb hK hP 1 0 rfl rfl (tl_in (by decide) (by decide)) dX12_count_79 ?_
    refine W.eq (g2 := F0 m 80 ls ([.int 0])) (by rw [hsd _ (by decide)]) ?_
    exact W.iret (v := 0) hx hb hr (fun t ht hW => ⟨_, rfl, (Or.inl ⟨by omega, rfl⟩), ht⟩) (fun q h => by cases h) dX12_count_80
  · refine lv_tableIn (tgt := 81) hx hb dX12_count_3 (by omega) (by omega) (by rw [c_1]; rfl) (by decide) ?_
    refine lv_aload_n hx hb dX12_count_81 rfl (lv_at hl 1 rfl) ?_
    refine va_get (D := D) (ci := 12) (v := .ref m0) (C := RX12) (T := TX12) (N := 49) hx hb hta inlX12 hown hK hP 0 rfl rfl 0 (by decide) (hta _ wk_149) (fun _ h9 => h9) rfl dX12_count_82 ?_
    refine lv_iconst (v := 3) hx hb dX12_count_85 (by decide) ?_
    refine va_iald (D := D) hx hb hK hP 1 0 rfl rfl (tl_in (by decide) (by decide)) dX12_count_86 ?_
    refine W.eq (g2 := F0 m 87 ls ([.int 0])) (by rw [hsd _ (by decide)]) ?_
    exact W.iret (v := 0) hx hb hr (fun t ht hW => ⟨_, rfl, (Or.inl ⟨by omega, rfl⟩), ht⟩) (fun q h => by cases h) dX12_count_87
  · refine lv_tableIn (tgt := 88) hx hb dX12_count_3 (by omega) (by omega) (by rw [c_1]; rfl) (by decide) ?_
    refine lv_aload_n hx hb dX12_count_88 rfl (lv_at hl 1 rfl) ?_
    refine va_get (D := D) (ci := 12) (v := .ref m3) (C := RX12) (T := TX12) (N := 49) hx hb hta inlX12 hown hK hP 0 rfl rfl 3 (by decide) (hta _ wk_152) (fun _ h9 => h9) rfl dX12_count_89 ?_
    refine lv_iconst (v := 0) hx hb dX12_count_92 (by decide) ?_
    refine va_iald (D := D) hx hb hK hP 2 0 rfl rfl (tl_in (by decide) (by decide)) dX12_count_93 ?_
    refine W.eq (g2 := F0 m 94 ls ([.int 0])) rfl ?_
    exact W.iret (v := 0) hx hb hr (fun t ht hW => ⟨_, rfl, (Or.inl ⟨by omega, rfl⟩), ht⟩) (fun q h => by cases h) dX12_count_94
  · refine lv_tableIn (tgt := 95) hx hb dX12_count_3 (by omega) (by omega) (by rw [c_1]; rfl) (by decide) ?_
    refine lv_aload_n hx hb dX12_count_95 rfl (lv_at hl 1 rfl) ?_
    refine va_get (D := D) (ci := 12) (v := .ref m3) (C := RX12) (T := TX12) (N := 49) hx hb hta inlX12 hown hK hP 0 rfl rfl 3 (by decide) (hta _ wk_152) (fun _ h9 => h9) rfl dX12_count_96 ?_
    refine lv_iconst (v := 1) hx hb dX12_count_99 (by decide) ?_
    refine va_iald (D := D) hx hb hK hP 2 0 rfl rfl (tl_in (by decide) (by decide)) dX12_count_100 ?_
    refine W.eq (g2 := F0 m 101 ls ([.int 0])) rfl ?_
    exact W.iret (v := 0) hx hb hr (fun t ht hW => ⟨_, rfl, (Or.inl ⟨by omega, rfl⟩), ht⟩) (fun q h => by cases h) dX12_count_101
  · refine lv_tableIn (tgt := 102) hx hb dX12_count_3 (by omega) (by omega) (by rw [c_1]; rfl) (by decide) ?_
    refine lv_aload_n hx hb dX12_count_102 rfl (lv_at hl 1 rfl) ?_
    refine va_get (D := D) (ci := 12) (v := .ref m3) (C := RX12) (T := TX12) (N := 49) hx hb hta inlX12 hown hK hP 0 rfl rfl 3 (by decide) (hta _ wk_152) (fun _ h9 => h9) rfl dX12_count_103 ?_
    refine lv_iconst (v := 2) hx hb dX12_count_106 (by decide) ?_
    refine va_iald (D := D) hx hb hK hP 2 0 rfl rfl (tl_in (by decide) (by decide)) dX12_count_107 ?_
    refine W.eq (g2 := F0 m 108 ls ([.int 0])) rfl ?_
    exact W.iret (v := 0) hx hb hr (fun t ht hW => ⟨_, rfl, (Or.inl ⟨by omega, rfl⟩), ht⟩) (fun q h => by cases h) dX12_count_108
  · refine lv_tableIn (tgt := 109) hx hb dX12_count_3 (by omega) (by omega) (by rw [c_1]; rfl) (by decide) ?_
    refine lv_aload_n hx hb dX12_count_109 rfl (lv_at hl 1 rfl) ?_
    refine va_get (D := D) (ci := 12) (v := .ref m0) (C := RX12) (T := TX12) (N := 49) hx hb hta inlX12 hown hK hP 0 rfl rfl 0 (by decide) (hta _ wk_149) (fun _ h9 => h9) rfl dX12_count_110 ?_
    refine lv_iconst (v := 4) hx hb dX12_count_113 (by decide) ?_
    refine va_iald (D := D) hx hb hK hP 1 0 rfl rfl (tl_in (by decide) (by decide)) dX12_count_114 ?_
    refine W.eq (g2 := F0 m 115 ls ([.int 0])) (by rw [hsd _ (by decide)]) ?_
    exact W.iret (v := 0) hx hb hr (fun t ht hW => ⟨_, rfl, (Or.inl ⟨by omega, rfl⟩), ht⟩) (fun q h => by cases h) dX12_count_115
  · refine lv_tableIn (tgt := 116) hx hb dX12_count_3 (by omega) (by omega) (by rw [c_1]; rfl) (by decide) ?_
    refine lv_iconst (v := 0) hx hb dX12_count_116 (by decide) ?_
    refine lv_istore_n (lv' := [(3, .int 0), (2, .int 0), (0, .ref md), (1, .int p0)]) hx hb dX12_count_117 rfl hl (by decide) rfl (fun ls hl => ?_)
    refine lv_iload_n hx hb dX12_count_118 rfl (lv_at hl 0 rfl) ?_
    refine lv_sipush (v := 300) hx hb dX12_count_119 (by decide) ?_
    refine lv_aload_n hx hb dX12_count_122 rfl (lv_at hl 2 rfl) ?_
    refine va_get (D := D) (ci := 12) (v := .ref m0) (C := RX12) (T := TX12) (N := 49) hx hb hta inlX12 hown hK hP 0 rfl rfl 0 (by decide) (hta _ wk_149) (fun _ h9 => h9) rfl dX12_count_123 ?_
    refine lv_iconst (v := 1) hx hb dX12_count_126 (by decide) ?_
    refine va_iald (D := D) hx hb hK hP 1 0 rfl rfl (tl_in (by decide) (by decide)) dX12_count_127 ?_
    refine W.eq (g2 := F0 m 128 ls ([.int 0, .int 300, .int 0])) (by rw [hsd _ (by decide)]) ?_
    refine lv_imul hx hb dX12_count_128 ?_
    refine lv_topi (fun z_2 ez_2 => ?_)
    obtain rfl : z_2 = (0 : Int32) := ez_2.trans (by decide)
    refine lv_icmp_ge (tgt := 161) hx hb dX12_count_129 (by decide) (fun _ => ?_) (fun c => absurd c (by decide))
    refine lv_iload_n hx hb dX12_count_161 rfl (lv_at hl 1 rfl) ?_
    exact W.iret (v := 0) hx hb hr (fun t ht hW => ⟨_, rfl, (Or.inl ⟨by omega, rfl⟩), ht⟩) (fun q h => by cases h) dX12_count_162
  · refine lv_tableIn (tgt := 163) hx hb dX12_count_3 (by omega) (by omega) (by rw [c_1]; rfl) (by decide) ?_
    refine lv_aload_n hx hb dX12_count_163 rfl (lv_at hl 1 rfl) ?_
    refine va_get (D := D) (ci := 12) (v := .int 0) (C := RX12) (T := TX12) (N := 49) hx hb hta inlX12 hown hK hP 0 rfl rfl 2 (by decide) (hta _ wk_347) (fun _ h9 => h9) rfl dX12_count_164 ?_
    exact W.iret (v := 0) hx hb hr (fun t ht hW => ⟨_, rfl, (Or.inl ⟨by omega, rfl⟩), ht⟩) (fun q h => by cases h) dX12_count_167
  · refine lv_tableIn (tgt := 168) hx hb dX12_count_3 (by omega) (by omega) (by rw [c_1]; rfl) (by decide) ?_
    refine lv_aload_n hx hb dX12_count_168 rfl (lv_at hl 1 rfl) ?_
    refine va_get (D := D) (ci := 12) (v := .ref m0) (C := RX12) (T := TX12) (N := 49) hx hb hta inlX12 hown hK hP 0 rfl rfl 0 (by decide) (hta _ wk_149) (fun _ h9 => h9) rfl dX12_count_169 ?_
    refine lv_sipush (v := 7665) hx hb dX12_count_172 (by decide) ?_
    refine va_iald (D := D) hx hb hK hP 1 0 rfl rfl (tl_in (by decide) (by decide)) dX12_count_175 ?_
    refine W.eq (g2 := F0 m 176 ls ([.int 0])) (by rw [hsd _ (by decide)]) ?_
    exact W.iret (v := 0) hx hb hr (fun t ht hW => ⟨_, rfl, (Or.inl ⟨by omega, rfl⟩), ht⟩) (fun q h => by cases h) dX12_count_176
  · refine lv_tableOut (tgt := 177) hx hb dX12_count_3 (by omega) (by decide) ?_
    refine lv_iconst (v := (-1)) hx hb dX12_count_177 (by decide) ?_
    exact W.iret (v := (-1)) hx hb hr (fun t ht hW => ⟨_, rfl, (Or.inr ⟨by omega, rfl⟩), ht⟩) (fun q h => by cases h) dX12_count_178
set_option maxHeartbeats 4000000 in
set_option maxRecDepth 100000 in
theorem c_X12_back (l : Launch) (D : va_G) (cy : Nat → ClassId) (sz : Nat) (md : Nat) (p0 : Int32) (m0 : Nat) (m1 : Nat) (m3 : Nat) (m4 : Nat) (m5 : Nat) (m6 : Nat) (m7 : Nat) (m8 : Nat) (m9 : Nat) (m10 : Nat) (m11 : Nat) (m12 : Nat) (m13 : Nat) (m14 : Nat) (m15 : Nat) (m16 : Nat) (m24 : Nat) (m26 : Nat) (m28 : Nat) (m30 : Nat) (m31 : Nat) (m35 : Nat) (m36 : Nat) (m38 : Nat) (m41 : Nat) (m42 : Nat) (m43 : Nat) (m44 : Nat) (m45 : Nat) (m46 : Nat) (m47 : Nat) (m48 : Nat)  : Met l yX12_back (tl_w yX12_back cX12_back 3 (some .int)) ({ frames := 1, cells := 0, slots := 0, locals := 25 }) (va_Pc [.ref md, .int p0] (tl_P D cy [(md, .inr (12, [.ref m0, .ref m1, .int 0, .ref m3, .ref m4, .ref m5, .ref m6, .ref m7, .ref m8, .ref m9, .ref m10, .ref m11, .ref m12, .ref m13, .ref m14, .ref m15, .ref m16, .int 0, .int 0, .int 0, .int 0, .int 0, .int 0, .int 0, .ref m24, .int 0, .ref m26, .int 0, .ref m28, .long 0, .ref m30, .ref m31, .int 0, .int 0, .int 0, .ref m35, .ref m36, .int 0, .ref m38, .int 0, .int 0, .ref m41, .ref m42, .ref m43, .ref m44, .ref m45, .ref m46, .ref m47, .ref m48])), (m48, .inl (cy 2, 4, .inl (fun _ => 0)))] sz)) (vp_Si (fun r : Int32 => r = (-1))) 0 0 (fun _ => False) := by
  refine Met.ofW (cc := cX12_back) (maxL := 3) (ret := (some .int)) (by decide) rfl ?_
  intro p e s m args below meth c s₁ B hml hv
  obtain ⟨rfl, hsz, hP, hK, hD0, hN⟩ := hv
  have hx := B.exec
  have hb := B.bytes
  have hr := B.returns
  have hta := tl_hta (atoms_spec (ws := tl_w yX12_back cX12_back 3 (some .int)) B.pre)
  have hown : s.vm.findClass RX12 = some m.cls := findClass_of_methodNamed B.named
  have hlocks := B.notSynchronized
  subst hsz
  have hD := hD0
  have hP : va_P D vwCl [(md, .inr (12, [.ref m0, .ref m1, .int 0, .ref m3, .ref m4, .ref m5, .ref m6, .ref m7, .ref m8, .ref m9, .ref m10, .ref m11, .ref m12, .ref m13, .ref m14, .ref m15, .ref m16, .int 0, .int 0, .int 0, .int 0, .int 0, .int 0, .int 0, .ref m24, .int 0, .ref m26, .int 0, .ref m28, .long 0, .ref m30, .ref m31, .int 0, .int 0, .int 0, .ref m35, .ref m36, .int 0, .ref m38, .int 0, .int 0, .ref m41, .ref m42, .ref m43, .ref m44, .ref m45, .ref m46, .ref m47, .ref m48])), (m48, .inl (cy 2, 4, .inl (fun _ => 0)))] s.heap := hP
  have hl := lv_entry ([.ref md, .int p0]) (n := 3) (Nat.le_of_ble_eq_true rfl)
  rw [lg_entry_eq]
  generalize (lg_sl ([.ref md, .int p0]) ++ List.replicate (3 - (lg_sl ([.ref md, .int p0])).length) Slot.unset).toArray = ls at hl ⊢
  have hl : lv_has ls 3 [(0, .ref md), (1, .int p0)] := hl
  refine lv_iload_n hx hb dX12_back_0 rfl (lv_at hl 1 rfl) ?_
  refine lv_i2l (v := p0.toInt64) hx hb dX12_back_1 (by first | rfl | decide) ?_
  refine lv_lconst (v := 0) hx hb dX12_back_2 (by decide) ?_
  refine lv_ldc2 (v := 3) hx hb hown (hta _ wk_221) dX12_back_3 ?_
  have hPc := hP.sub (ws' := []) [] rfl
  have hDc := hD.sub (ws' := []) [] (by decide) rfl
  refine tl_si (tl_rS (As := [.long p0.toInt64, .long 0, .long 3]) (rest := []) ⟨hx, hb, hml, hown, hta⟩ hK hN hPc hDc lk_X12_112 (c_X12_in l D cy s.heap.size p0.toInt64 0 3 ) rfl rfl ⟨Nat.le_of_ble_eq_true rfl, Nat.le_of_ble_eq_true rfl⟩ rfl hl.1 rfl (Nat.le_of_ble_eq_true rfl) dX12_back_6 ⟨Nat.le_of_ble_eq_true rfl, Nat.le_of_ble_eq_true rfl⟩) (fun r_2 hw_1 => ?_)
  simp only [Int32.toInt_toInt64] at hw_1
  have hw_1 : tl_E r_2 ((0 : Int) ≤ p0.toInt ∧ p0.toInt ≤ (3 : Int)) 1 0 := hw_1
  refine lv_if_eq (tgt := 21) hx hb dX12_back_9 (by decide) (fun c_3 => ?_) (fun c_3 => ?_)
  · have c_3 := hw_1.f c_3
    refine lv_iconst (v := (-1)) hx hb dX12_back_21 (by decide) ?_
    exact W.iret (v := (-1)) hx hb hr (fun t ht hW => ⟨_, rfl, rfl, ht⟩) (fun q h => by cases h) dX12_back_22
  · have c_3 := hw_1.t c_3
    refine lv_aload_n hx hb dX12_back_12 rfl (lv_at hl 0 rfl) ?_
    refine va_get (D := D) (ci := 12) (v := .ref m48) (C := RX12) (T := TX12) (N := 49) hx hb hta inlX12 hown hK hP 0 rfl rfl 48 (by decide) (hta _ wk_181) (fun _ h9 => h9) rfl dX12_back_13 ?_
    refine lv_iload_n hx hb dX12_back_16 rfl (lv_at hl 1 rfl) ?_
    refine va_zald (D := D) hx hb hK hP 1 2 rfl rfl (tl_in (by omega) (by omega)) dX12_back_17 ?_
    refine W.eq (g2 := F0 m 18 ls ([.int 0])) rfl ?_
    refine lv_if_ne (tgt := 23) hx hb dX12_back_18 (by decide) (fun c => absurd c (by decide)) (fun _ => ?_)
    refine lv_iconst (v := (-1)) hx hb dX12_back_21 (by decide) ?_
    exact W.iret (v := (-1)) hx hb hr (fun t ht hW => ⟨_, rfl, rfl, ht⟩) (fun q h => by cases h) dX12_back_22
set_option maxHeartbeats 4000000 in
set_option maxRecDepth 100000 in
theorem c_X12_givenBy (l : Launch) (D : va_G) (cy : Nat → ClassId) (sz : Nat) (md : Nat) (p0 : Int32) (m0 : Nat) (m1 : Nat) (m3 : Nat) (m4 : Nat) (m5 : Nat) (m6 : Nat) (m7 : Nat) (m8 : Nat) (m9 : Nat) (m10 : Nat) (m11 : Nat) (m12 : Nat) (m13 : Nat) (m14 : Nat) (m15 : Nat) (m16 : Nat) (m24 : Nat) (m26 : Nat) (m28 : Nat) (m30 : Nat) (m31 : Nat) (m35 : Nat) (m36 : Nat) (m38 : Nat) (m41 : Nat) (m42 : Nat) (m43 : Nat) (m44 : Nat) (m45 : Nat) (m46 : Nat) (m47 : Nat) (m48 : Nat)  : Met l yX12_givenBy (tl_w yX12_givenBy cX12_givenBy 4 (some .int)) ({ frames := 0, cells := 0, slots := 0, locals := 0 }) (va_Pc [.ref md, .int p0] (tl_P D cy [(md, .inr (12, [.ref m0, .ref m1, .int 0, .ref m3, .ref m4, .ref m5, .ref m6, .ref m7, .ref m8, .ref m9, .ref m10, .ref m11, .ref m12, .ref m13, .ref m14, .ref m15, .ref m16, .int 0, .int 0, .int 0, .int 0, .int 0, .int 0, .int 0, .ref m24, .int 0, .ref m26, .int 0, .ref m28, .long 0, .ref m30, .ref m31, .int 0, .int 0, .int 0, .ref m35, .ref m36, .int 0, .ref m38, .int 0, .int 0, .ref m41, .ref m42, .ref m43, .ref m44, .ref m45, .ref m46, .ref m47, .ref m48])), (m3, .inl (cy 0, 3, .inl (fun _ => 0)))] sz)) (vp_Si (fun r : Int32 => r = 0)) 0 0 (fun _ => False) := by
  refine Met.ofW (cc := cX12_givenBy) (maxL := 4) (ret := (some .int)) (by decide) rfl ?_
  intro p e s m args below meth c s₁ B hml hv
  obtain ⟨rfl, hsz, hP, hK, hD0, hN⟩ := hv
  have hx := B.exec
  have hb := B.bytes
  have hr := B.returns
  have hta := tl_hta (atoms_spec (ws := tl_w yX12_givenBy cX12_givenBy 4 (some .int)) B.pre)
  have hown : s.vm.findClass RX12 = some m.cls := findClass_of_methodNamed B.named
  have hlocks := B.notSynchronized
  subst hsz
  have hD := hD0
  have hP : va_P D vwCl [(md, .inr (12, [.ref m0, .ref m1, .int 0, .ref m3, .ref m4, .ref m5, .ref m6, .ref m7, .ref m8, .ref m9, .ref m10, .ref m11, .ref m12, .ref m13, .ref m14, .ref m15, .ref m16, .int 0, .int 0, .int 0, .int 0, .int 0, .int 0, .int 0, .ref m24, .int 0, .ref m26, .int 0, .ref m28, .long 0, .ref m30, .ref m31, .int 0, .int 0, .int 0, .ref m35, .ref m36, .int 0, .ref m38, .int 0, .int 0, .ref m41, .ref m42, .ref m43, .ref m44, .ref m45, .ref m46, .ref m47, .ref m48])), (m3, .inl (cy 0, 3, .inl (fun _ => 0)))] s.heap := hP
  have hl := lv_entry ([.ref md, .int p0]) (n := 4) (Nat.le_of_ble_eq_true rfl)
  rw [lg_entry_eq]
  generalize (lg_sl ([.ref md, .int p0]) ++ List.replicate (4 - (lg_sl ([.ref md, .int p0])).length) Slot.unset).toArray = ls at hl ⊢
  have hl : lv_has ls 4 [(0, .ref md), (1, .int p0)] := hl
  refine lv_iconst (v := 0) hx hb dX12_givenBy_0 (by decide) ?_
  refine lv_istore_n (lv' := [(2, .int 0), (0, .ref md), (1, .int p0)]) hx hb dX12_givenBy_1 rfl hl (by decide) rfl (fun ls hl => ?_)
  refine lv_iconst (v := 0) hx hb dX12_givenBy_2 (by decide) ?_
  refine lv_istore_n (lv' := [(3, .int 0), (2, .int 0), (0, .ref md), (1, .int p0)]) hx hb dX12_givenBy_3 rfl hl (by decide) rfl (fun ls hl => ?_)
  refine lv_iload_n hx hb dX12_givenBy_4 rfl (lv_at hl 0 rfl) ?_
  refine lv_aload_n hx hb dX12_givenBy_5 rfl (lv_at hl 2 rfl) ?_
  refine va_get (D := D) (ci := 12) (v := .ref m3) (C := RX12) (T := TX12) (N := 49) hx hb hta inlX12 hown hK hP 0 rfl rfl 3 (by decide) (hta _ wk_152) (fun _ h9 => h9) rfl dX12_givenBy_6 ?_
  refine lv_iconst (v := 2) hx hb dX12_givenBy_9 (by decide) ?_
  refine va_iald (D := D) hx hb hK hP 1 0 rfl rfl (tl_in (by decide) (by decide)) dX12_givenBy_10 ?_
  refine W.eq (g2 := F0 m 11 ls ([.int 0, .int 0])) rfl ?_
  refine lv_icmp_ge (tgt := 41) hx hb dX12_givenBy_11 (by decide) (fun _ => ?_) (fun c => absurd c (by decide))
  refine lv_iload_n hx hb dX12_givenBy_41 rfl (lv_at hl 1 rfl) ?_
  exact W.iret (v := 0) hx hb hr (fun t ht hW => ⟨_, rfl, rfl, ht⟩) (fun q h => by cases h) dX12_givenBy_42
set_option maxHeartbeats 4000000 in
set_option maxRecDepth 100000 in
theorem c_X12_brief (l : Launch) (D : va_G) (cy : Nat → ClassId) (sz : Nat) (md : Nat) (p0 : Int32) (m0 : Nat) (m1 : Nat) (m3 : Nat) (m4 : Nat) (m5 : Nat) (m6 : Nat) (m7 : Nat) (m8 : Nat) (m9 : Nat) (m10 : Nat) (m11 : Nat) (m12 : Nat) (m13 : Nat) (m14 : Nat) (m15 : Nat) (m16 : Nat) (m24 : Nat) (m26 : Nat) (m28 : Nat) (m30 : Nat) (m31 : Nat) (m35 : Nat) (m36 : Nat) (m38 : Nat) (m41 : Nat) (m42 : Nat) (m43 : Nat) (m44 : Nat) (m45 : Nat) (m46 : Nat) (m47 : Nat) (m48 : Nat)  : Met l yX12_brief (tl_w yX12_brief cX12_brief 3 (some .int)) ({ frames := 1, cells := 0, slots := 0, locals := 25 }) (va_Pc [.ref md, .int p0] (tl_P D cy [(md, .inr (12, [.ref m0, .ref m1, .int 0, .ref m3, .ref m4, .ref m5, .ref m6, .ref m7, .ref m8, .ref m9, .ref m10, .ref m11, .ref m12, .ref m13, .ref m14, .ref m15, .ref m16, .int 0, .int 0, .int 0, .int 0, .int 0, .int 0, .int 0, .ref m24, .int 0, .ref m26, .int 0, .ref m28, .long 0, .ref m30, .ref m31, .int 0, .int 0, .int 0, .ref m35, .ref m36, .int 0, .ref m38, .int 0, .int 0, .ref m41, .ref m42, .ref m43, .ref m44, .ref m45, .ref m46, .ref m47, .ref m48])), (m3, .inl (cy 0, 3, .inl (fun _ => 0)))] sz)) (vp_Si (fun r : Int32 => tl_E r (0 ≤ p0.toInt ∧ p0.toInt ≤ 999999999) p0 (-1))) 0 0 (fun _ => False) := by
  refine Met.ofW (cc := cX12_brief) (maxL := 3) (ret := (some .int)) (by decide) rfl ?_
  intro p e s m args below meth c s₁ B hml hv
  obtain ⟨rfl, hsz, hP, hK, hD0, hN⟩ := hv
  have hx := B.exec
  have hb := B.bytes
  have hr := B.returns
  have hta := tl_hta (atoms_spec (ws := tl_w yX12_brief cX12_brief 3 (some .int)) B.pre)
  have hown : s.vm.findClass RX12 = some m.cls := findClass_of_methodNamed B.named
  have hlocks := B.notSynchronized
  subst hsz
  have hD := hD0
  have hP : va_P D vwCl [(md, .inr (12, [.ref m0, .ref m1, .int 0, .ref m3, .ref m4, .ref m5, .ref m6, .ref m7, .ref m8, .ref m9, .ref m10, .ref m11, .ref m12, .ref m13, .ref m14, .ref m15, .ref m16, .int 0, .int 0, .int 0, .int 0, .int 0, .int 0, .int 0, .ref m24, .int 0, .ref m26, .int 0, .ref m28, .long 0, .ref m30, .ref m31, .int 0, .int 0, .int 0, .ref m35, .ref m36, .int 0, .ref m38, .int 0, .int 0, .ref m41, .ref m42, .ref m43, .ref m44, .ref m45, .ref m46, .ref m47, .ref m48])), (m3, .inl (cy 0, 3, .inl (fun _ => 0)))] s.heap := hP
  have hl := lv_entry ([.ref md, .int p0]) (n := 3) (Nat.le_of_ble_eq_true rfl)
  rw [lg_entry_eq]
  generalize (lg_sl ([.ref md, .int p0]) ++ List.replicate (3 - (lg_sl ([.ref md, .int p0])).length) Slot.unset).toArray = ls at hl ⊢
  have hl : lv_has ls 3 [(0, .ref md), (1, .int p0)] := hl
  refine lv_iload_n hx hb dX12_brief_0 rfl (lv_at hl 1 rfl) ?_
  refine lv_i2l (v := p0.toInt64) hx hb dX12_brief_1 (by first | rfl | decide) ?_
  refine lv_lconst (v := 0) hx hb dX12_brief_2 (by decide) ?_
  refine lv_ldc2 (v := 999999999) hx hb hown (hta _ wk_1460) dX12_brief_3 ?_
  have hPc := hP.sub (ws' := []) [] rfl
  have hDc := hD.sub (ws' := []) [] (by decide) rfl
  refine tl_si (tl_rS (As := [.long p0.toInt64, .long 0, .long 999999999]) (rest := []) ⟨hx, hb, hml, hown, hta⟩ hK hN hPc hDc lk_X12_112 (c_X12_in l D cy s.heap.size p0.toInt64 0 999999999 ) rfl rfl ⟨Nat.le_of_ble_eq_true rfl, Nat.le_of_ble_eq_true rfl⟩ rfl hl.1 rfl (Nat.le_of_ble_eq_true rfl) dX12_brief_6 ⟨Nat.le_of_ble_eq_true rfl, Nat.le_of_ble_eq_true rfl⟩) (fun r_2 hw_1 => ?_)
  simp only [Int32.toInt_toInt64] at hw_1
  have hw_1 : tl_E r_2 ((0 : Int) ≤ p0.toInt ∧ p0.toInt ≤ (999999999 : Int)) 1 0 := hw_1
  refine lv_if_ne (tgt := 14) hx hb dX12_brief_9 (by decide) (fun c_3 => ?_) (fun c_3 => ?_)
  · have c_3 := hw_1.t c_3
    refine lv_iload_n hx hb dX12_brief_14 rfl (lv_at hl 1 rfl) ?_
    refine lv_aload_n hx hb dX12_brief_15 rfl (lv_at hl 0 rfl) ?_
    refine lv_sipush (v := 255) hx hb dX12_brief_16 (by decide) ?_
    refine tl_si (tl_rV (As := [.int 255]) (rest := [.int p0]) ⟨hx, hb, hml, hown, hta⟩ hK hN hP hD (ci := 12) rfl 0 rfl lk_X12_547 (c_X12_givenBy l D cy s.heap.size md 255 m0 m1 m3 m4 m5 m6 m7 m8 m9 m10 m11 m12 m13 m14 m15 m16 m24 m26 m28 m30 m31 m35 m36 m38 m41 m42 m43 m44 m45 m46 m47 m48 ) rfl rfl ⟨Nat.le_of_ble_eq_true rfl, Nat.le_of_ble_eq_true rfl⟩ rfl hl.1 rfl (Nat.le_of_ble_eq_true rfl) dX12_brief_19 ⟨Nat.le_of_ble_eq_true rfl, Nat.le_of_ble_eq_true rfl⟩) (fun r_5 hw_4 => ?_)
    subst hw_4
    refine lv_isub hx hb dX12_brief_22 ?_
    refine lv_topi (fun z_6 ez_6 => ?_)
    have iz_6 : z_6.toInt = p0.toInt - (0 : Int) := by rw [ez_6]; exact tl_subN p0 0 rfl rfl (by omega) (by omega)
    refine lv_istore_n (lv' := [(2, .int z_6), (0, .ref md), (1, .int p0)]) hx hb dX12_brief_23 rfl hl (by decide) rfl (fun ls hl => ?_)
    refine lv_iload_n hx hb dX12_brief_24 rfl (lv_at hl 0 rfl) ?_
    refine lv_if_ge (tgt := 32) hx hb dX12_brief_25 (by decide) (fun c_7 => ?_) (fun c_7 => ?_)
    · have c_7 : (0 : Int) ≤ z_6.toInt := tl_le c_7
      refine lv_iload_n hx hb dX12_brief_32 rfl (lv_at hl 0 rfl) ?_
      exact W.iret (v := z_6) hx hb hr (fun t ht hW => ⟨_, rfl, (Or.inl ⟨by omega, by rw [ez_6]; simp⟩), ht⟩) (fun q h => by cases h) dX12_brief_33
    · have c_7 : z_6.toInt < (0 : Int) := tl_nle c_7
      exfalso; omega
  · have c_3 := hw_1.f c_3
    refine lv_iconst (v := (-1)) hx hb dX12_brief_12 (by decide) ?_
    exact W.iret (v := (-1)) hx hb hr (fun t ht hW => ⟨_, rfl, (Or.inr ⟨by omega, rfl⟩), ht⟩) (fun q h => by cases h) dX12_brief_13
set_option maxHeartbeats 4000000 in
set_option maxRecDepth 100000 in
theorem c_X12_bits (l : Launch) (D : va_G) (cy : Nat → ClassId) (sz : Nat)   : Met l yX12_bits (tl_w yX12_bits cX12_bits 3 (some .int)) ({ frames := 0, cells := 0, slots := 0, locals := 0 }) (va_Pc [.int 0] (tl_P D cy [] sz)) (vp_Si (fun r : Int32 => r = 0)) 0 0 (fun _ => False) := by
  refine Met.ofW (cc := cX12_bits) (maxL := 3) (ret := (some .int)) (by decide) rfl ?_
  intro p e s m args below meth c s₁ B hml hv
  obtain ⟨rfl, hsz, hP, hK, hD0, hN⟩ := hv
  have hx := B.exec
  have hb := B.bytes
  have hr := B.returns
  have hta := tl_hta (atoms_spec (ws := tl_w yX12_bits cX12_bits 3 (some .int)) B.pre)
  have hown : s.vm.findClass RX12 = some m.cls := findClass_of_methodNamed B.named
  have hlocks := B.notSynchronized
  subst hsz
  have hD := hD0
  have hP : va_P D vwCl [] s.heap := hP
  have hl := lv_entry ([.int 0]) (n := 3) (Nat.le_of_ble_eq_true rfl)
  rw [lg_entry_eq]
  generalize (lg_sl ([.int 0]) ++ List.replicate (3 - (lg_sl ([.int 0])).length) Slot.unset).toArray = ls at hl ⊢
  have hl : lv_has ls 3 [(0, .int 0)] := hl
  refine lv_iconst (v := 0) hx hb dX12_bits_0 (by decide) ?_
  refine lv_istore_n (lv' := [(1, .int 0), (0, .int 0)]) hx hb dX12_bits_1 rfl hl (by decide) rfl (fun ls hl => ?_)
  refine lv_iload_n hx hb dX12_bits_2 rfl (lv_at hl 1 rfl) ?_
  refine lv_istore_n (lv' := [(2, .int 0), (1, .int 0), (0, .int 0)]) hx hb dX12_bits_3 rfl hl (by decide) rfl (fun ls hl => ?_)
  refine lv_iload_n hx hb dX12_bits_4 rfl (lv_at hl 0 rfl) ?_
  refine lv_if_eq (tgt := 20) hx hb dX12_bits_5 (by decide) (fun _ => ?_) (fun c => absurd c (by decide))
  refine lv_iload_n hx hb dX12_bits_20 rfl (lv_at hl 1 rfl) ?_
  exact W.iret (v := 0) hx hb hr (fun t ht hW => ⟨_, rfl, rfl, ht⟩) (fun q h => by cases h) dX12_bits_21
set_option maxHeartbeats 4000000 in
set_option maxRecDepth 100000 in
theorem c_X12_fewest (l : Launch) (D : va_G) (cy : Nat → ClassId) (sz : Nat) (md : Nat) (p0 : Int32) (p1 : Int32) (m0 : Nat) (m1 : Nat) (m3 : Nat) (m4 : Nat) (m5 : Nat) (m6 : Nat) (m7 : Nat) (m8 : Nat) (m9 : Nat) (m10 : Nat) (m11 : Nat) (m12 : Nat) (m13 : Nat) (m14 : Nat) (m15 : Nat) (m16 : Nat) (m24 : Nat) (m26 : Nat) (m28 : Nat) (m30 : Nat) (m31 : Nat) (m35 : Nat) (m36 : Nat) (m38 : Nat) (m41 : Nat) (m42 : Nat) (m43 : Nat) (m44 : Nat) (m45 : Nat) (m46 : Nat) (m47 : Nat) (m48 : Nat)  : Met l yX12_fewest (tl_w yX12_fewest cX12_fewest 7 (some .int)) ({ frames := 1, cells := 0, slots := 0, locals := 25 }) (va_Pc [.ref md, .int p0, .int p1] (tl_P D cy [(md, .inr (12, [.ref m0, .ref m1, .int 0, .ref m3, .ref m4, .ref m5, .ref m6, .ref m7, .ref m8, .ref m9, .ref m10, .ref m11, .ref m12, .ref m13, .ref m14, .ref m15, .ref m16, .int 0, .int 0, .int 0, .int 0, .int 0, .int 0, .int 0, .ref m24, .int 0, .ref m26, .int 0, .ref m28, .long 0, .ref m30, .ref m31, .int 0, .int 0, .int 0, .ref m35, .ref m36, .int 0, .ref m38, .int 0, .int 0, .ref m41, .ref m42, .ref m43, .ref m44, .ref m45, .ref m46, .ref m47, .ref m48])), (m3, .inl (cy 0, 3, .inl (fun _ => 0)))] sz)) (vp_Si (fun r : Int32 => tl_E r ((0 ≤ p0.toInt ∧ p0.toInt ≤ 999999999) ∧ 0 ≤ p1.toInt ∧ p1.toInt ≤ 1) (tl_few p0) (-1))) 0 0 (fun _ => False) := by
  refine Met.ofW (cc := cX12_fewest) (maxL := 7) (ret := (some .int)) (by decide) rfl ?_
  intro p e s m args below meth c s₁ B hml hv
  obtain ⟨rfl, hsz, hP, hK, hD0, hN⟩ := hv
  have hx := B.exec
  have hb := B.bytes
  have hr := B.returns
  have hta := tl_hta (atoms_spec (ws := tl_w yX12_fewest cX12_fewest 7 (some .int)) B.pre)
  have hown : s.vm.findClass RX12 = some m.cls := findClass_of_methodNamed B.named
  have hlocks := B.notSynchronized
  subst hsz
  have hD := hD0
  have hP : va_P D vwCl [(md, .inr (12, [.ref m0, .ref m1, .int 0, .ref m3, .ref m4, .ref m5, .ref m6, .ref m7, .ref m8, .ref m9, .ref m10, .ref m11, .ref m12, .ref m13, .ref m14, .ref m15, .ref m16, .int 0, .int 0, .int 0, .int 0, .int 0, .int 0, .int 0, .ref m24, .int 0, .ref m26, .int 0, .ref m28, .long 0, .ref m30, .ref m31, .int 0, .int 0, .int 0, .ref m35, .ref m36, .int 0, .ref m38, .int 0, .int 0, .ref m41, .ref m42, .ref m43, .ref m44, .ref m45, .ref m46, .ref m47, .ref m48])), (m3, .inl (cy 0, 3, .inl (fun _ => 0)))] s.heap := hP
  have hl := lv_entry ([.ref md, .int p0, .int p1]) (n := 7) (Nat.le_of_ble_eq_true rfl)
  rw [lg_entry_eq]
  generalize (lg_sl ([.ref md, .int p0, .int p1]) ++ List.replicate (7 - (lg_sl ([.ref md, .int p0, .int p1])).length) Slot.unset).toArray = ls at hl ⊢
  have hl : lv_has ls 7 [(0, .ref md), (1, .int p0), (2, .int p1)] := hl
  refine lv_iload_n hx hb dX12_fewest_0 rfl (lv_at hl 1 rfl) ?_
  refine lv_i2l (v := p0.toInt64) hx hb dX12_fewest_1 (by first | rfl | decide) ?_
  refine lv_lconst (v := 0) hx hb dX12_fewest_2 (by decide) ?_
  refine lv_ldc2 (v := 999999999) hx hb hown (hta _ wk_1460) dX12_fewest_3 ?_
  have hPc := hP.sub (ws' := []) [] rfl
  have hDc := hD.sub (ws' := []) [] (by decide) rfl
  refine tl_si (tl_rS (As := [.long p0.toInt64, .long 0, .long 999999999]) (rest := []) ⟨hx, hb, hml, hown, hta⟩ hK hN hPc hDc lk_X12_112 (c_X12_in l D cy s.heap.size p0.toInt64 0 999999999 ) rfl rfl ⟨Nat.le_of_ble_eq_true rfl, Nat.le_of_ble_eq_true rfl⟩ rfl hl.1 rfl (Nat.le_of_ble_eq_true rfl) dX12_fewest_6 ⟨Nat.le_of_ble_eq_true rfl, Nat.le_of_ble_eq_true rfl⟩) (fun r_2 hw_1 => ?_)
  simp only [Int32.toInt_toInt64] at hw_1
  have hw_1 : tl_E r_2 ((0 : Int) ≤ p0.toInt ∧ p0.toInt ≤ (999999999 : Int)) 1 0 := hw_1
  refine lv_if_eq (tgt := 22) hx hb dX12_fewest_9 (by decide) (fun c_3 => ?_) (fun c_3 => ?_)
  · have c_3 := hw_1.f c_3
    refine lv_iconst (v := (-1)) hx hb dX12_fewest_22 (by decide) ?_
    exact W.iret (v := (-1)) hx hb hr (fun t ht hW => ⟨_, rfl, (Or.inr ⟨by omega, rfl⟩), ht⟩) (fun q h => by cases h) dX12_fewest_23
  · have c_3 := hw_1.t c_3
    refine lv_iload_n hx hb dX12_fewest_12 rfl (lv_at hl 2 rfl) ?_
    refine lv_i2l (v := p1.toInt64) hx hb dX12_fewest_13 (by first | rfl | decide) ?_
    refine lv_lconst (v := 0) hx hb dX12_fewest_14 (by decide) ?_
    refine lv_lconst (v := 1) hx hb dX12_fewest_15 (by decide) ?_
    have hPc := hP.sub (ws' := []) [] rfl
    have hDc := hD.sub (ws' := []) [] (by decide) rfl
    refine tl_si (tl_rS (As := [.long p1.toInt64, .long 0, .long 1]) (rest := []) ⟨hx, hb, hml, hown, hta⟩ hK hN hPc hDc lk_X12_112 (c_X12_in l D cy s.heap.size p1.toInt64 0 1 ) rfl rfl ⟨Nat.le_of_ble_eq_true rfl, Nat.le_of_ble_eq_true rfl⟩ rfl hl.1 rfl (Nat.le_of_ble_eq_true rfl) dX12_fewest_16 ⟨Nat.le_of_ble_eq_true rfl, Nat.le_of_ble_eq_true rfl⟩) (fun r_5 hw_4 => ?_)
    simp only [Int32.toInt_toInt64] at hw_4
    have hw_4 : tl_E r_5 ((0 : Int) ≤ p1.toInt ∧ p1.toInt ≤ (1 : Int)) 1 0 := hw_4
    refine lv_if_ne (tgt := 24) hx hb dX12_fewest_19 (by decide) (fun c_6 => ?_) (fun c_6 => ?_)
    · have c_6 := hw_4.t c_6
      refine lv_bipush (v := (-2)) hx hb dX12_fewest_24 (by decide) ?_
      refine lv_istore_n (lv' := [(3, .int (-2)), (0, .ref md), (1, .int p0), (2, .int p1)]) hx hb dX12_fewest_26 rfl hl (by decide) rfl (fun ls hl => ?_)
      refine lv_iconst (v := 0) hx hb dX12_fewest_27 (by decide) ?_
      refine lv_istore (lv' := [(4, .int 0), (3, .int (-2)), (0, .ref md), (1, .int p0), (2, .int p1)]) hx hb dX12_fewest_28 hl (by decide) rfl (fun ls hl => ?_)
      refine lv_iconst (v := 0) hx hb dX12_fewest_30 (by decide) ?_
      refine lv_istore (lv' := [(5, .int 0), (4, .int 0), (3, .int (-2)), (0, .ref md), (1, .int p0), (2, .int p1)]) hx hb dX12_fewest_31 hl (by decide) rfl (fun ls hl => ?_)
      refine lv_iload hx hb dX12_fewest_33 (lv_at hl 0 rfl) ?_
      refine lv_iconst (v := 1) hx hb dX12_fewest_35 (by decide) ?_
      refine lv_aload_n hx hb dX12_fewest_36 rfl (lv_at hl 3 rfl) ?_
      refine va_get (D := D) (ci := 12) (v := .ref m3) (C := RX12) (T := TX12) (N := 49) hx hb hta inlX12 hown hK hP 0 rfl rfl 3 (by decide) (hta _ wk_152) (fun _ h9 => h9) rfl dX12_fewest_37 ?_
      refine lv_iconst (v := 2) hx hb dX12_fewest_40 (by decide) ?_
      refine va_iald (D := D) hx hb hK hP 1 0 rfl rfl (tl_in (by decide) (by decide)) dX12_fewest_41 ?_
      refine W.eq (g2 := F0 m 42 ls ([.int 0, .int 1, .int 0])) rfl ?_
      refine lv_ishl hx hb dX12_fewest_42 ?_
      refine lv_topi (fun z_7 ez_7 => ?_)
      obtain rfl : z_7 = (1 : Int32) := ez_7.trans (by decide)
      refine lv_icmp_ge (tgt := 111) hx hb dX12_fewest_43 (by decide) (fun c => absurd c (by decide)) (fun _ => ?_)
      refine lv_aload_n hx hb dX12_fewest_46 rfl (lv_at hl 3 rfl) ?_
      refine lv_iload hx hb dX12_fewest_47 (lv_at hl 0 rfl) ?_
      refine tl_si (tl_rV (As := [.int 0]) (rest := []) ⟨hx, hb, hml, hown, hta⟩ hK hN hP hD (ci := 12) rfl 0 rfl lk_X12_547 (c_X12_givenBy l D cy s.heap.size md 0 m0 m1 m3 m4 m5 m6 m7 m8 m9 m10 m11 m12 m13 m14 m15 m16 m24 m26 m28 m30 m31 m35 m36 m38 m41 m42 m43 m44 m45 m46 m47 m48 ) rfl rfl ⟨Nat.le_of_ble_eq_true rfl, Nat.le_of_ble_eq_true rfl⟩ rfl hl.1 rfl (Nat.le_of_ble_eq_true rfl) dX12_fewest_49 ⟨Nat.le_of_ble_eq_true rfl, Nat.le_of_ble_eq_true rfl⟩) (fun r_9 hw_8 => ?_)
      subst hw_8
      refine lv_istore (lv' := [(6, .int 0), (5, .int 0), (4, .int 0), (3, .int (-2)), (0, .ref md), (1, .int p0), (2, .int p1)]) hx hb dX12_fewest_52 hl (by decide) rfl (fun ls hl => ?_)
      refine lv_iload hx hb dX12_fewest_54 (lv_at hl 0 rfl) ?_
      refine lv_iload_n hx hb dX12_fewest_56 rfl (lv_at hl 5 rfl) ?_
      refine lv_icmp_lt (tgt := 105) hx hb dX12_fewest_57 (by decide) (fun c_10 => ?_) (fun c_10 => ?_)
      · have c_10 : (0 : Int) < p0.toInt := tl_lt c_10
        refine lv_iinc (v := 1) (lv' := [(5, .int 1), (6, .int 0), (4, .int 0), (3, .int (-2)), (0, .ref md), (1, .int p0), (2, .int p1)]) hx hb dX12_fewest_105 hl (k := 1) rfl (by decide) (by decide) rfl (fun ls hl => ?_)
        refine lv_goto (tgt := 33) hx hb dX12_fewest_108 (by decide) ?_
        refine lv_iload hx hb dX12_fewest_33 (lv_at hl 0 rfl) ?_
        refine lv_iconst (v := 1) hx hb dX12_fewest_35 (by decide) ?_
        refine lv_aload_n hx hb dX12_fewest_36 rfl (lv_at hl 4 rfl) ?_
        refine va_get (D := D) (ci := 12) (v := .ref m3) (C := RX12) (T := TX12) (N := 49) hx hb hta inlX12 hown hK hP 0 rfl rfl 3 (by decide) (hta _ wk_152) (fun _ h9 => h9) rfl dX12_fewest_37 ?_
        refine lv_iconst (v := 2) hx hb dX12_fewest_40 (by decide) ?_
        refine va_iald (D := D) hx hb hK hP 1 0 rfl rfl (tl_in (by decide) (by decide)) dX12_fewest_41 ?_
        refine W.eq (g2 := F0 m 42 ls ([.int 0, .int 1, .int 1])) rfl ?_
        refine lv_ishl hx hb dX12_fewest_42 ?_
        refine lv_topi (fun z_11 ez_11 => ?_)
        obtain rfl : z_11 = (1 : Int32) := ez_11.trans (by decide)
        refine lv_icmp_ge (tgt := 111) hx hb dX12_fewest_43 (by decide) (fun _ => ?_) (fun c => absurd c (by decide))
        refine lv_iload_n hx hb dX12_fewest_111 rfl (lv_at hl 3 rfl) ?_
        refine lv_if_ge (tgt := 120) hx hb dX12_fewest_112 (by decide) (fun c => absurd c (by decide)) (fun _ => ?_)
        refine lv_bipush (v := (-2)) hx hb dX12_fewest_115 (by decide) ?_
        refine lv_goto (tgt := 132) hx hb dX12_fewest_117 (by decide) ?_
        exact W.iret (v := (-2)) hx hb hr (fun t ht hW => ⟨_, rfl, (Or.inl ⟨by omega, (tl_few_p (by omega)).symm⟩), ht⟩) (fun q h => by cases h) dX12_fewest_132
      · have c_10 : p0.toInt ≤ (0 : Int) := tl_nlt c_10
        refine lv_iload_n hx hb dX12_fewest_60 rfl (lv_at hl 3 rfl) ?_
        refine lv_if_lt (tgt := 98) hx hb dX12_fewest_61 (by decide) (fun _ => ?_) (fun c => absurd c (by decide))
        refine lv_iload hx hb dX12_fewest_98 (lv_at hl 1 rfl) ?_
        refine lv_istore_n (lv' := [(3, .int 0), (6, .int 0), (5, .int 0), (4, .int 0), (0, .ref md), (1, .int p0), (2, .int p1)]) hx hb dX12_fewest_100 rfl hl (by decide) rfl (fun ls hl => ?_)
        refine lv_iload hx hb dX12_fewest_101 (lv_at hl 1 rfl) ?_
        refine lv_istore (lv' := [(4, .int 0), (3, .int 0), (6, .int 0), (5, .int 0), (0, .ref md), (1, .int p0), (2, .int p1)]) hx hb dX12_fewest_103 hl (by decide) rfl (fun ls hl => ?_)
        refine lv_iinc (v := 1) (lv' := [(5, .int 1), (4, .int 0), (3, .int 0), (6, .int 0), (0, .ref md), (1, .int p0), (2, .int p1)]) hx hb dX12_fewest_105 hl (k := 3) rfl (by decide) (by decide) rfl (fun ls hl => ?_)
        refine lv_goto (tgt := 33) hx hb dX12_fewest_108 (by decide) ?_
        refine lv_iload hx hb dX12_fewest_33 (lv_at hl 0 rfl) ?_
        refine lv_iconst (v := 1) hx hb dX12_fewest_35 (by decide) ?_
        refine lv_aload_n hx hb dX12_fewest_36 rfl (lv_at hl 4 rfl) ?_
        refine va_get (D := D) (ci := 12) (v := .ref m3) (C := RX12) (T := TX12) (N := 49) hx hb hta inlX12 hown hK hP 0 rfl rfl 3 (by decide) (hta _ wk_152) (fun _ h9 => h9) rfl dX12_fewest_37 ?_
        refine lv_iconst (v := 2) hx hb dX12_fewest_40 (by decide) ?_
        refine va_iald (D := D) hx hb hK hP 1 0 rfl rfl (tl_in (by decide) (by decide)) dX12_fewest_41 ?_
        refine W.eq (g2 := F0 m 42 ls ([.int 0, .int 1, .int 1])) rfl ?_
        refine lv_ishl hx hb dX12_fewest_42 ?_
        refine lv_topi (fun z_12 ez_12 => ?_)
        obtain rfl : z_12 = (1 : Int32) := ez_12.trans (by decide)
        refine lv_icmp_ge (tgt := 111) hx hb dX12_fewest_43 (by decide) (fun _ => ?_) (fun c => absurd c (by decide))
        refine lv_iload_n hx hb dX12_fewest_111 rfl (lv_at hl 2 rfl) ?_
        refine lv_if_ge (tgt := 120) hx hb dX12_fewest_112 (by decide) (fun _ => ?_) (fun c => absurd c (by decide))
        refine lv_iload_n hx hb dX12_fewest_120 rfl (lv_at hl 6 rfl) ?_
        refine lv_if_ne (tgt := 131) hx hb dX12_fewest_121 (by decide) (fun c_13 => ?_) (fun c_13 => ?_)
        · have c_13 : ¬ p1.toInt = (0 : Int) := tl_neq c_13
          refine lv_iload_n hx hb dX12_fewest_131 rfl (lv_at hl 2 rfl) ?_
          exact W.iret (v := 0) hx hb hr (fun t ht hW => ⟨_, rfl, (Or.inl ⟨by omega, (tl_few_0 (by omega)).symm⟩), ht⟩) (fun q h => by cases h) dX12_fewest_132
        · have c_13 : p1.toInt = (0 : Int) := tl_eq c_13
          refine lv_iload_n hx hb dX12_fewest_124 rfl (lv_at hl 2 rfl) ?_
          have hPc := hP.sub (ws' := []) [] rfl
          have hDc := hD.sub (ws' := []) [] (by decide) rfl
          refine tl_si (tl_rS (As := [.int 0]) (rest := []) ⟨hx, hb, hml, hown, hta⟩ hK hN hPc hDc lk_X12_550 (c_X12_bits l D cy s.heap.size  ) rfl rfl ⟨Nat.le_of_ble_eq_true rfl, Nat.le_of_ble_eq_true rfl⟩ rfl hl.1 rfl (Nat.le_of_ble_eq_true rfl) dX12_fewest_125 ⟨Nat.le_of_ble_eq_true rfl, Nat.le_of_ble_eq_true rfl⟩) (fun r_15 hw_14 => ?_)
          subst hw_14
          refine lv_goto (tgt := 132) hx hb dX12_fewest_128 (by decide) ?_
          exact W.iret (v := 0) hx hb hr (fun t ht hW => ⟨_, rfl, (Or.inl ⟨by omega, (tl_few_0 (by omega)).symm⟩), ht⟩) (fun q h => by cases h) dX12_fewest_132
    · have c_6 := hw_4.f c_6
      refine lv_iconst (v := (-1)) hx hb dX12_fewest_22 (by decide) ?_
      exact W.iret (v := (-1)) hx hb hr (fun t ht hW => ⟨_, rfl, (Or.inr ⟨by omega, rfl⟩), ht⟩) (fun q h => by cases h) dX12_fewest_23
set_option maxHeartbeats 4000000 in
set_option maxRecDepth 100000 in
theorem c_X12_firsts (l : Launch) (D : va_G) (cy : Nat → ClassId) (sz : Nat) (md : Nat) (m0 : Nat) (m1 : Nat) (m3 : Nat) (m4 : Nat) (m5 : Nat) (m6 : Nat) (m7 : Nat) (m8 : Nat) (m9 : Nat) (m10 : Nat) (m11 : Nat) (m12 : Nat) (m13 : Nat) (m14 : Nat) (m15 : Nat) (m16 : Nat) (m24 : Nat) (m26 : Nat) (m28 : Nat) (m30 : Nat) (m31 : Nat) (m35 : Nat) (m36 : Nat) (m38 : Nat) (m41 : Nat) (m42 : Nat) (m43 : Nat) (m44 : Nat) (m45 : Nat) (m46 : Nat) (m47 : Nat) (m48 : Nat) (sd : Nat → Int32) (hsd : ∀ k : Nat, (k < 441 ∨ 7641 ≤ k) → sd k = 0) : Met l yX12_firsts (tl_w yX12_firsts cX12_firsts 6 none) ({ frames := 0, cells := 0, slots := 0, locals := 0 }) (va_Pc [.ref md] (tl_P D cy [(md, .inr (12, [.ref m0, .ref m1, .int 0, .ref m3, .ref m4, .ref m5, .ref m6, .ref m7, .ref m8, .ref m9, .ref m10, .ref m11, .ref m12, .ref m13, .ref m14, .ref m15, .ref m16, .int 0, .int 0, .int 0, .int 0, .int 0, .int 0, .int 0, .ref m24, .int 0, .ref m26, .int 0, .ref m28, .long 0, .ref m30, .ref m31, .int 0, .int 0, .int 0, .ref m35, .ref m36, .int 0, .ref m38, .int 0, .int 0, .ref m41, .ref m42, .ref m43, .ref m44, .ref m45, .ref m46, .ref m47, .ref m48])), (m0, .inl (cy 0, 7666, .inl sd))] sz)) (va_Sv (fun _ : Unit => True)) 0 0 (fun _ => False) := by
  refine Met.ofW (cc := cX12_firsts) (maxL := 6) (ret := none) (by decide) rfl ?_
  intro p e s m args below meth c s₁ B hml hv
  obtain ⟨rfl, hsz, hP, hK, hD0, hN⟩ := hv
  have hx := B.exec
  have hb := B.bytes
  have hr := B.returns
  have hta := tl_hta (atoms_spec (ws := tl_w yX12_firsts cX12_firsts 6 none) B.pre)
  have hown : s.vm.findClass RX12 = some m.cls := findClass_of_methodNamed B.named
  have hlocks := B.notSynchronized
  subst hsz
  have hD := hD0
  have hP : va_P D vwCl [(md, .inr (12, [.ref m0, .ref m1, .int 0, .ref m3, .ref m4, .ref m5, .ref m6, .ref m7, .ref m8, .ref m9, .ref m10, .ref m11, .ref m12, .ref m13, .ref m14, .ref m15, .ref m16, .int 0, .int 0, .int 0, .int 0, .int 0, .int 0, .int 0, .ref m24, .int 0, .ref m26, .int 0, .ref m28, .long 0, .ref m30, .ref m31, .int 0, .int 0, .int 0, .ref m35, .ref m36, .int 0, .ref m38, .int 0, .int 0, .ref m41, .ref m42, .ref m43, .ref m44, .ref m45, .ref m46, .ref m47, .ref m48])), (m0, .inl (cy 0, 7666, .inl sd))] s.heap := hP
  have hl := lv_entry ([.ref md]) (n := 6) (Nat.le_of_ble_eq_true rfl)
  rw [lg_entry_eq]
  generalize (lg_sl ([.ref md]) ++ List.replicate (6 - (lg_sl ([.ref md])).length) Slot.unset).toArray = ls at hl ⊢
  have hl : lv_has ls 6 [(0, .ref md)] := hl
  refine lv_iconst (v := 0) hx hb dX12_firsts_0 (by decide) ?_
  refine lv_istore_n (lv' := [(1, .int 0), (0, .ref md)]) hx hb dX12_firsts_1 rfl hl (by decide) rfl (fun ls hl => ?_)
  refine lv_iload_n hx hb dX12_firsts_2 rfl (lv_at hl 0 rfl) ?_
  refine lv_aload_n hx hb dX12_firsts_3 rfl (lv_at hl 1 rfl) ?_
  refine va_get (D := D) (ci := 12) (v := .ref m0) (C := RX12) (T := TX12) (N := 49) hx hb hta inlX12 hown hK hP 0 rfl rfl 0 (by decide) (hta _ wk_149) (fun _ h9 => h9) rfl dX12_firsts_4 ?_
  refine lv_sipush (v := 7665) hx hb dX12_firsts_7 (by decide) ?_
  refine va_iald (D := D) hx hb hK hP 1 0 rfl rfl (tl_in (by decide) (by decide)) dX12_firsts_10 ?_
  refine W.eq (g2 := F0 m 11 ls ([.int 0, .int 0])) (by rw [hsd _ (by decide)]) ?_
  refine lv_icmp_ge (tgt := 149) hx hb dX12_firsts_11 (by decide) (fun _ => ?_) (fun c => absurd c (by decide))
  exact W.vret hx hb hr (fun t ht hW => ⟨rfl, trivial, ht⟩) (fun q h => by cases h) dX12_firsts_149
set_option maxHeartbeats 4000000 in
set_option maxRecDepth 100000 in
theorem c_X12_sayers (l : Launch) (D : va_G) (cy : Nat → ClassId) (sz : Nat) (md : Nat) (p0 : Int32) (m0 : Nat) (m1 : Nat) (m3 : Nat) (m4 : Nat) (m5 : Nat) (m6 : Nat) (m7 : Nat) (m8 : Nat) (m9 : Nat) (m10 : Nat) (m11 : Nat) (m12 : Nat) (m13 : Nat) (m14 : Nat) (m15 : Nat) (m16 : Nat) (m24 : Nat) (m26 : Nat) (m28 : Nat) (m30 : Nat) (m31 : Nat) (m35 : Nat) (m36 : Nat) (m38 : Nat) (m41 : Nat) (m42 : Nat) (m43 : Nat) (m44 : Nat) (m45 : Nat) (m46 : Nat) (m47 : Nat) (m48 : Nat) (sd : Nat → Int32) (hsd : ∀ k : Nat, (k < 441 ∨ 7641 ≤ k) → sd k = 0) : Met l yX12_sayers (tl_w yX12_sayers cX12_sayers 4 (some .int)) ({ frames := 0, cells := 0, slots := 0, locals := 0 }) (va_Pc [.ref md, .int p0] (tl_P D cy [(md, .inr (12, [.ref m0, .ref m1, .int 0, .ref m3, .ref m4, .ref m5, .ref m6, .ref m7, .ref m8, .ref m9, .ref m10, .ref m11, .ref m12, .ref m13, .ref m14, .ref m15, .ref m16, .int 0, .int 0, .int 0, .int 0, .int 0, .int 0, .int 0, .ref m24, .int 0, .ref m26, .int 0, .ref m28, .long 0, .ref m30, .ref m31, .int 0, .int 0, .int 0, .ref m35, .ref m36, .int 0, .ref m38, .int 0, .int 0, .ref m41, .ref m42, .ref m43, .ref m44, .ref m45, .ref m46, .ref m47, .ref m48])), (m0, .inl (cy 0, 7666, .inl sd))] sz)) (vp_Si (fun r : Int32 => r = 0)) 0 0 (fun _ => False) := by
  refine Met.ofW (cc := cX12_sayers) (maxL := 4) (ret := (some .int)) (by decide) rfl ?_
  intro p e s m args below meth c s₁ B hml hv
  obtain ⟨rfl, hsz, hP, hK, hD0, hN⟩ := hv
  have hx := B.exec
  have hb := B.bytes
  have hr := B.returns
  have hta := tl_hta (atoms_spec (ws := tl_w yX12_sayers cX12_sayers 4 (some .int)) B.pre)
  have hown : s.vm.findClass RX12 = some m.cls := findClass_of_methodNamed B.named
  have hlocks := B.notSynchronized
  subst hsz
  have hD := hD0
  have hP : va_P D vwCl [(md, .inr (12, [.ref m0, .ref m1, .int 0, .ref m3, .ref m4, .ref m5, .ref m6, .ref m7, .ref m8, .ref m9, .ref m10, .ref m11, .ref m12, .ref m13, .ref m14, .ref m15, .ref m16, .int 0, .int 0, .int 0, .int 0, .int 0, .int 0, .int 0, .ref m24, .int 0, .ref m26, .int 0, .ref m28, .long 0, .ref m30, .ref m31, .int 0, .int 0, .int 0, .ref m35, .ref m36, .int 0, .ref m38, .int 0, .int 0, .ref m41, .ref m42, .ref m43, .ref m44, .ref m45, .ref m46, .ref m47, .ref m48])), (m0, .inl (cy 0, 7666, .inl sd))] s.heap := hP
  have hl := lv_entry ([.ref md, .int p0]) (n := 4) (Nat.le_of_ble_eq_true rfl)
  rw [lg_entry_eq]
  generalize (lg_sl ([.ref md, .int p0]) ++ List.replicate (4 - (lg_sl ([.ref md, .int p0])).length) Slot.unset).toArray = ls at hl ⊢
  have hl : lv_has ls 4 [(0, .ref md), (1, .int p0)] := hl
  refine lv_iconst (v := 0) hx hb dX12_sayers_0 (by decide) ?_
  refine lv_istore_n (lv' := [(2, .int 0), (0, .ref md), (1, .int p0)]) hx hb dX12_sayers_1 rfl hl (by decide) rfl (fun ls hl => ?_)
  refine lv_iconst (v := 0) hx hb dX12_sayers_2 (by decide) ?_
  refine lv_istore_n (lv' := [(3, .int 0), (2, .int 0), (0, .ref md), (1, .int p0)]) hx hb dX12_sayers_3 rfl hl (by decide) rfl (fun ls hl => ?_)
  refine lv_iload_n hx hb dX12_sayers_4 rfl (lv_at hl 0 rfl) ?_
  refine lv_aload_n hx hb dX12_sayers_5 rfl (lv_at hl 2 rfl) ?_
  refine va_get (D := D) (ci := 12) (v := .ref m0) (C := RX12) (T := TX12) (N := 49) hx hb hta inlX12 hown hK hP 0 rfl rfl 0 (by decide) (hta _ wk_149) (fun _ h9 => h9) rfl dX12_sayers_6 ?_
  refine lv_sipush (v := 7665) hx hb dX12_sayers_9 (by decide) ?_
  refine va_iald (D := D) hx hb hK hP 1 0 rfl rfl (tl_in (by decide) (by decide)) dX12_sayers_12 ?_
  refine W.eq (g2 := F0 m 13 ls ([.int 0, .int 0])) (by rw [hsd _ (by decide)]) ?_
  refine lv_icmp_ge (tgt := 40) hx hb dX12_sayers_13 (by decide) (fun _ => ?_) (fun c => absurd c (by decide))
  refine lv_iload_n hx hb dX12_sayers_40 rfl (lv_at hl 1 rfl) ?_
  exact W.iret (v := 0) hx hb hr (fun t ht hW => ⟨_, rfl, rfl, ht⟩) (fun q h => by cases h) dX12_sayers_41
set_option maxHeartbeats 4000000 in
set_option maxRecDepth 100000 in
theorem c_X12_agreed (l : Launch) (D : va_G) (cy : Nat → ClassId) (sz : Nat) (md : Nat) (p0 : Int32) (m0 : Nat) (m1 : Nat) (m3 : Nat) (m4 : Nat) (m5 : Nat) (m6 : Nat) (m7 : Nat) (m8 : Nat) (m9 : Nat) (m10 : Nat) (m11 : Nat) (m12 : Nat) (m13 : Nat) (m14 : Nat) (m15 : Nat) (m16 : Nat) (m24 : Nat) (m26 : Nat) (m28 : Nat) (m30 : Nat) (m31 : Nat) (m35 : Nat) (m36 : Nat) (m38 : Nat) (m41 : Nat) (m42 : Nat) (m43 : Nat) (m44 : Nat) (m45 : Nat) (m46 : Nat) (m47 : Nat) (m48 : Nat) (sd : Nat → Int32) (hsd : ∀ k : Nat, (k < 441 ∨ 7641 ≤ k) → sd k = 0) : Met l yX12_agreed (tl_w yX12_agreed cX12_agreed 3 (some .int)) ({ frames := 1, cells := 0, slots := 0, locals := 25 }) (va_Pc [.ref md, .int p0] (tl_P D cy [(md, .inr (12, [.ref m0, .ref m1, .int 0, .ref m3, .ref m4, .ref m5, .ref m6, .ref m7, .ref m8, .ref m9, .ref m10, .ref m11, .ref m12, .ref m13, .ref m14, .ref m15, .ref m16, .int 0, .int 0, .int 0, .int 0, .int 0, .int 0, .int 0, .ref m24, .int 0, .ref m26, .int 0, .ref m28, .long 0, .ref m30, .ref m31, .int 0, .int 0, .int 0, .ref m35, .ref m36, .int 0, .ref m38, .int 0, .int 0, .ref m41, .ref m42, .ref m43, .ref m44, .ref m45, .ref m46, .ref m47, .ref m48])), (m0, .inl (cy 0, 7666, .inl sd))] sz)) (vp_Si (fun r : Int32 => tl_E r (0 ≤ p0.toInt ∧ p0.toInt ≤ 399) (-2) (-1))) 0 0 (fun _ => False) := by
  refine Met.ofW (cc := cX12_agreed) (maxL := 3) (ret := (some .int)) (by decide) rfl ?_
  intro p e s m args below meth c s₁ B hml hv
  obtain ⟨rfl, hsz, hP, hK, hD0, hN⟩ := hv
  have hx := B.exec
  have hb := B.bytes
  have hr := B.returns
  have hta := tl_hta (atoms_spec (ws := tl_w yX12_agreed cX12_agreed 3 (some .int)) B.pre)
  have hown : s.vm.findClass RX12 = some m.cls := findClass_of_methodNamed B.named
  have hlocks := B.notSynchronized
  subst hsz
  have hD := hD0
  have hP : va_P D vwCl [(md, .inr (12, [.ref m0, .ref m1, .int 0, .ref m3, .ref m4, .ref m5, .ref m6, .ref m7, .ref m8, .ref m9, .ref m10, .ref m11, .ref m12, .ref m13, .ref m14, .ref m15, .ref m16, .int 0, .int 0, .int 0, .int 0, .int 0, .int 0, .int 0, .ref m24, .int 0, .ref m26, .int 0, .ref m28, .long 0, .ref m30, .ref m31, .int 0, .int 0, .int 0, .ref m35, .ref m36, .int 0, .ref m38, .int 0, .int 0, .ref m41, .ref m42, .ref m43, .ref m44, .ref m45, .ref m46, .ref m47, .ref m48])), (m0, .inl (cy 0, 7666, .inl sd))] s.heap := hP
  have hl := lv_entry ([.ref md, .int p0]) (n := 3) (Nat.le_of_ble_eq_true rfl)
  rw [lg_entry_eq]
  generalize (lg_sl ([.ref md, .int p0]) ++ List.replicate (3 - (lg_sl ([.ref md, .int p0])).length) Slot.unset).toArray = ls at hl ⊢
  have hl : lv_has ls 3 [(0, .ref md), (1, .int p0)] := hl
  refine lv_iload_n hx hb dX12_agreed_0 rfl (lv_at hl 1 rfl) ?_
  have hPc := hP.sub (ws' := []) [] rfl
  have hDc := hD.sub (ws' := []) [] (by decide) rfl
  refine tl_si (tl_rS (As := [.int p0]) (rest := []) ⟨hx, hb, hml, hown, hta⟩ hK hN hPc hDc lk_X12_496 (c_X12_isWeek l D cy s.heap.size p0 ) rfl rfl ⟨Nat.le_of_ble_eq_true rfl, Nat.le_of_ble_eq_true rfl⟩ rfl hl.1 rfl (Nat.le_of_ble_eq_true rfl) dX12_agreed_1 ⟨Nat.le_of_ble_eq_true rfl, Nat.le_of_ble_eq_true rfl⟩) (fun r_2 hw_1 => ?_)
  have hw_1 : tl_E r_2 (0 ≤ p0.toInt ∧ p0.toInt ≤ 399) 1 0 := hw_1
  refine lv_if_ne (tgt := 9) hx hb dX12_agreed_4 (by decide) (fun c_3 => ?_) (fun c_3 => ?_)
  · have c_3 := hw_1.t c_3
    refine lv_aload_n hx hb dX12_agreed_9 rfl (lv_at hl 0 rfl) ?_
    refine tl_sv (tl_rV (As := []) (rest := []) ⟨hx, hb, hml, hown, hta⟩ hK hN hP hD (ci := 12) rfl 0 rfl lk_X12_526 (c_X12_firsts l D cy s.heap.size md m0 m1 m3 m4 m5 m6 m7 m8 m9 m10 m11 m12 m13 m14 m15 m16 m24 m26 m28 m30 m31 m35 m36 m38 m41 m42 m43 m44 m45 m46 m47 m48 sd hsd) rfl rfl ⟨Nat.le_of_ble_eq_true rfl, Nat.le_of_ble_eq_true rfl⟩ rfl hl.1 rfl (Nat.le_of_ble_eq_true rfl) dX12_agreed_10 ⟨Nat.le_of_ble_eq_true rfl, Nat.le_of_ble_eq_true rfl⟩) (fun _ hw_4 => ?_)
    refine lv_iconst (v := 0) hx hb dX12_agreed_13 (by decide) ?_
    refine lv_istore_n (lv' := [(2, .int 0), (0, .ref md), (1, .int p0)]) hx hb dX12_agreed_14 rfl hl (by decide) rfl (fun ls hl => ?_)
    refine tl_indR (G := fun ls => W p l e ((headSpec (tl_w yX12_agreed cX12_agreed 3 (some .int)) ({ frames := 1, cells := 0, slots := 0, locals := 25 })).room) s m #[.ref md, .int p0] below meth c s.heap [] 0 0 (MQ below (vp_Si (fun r : Int32 => tl_E r (0 ≤ p0.toInt ∧ p0.toInt ≤ 399) (-2) (-1))) #[.ref md, .int p0] s 0 0 (fun _ => False)) (F0 m 15 ls [])) (α := Int32) (fun aq => (400 - aq.toInt).toNat) (fun aq ls => (0 ≤ aq.toInt) ∧ (aq.toInt ≤ 400) ∧ lv_has ls 3 [(2, .int aq), (0, .ref md), (1, .int p0)]) ?_ 0 ls ⟨(show 0 ≤ (0 : Int) from (by omega)), (show (0 : Int) ≤ 400 from (by omega)), lv_sub hl [0, 1, 2] rfl⟩
    rintro i ls ⟨h0, h1, hl⟩ ih
    have h0 : 0 ≤ i.toInt := h0
    have h1 : i.toInt ≤ 400 := h1
    have hl : lv_has ls 3 [(2, .int i), (0, .ref md), (1, .int p0)] := hl
    refine lv_iload_n hx hb dX12_agreed_15 rfl (lv_at hl 0 rfl) ?_
    refine lv_iload_n hx hb dX12_agreed_16 rfl (lv_at hl 2 rfl) ?_
    refine lv_icmp_gt (tgt := 46) hx hb dX12_agreed_17 (by decide) (fun c_6 => ?_) (fun c_6 => ?_)
    · have c_6 : p0.toInt < i.toInt := tl_lt c_6
      refine lv_bipush (v := (-2)) hx hb dX12_agreed_46 (by decide) ?_
      exact W.iret (v := (-2)) hx hb hr (fun t ht hW => ⟨_, rfl, (Or.inl ⟨by omega, rfl⟩), ht⟩) (fun q h => by cases h) dX12_agreed_48
    · have c_6 : i.toInt ≤ p0.toInt := tl_nlt c_6
      refine lv_iconst (v := 2) hx hb dX12_agreed_20 (by decide) ?_
      refine lv_aload_n hx hb dX12_agreed_21 rfl (lv_at hl 1 rfl) ?_
      refine lv_iload_n hx hb dX12_agreed_22 rfl (lv_at hl 0 rfl) ?_
      refine tl_si (tl_rV (As := [.int i]) (rest := [.int 2]) ⟨hx, hb, hml, hown, hta⟩ hK hN hP hD (ci := 12) rfl 0 rfl lk_X12_529 (c_X12_sayers l D cy s.heap.size md i m0 m1 m3 m4 m5 m6 m7 m8 m9 m10 m11 m12 m13 m14 m15 m16 m24 m26 m28 m30 m31 m35 m36 m38 m41 m42 m43 m44 m45 m46 m47 m48 sd hsd) rfl rfl ⟨Nat.le_of_ble_eq_true rfl, Nat.le_of_ble_eq_true rfl⟩ rfl hl.1 rfl (Nat.le_of_ble_eq_true rfl) dX12_agreed_23 ⟨Nat.le_of_ble_eq_true rfl, Nat.le_of_ble_eq_true rfl⟩) (fun r_8 hw_7 => ?_)
      subst hw_7
      refine lv_imul hx hb dX12_agreed_26 ?_
      refine lv_topi (fun z_9 ez_9 => ?_)
      obtain rfl : z_9 = (0 : Int32) := ez_9.trans (by decide)
      refine lv_aload_n hx hb dX12_agreed_27 rfl (lv_at hl 1 rfl) ?_
      refine va_get (D := D) (ci := 12) (v := .ref m0) (C := RX12) (T := TX12) (N := 49) hx hb hta inlX12 hown hK hP 0 rfl rfl 0 (by decide) (hta _ wk_149) (fun _ h9 => h9) rfl dX12_agreed_28 ?_
      refine lv_sipush (v := 7665) hx hb dX12_agreed_31 (by decide) ?_
      refine va_iald (D := D) hx hb hK hP 1 0 rfl rfl (tl_in (by decide) (by decide)) dX12_agreed_34 ?_
      refine W.eq (g2 := F0 m 35 ls ([.int 0, .int 0])) (by rw [hsd _ (by decide)]) ?_
      refine lv_icmp_le (tgt := 40) hx hb dX12_agreed_35 (by decide) (fun _ => ?_) (fun c => absurd c (by decide))
      obtain ⟨z_10, ez_10⟩ : ∃ y : Int32, y = i + 1 := ⟨_, rfl⟩
      refine lv_iinc (v := z_10) (lv' := [(2, .int z_10), (0, .ref md), (1, .int p0)]) hx hb dX12_agreed_40 hl (k := 0) rfl (by rw [ez_10]; rfl) (by decide) rfl (fun ls hl => ?_)
      have iz_10 : z_10.toInt = i.toInt + 1 := by rw [ez_10]; exact tl_addL i 1 (by decide) (by omega) (by omega)
      refine lv_goto (tgt := 15) hx hb dX12_agreed_43 (by decide) ?_
      exact ih z_10 ls (by show (400 - z_10.toInt).toNat < (400 - i.toInt).toNat; omega) ⟨(show 0 ≤ z_10.toInt from (by omega)), (show z_10.toInt ≤ 400 from (by omega)), lv_sub hl [0, 1, 2] rfl⟩
  · have c_3 := hw_1.f c_3
    refine lv_iconst (v := (-1)) hx hb dX12_agreed_7 (by decide) ?_
    exact W.iret (v := (-1)) hx hb hr (fun t ht hW => ⟨_, rfl, (Or.inr ⟨by omega, rfl⟩), ht⟩) (fun q h => by cases h) dX12_agreed_8
set_option maxHeartbeats 4000000 in
set_option maxRecDepth 100000 in
theorem c_X12_alone (l : Launch) (D : va_G) (cy : Nat → ClassId) (sz : Nat) (md : Nat) (p0 : Int32) (m0 : Nat) (m1 : Nat) (m3 : Nat) (m4 : Nat) (m5 : Nat) (m6 : Nat) (m7 : Nat) (m8 : Nat) (m9 : Nat) (m10 : Nat) (m11 : Nat) (m12 : Nat) (m13 : Nat) (m14 : Nat) (m15 : Nat) (m16 : Nat) (m24 : Nat) (m26 : Nat) (m28 : Nat) (m30 : Nat) (m31 : Nat) (m35 : Nat) (m36 : Nat) (m38 : Nat) (m41 : Nat) (m42 : Nat) (m43 : Nat) (m44 : Nat) (m45 : Nat) (m46 : Nat) (m47 : Nat) (m48 : Nat) (sd : Nat → Int32) (hsd : ∀ k : Nat, (k < 441 ∨ 7641 ≤ k) → sd k = 0) : Met l yX12_alone (tl_w yX12_alone cX12_alone 3 (some .int)) ({ frames := 1, cells := 0, slots := 0, locals := 25 }) (va_Pc [.ref md, .int p0] (tl_P D cy [(md, .inr (12, [.ref m0, .ref m1, .int 0, .ref m3, .ref m4, .ref m5, .ref m6, .ref m7, .ref m8, .ref m9, .ref m10, .ref m11, .ref m12, .ref m13, .ref m14, .ref m15, .ref m16, .int 0, .int 0, .int 0, .int 0, .int 0, .int 0, .int 0, .ref m24, .int 0, .ref m26, .int 0, .ref m28, .long 0, .ref m30, .ref m31, .int 0, .int 0, .int 0, .ref m35, .ref m36, .int 0, .ref m38, .int 0, .int 0, .ref m41, .ref m42, .ref m43, .ref m44, .ref m45, .ref m46, .ref m47, .ref m48])), (m0, .inl (cy 0, 7666, .inl sd))] sz)) (vp_Si (fun r : Int32 => tl_E r (0 ≤ p0.toInt ∧ p0.toInt ≤ 399) (-2) (-1))) 0 0 (fun _ => False) := by
  refine Met.ofW (cc := cX12_alone) (maxL := 3) (ret := (some .int)) (by decide) rfl ?_
  intro p e s m args below meth c s₁ B hml hv
  obtain ⟨rfl, hsz, hP, hK, hD0, hN⟩ := hv
  have hx := B.exec
  have hb := B.bytes
  have hr := B.returns
  have hta := tl_hta (atoms_spec (ws := tl_w yX12_alone cX12_alone 3 (some .int)) B.pre)
  have hown : s.vm.findClass RX12 = some m.cls := findClass_of_methodNamed B.named
  have hlocks := B.notSynchronized
  subst hsz
  have hD := hD0
  have hP : va_P D vwCl [(md, .inr (12, [.ref m0, .ref m1, .int 0, .ref m3, .ref m4, .ref m5, .ref m6, .ref m7, .ref m8, .ref m9, .ref m10, .ref m11, .ref m12, .ref m13, .ref m14, .ref m15, .ref m16, .int 0, .int 0, .int 0, .int 0, .int 0, .int 0, .int 0, .ref m24, .int 0, .ref m26, .int 0, .ref m28, .long 0, .ref m30, .ref m31, .int 0, .int 0, .int 0, .ref m35, .ref m36, .int 0, .ref m38, .int 0, .int 0, .ref m41, .ref m42, .ref m43, .ref m44, .ref m45, .ref m46, .ref m47, .ref m48])), (m0, .inl (cy 0, 7666, .inl sd))] s.heap := hP
  have hl := lv_entry ([.ref md, .int p0]) (n := 3) (Nat.le_of_ble_eq_true rfl)
  rw [lg_entry_eq]
  generalize (lg_sl ([.ref md, .int p0]) ++ List.replicate (3 - (lg_sl ([.ref md, .int p0])).length) Slot.unset).toArray = ls at hl ⊢
  have hl : lv_has ls 3 [(0, .ref md), (1, .int p0)] := hl
  refine lv_iload_n hx hb dX12_alone_0 rfl (lv_at hl 1 rfl) ?_
  have hPc := hP.sub (ws' := []) [] rfl
  have hDc := hD.sub (ws' := []) [] (by decide) rfl
  refine tl_si (tl_rS (As := [.int p0]) (rest := []) ⟨hx, hb, hml, hown, hta⟩ hK hN hPc hDc lk_X12_496 (c_X12_isWeek l D cy s.heap.size p0 ) rfl rfl ⟨Nat.le_of_ble_eq_true rfl, Nat.le_of_ble_eq_true rfl⟩ rfl hl.1 rfl (Nat.le_of_ble_eq_true rfl) dX12_alone_1 ⟨Nat.le_of_ble_eq_true rfl, Nat.le_of_ble_eq_true rfl⟩) (fun r_2 hw_1 => ?_)
  have hw_1 : tl_E r_2 (0 ≤ p0.toInt ∧ p0.toInt ≤ 399) 1 0 := hw_1
  refine lv_if_ne (tgt := 9) hx hb dX12_alone_4 (by decide) (fun c_3 => ?_) (fun c_3 => ?_)
  · have c_3 := hw_1.t c_3
    refine lv_aload_n hx hb dX12_alone_9 rfl (lv_at hl 0 rfl) ?_
    refine tl_sv (tl_rV (As := []) (rest := []) ⟨hx, hb, hml, hown, hta⟩ hK hN hP hD (ci := 12) rfl 0 rfl lk_X12_526 (c_X12_firsts l D cy s.heap.size md m0 m1 m3 m4 m5 m6 m7 m8 m9 m10 m11 m12 m13 m14 m15 m16 m24 m26 m28 m30 m31 m35 m36 m38 m41 m42 m43 m44 m45 m46 m47 m48 sd hsd) rfl rfl ⟨Nat.le_of_ble_eq_true rfl, Nat.le_of_ble_eq_true rfl⟩ rfl hl.1 rfl (Nat.le_of_ble_eq_true rfl) dX12_alone_10 ⟨Nat.le_of_ble_eq_true rfl, Nat.le_of_ble_eq_true rfl⟩) (fun _ hw_4 => ?_)
    refine lv_aload_n hx hb dX12_alone_13 rfl (lv_at hl 0 rfl) ?_
    refine lv_iload_n hx hb dX12_alone_14 rfl (lv_at hl 1 rfl) ?_
    refine tl_si (tl_rV (As := [.int p0]) (rest := []) ⟨hx, hb, hml, hown, hta⟩ hK hN hP hD (ci := 12) rfl 0 rfl lk_X12_529 (c_X12_sayers l D cy s.heap.size md p0 m0 m1 m3 m4 m5 m6 m7 m8 m9 m10 m11 m12 m13 m14 m15 m16 m24 m26 m28 m30 m31 m35 m36 m38 m41 m42 m43 m44 m45 m46 m47 m48 sd hsd) rfl rfl ⟨Nat.le_of_ble_eq_true rfl, Nat.le_of_ble_eq_true rfl⟩ rfl hl.1 rfl (Nat.le_of_ble_eq_true rfl) dX12_alone_15 ⟨Nat.le_of_ble_eq_true rfl, Nat.le_of_ble_eq_true rfl⟩) (fun r_7 hw_6 => ?_)
    subst hw_6
    refine lv_iconst (v := 1) hx hb dX12_alone_18 (by decide) ?_
    refine lv_icmp_eq (tgt := 25) hx hb dX12_alone_19 (by decide) (fun c => absurd c (by decide)) (fun _ => ?_)
    refine lv_bipush (v := (-2)) hx hb dX12_alone_22 (by decide) ?_
    exact W.iret (v := (-2)) hx hb hr (fun t ht hW => ⟨_, rfl, (Or.inl ⟨by omega, rfl⟩), ht⟩) (fun q h => by cases h) dX12_alone_24
  · have c_3 := hw_1.f c_3
    refine lv_iconst (v := (-1)) hx hb dX12_alone_7 (by decide) ?_
    exact W.iret (v := (-1)) hx hb hr (fun t ht hW => ⟨_, rfl, (Or.inr ⟨by omega, rfl⟩), ht⟩) (fun q h => by cases h) dX12_alone_8

theorem dX11_isIn_0 : decode cX11_isIn 0 = .ok (.iload_n 0, 1) := by decide +kernel
theorem dX11_isIn_1 : decode cX11_isIn 1 = .ok (.iload_n 1, 1) := by decide +kernel
theorem dX11_isIn_2 : decode cX11_isIn 2 = .ok (.if_icmp .lt 12, 3) := by decide +kernel
theorem dX11_isIn_5 : decode cX11_isIn 5 = .ok (.iload_n 0, 1) := by decide +kernel
theorem dX11_isIn_6 : decode cX11_isIn 6 = .ok (.iload_n 2, 1) := by decide +kernel
theorem dX11_isIn_7 : decode cX11_isIn 7 = .ok (.if_icmp .gt 7, 3) := by decide +kernel
theorem dX11_isIn_10 : decode cX11_isIn 10 = .ok (.iconst 1, 1) := by decide +kernel
theorem dX11_isIn_11 : decode cX11_isIn 11 = .ok (.goto 4, 3) := by decide +kernel
theorem dX11_isIn_14 : decode cX11_isIn 14 = .ok (.iconst 0, 1) := by decide +kernel
theorem dX11_isIn_15 : decode cX11_isIn 15 = .ok (.ireturn, 1) := by decide +kernel
theorem dX11_isWeek_0 : decode cX11_isWeek 0 = .ok (.iload_n 0, 1) := by decide +kernel
theorem dX11_isWeek_1 : decode cX11_isWeek 1 = .ok (.iconst 0, 1) := by decide +kernel
theorem dX11_isWeek_2 : decode cX11_isWeek 2 = .ok (.sipush 399, 3) := by decide +kernel
theorem dX11_isWeek_5 : decode cX11_isWeek 5 = .ok (.invokestatic 105, 3) := by decide +kernel
theorem dX11_isWeek_8 : decode cX11_isWeek 8 = .ok (.ireturn, 1) := by decide +kernel
theorem wk_2 : Cond.initialized RX11 ∈ tl_L := List.mem_filter.mpr ⟨lw_m1 (i := 1) rfl, rfl⟩
theorem wk_190 : Cond.methodLink RX11 105 yX11_isIn ∈ tl_L := List.mem_filter.mpr ⟨lw_m2 (i := 195) rfl, rfl⟩
theorem wk_191 : Cond.static yX11_isIn ∈ tl_L := List.mem_filter.mpr ⟨lw_m2 (i := 196) rfl, rfl⟩
theorem wk_192 : Cond.code yX11_isIn cX11_isIn 3 (some .boolean) ∈ tl_L := List.mem_filter.mpr ⟨lw_m2 (i := 197) rfl, rfl⟩
theorem lk_X11_105 : tl_kS RX11 105 yX11_isIn cX11_isIn 3 (some .boolean) 3 := ⟨wk_192, wk_190, wk_191, wk_2, ⟨by decide +kernel, by decide +kernel, by decide +kernel⟩⟩
theorem dX11_isColour_0 : decode cX11_isColour 0 = .ok (.iload_n 0, 1) := by decide +kernel
theorem dX11_isColour_1 : decode cX11_isColour 1 = .ok (.iconst 0, 1) := by decide +kernel
theorem dX11_isColour_2 : decode cX11_isColour 2 = .ok (.sipush 299, 3) := by decide +kernel
theorem dX11_isColour_5 : decode cX11_isColour 5 = .ok (.invokestatic 105, 3) := by decide +kernel
theorem dX11_isColour_8 : decode cX11_isColour 8 = .ok (.ireturn, 1) := by decide +kernel
theorem dX11_isGlass_0 : decode cX11_isGlass 0 = .ok (.iload_n 0, 1) := by decide +kernel
theorem dX11_isGlass_1 : decode cX11_isGlass 1 = .ok (.iconst 0, 1) := by decide +kernel
theorem dX11_isGlass_2 : decode cX11_isGlass 2 = .ok (.iconst 3, 1) := by decide +kernel
theorem dX11_isGlass_3 : decode cX11_isGlass 3 = .ok (.invokestatic 105, 3) := by decide +kernel
theorem dX11_isGlass_6 : decode cX11_isGlass 6 = .ok (.ireturn, 1) := by decide +kernel
theorem dX11_isStuff_0 : decode cX11_isStuff 0 = .ok (.iload_n 0, 1) := by decide +kernel
theorem dX11_isStuff_1 : decode cX11_isStuff 1 = .ok (.iconst 0, 1) := by decide +kernel
theorem dX11_isStuff_2 : decode cX11_isStuff 2 = .ok (.bipush 11, 2) := by decide +kernel
theorem dX11_isStuff_4 : decode cX11_isStuff 4 = .ok (.invokestatic 105, 3) := by decide +kernel
theorem dX11_isStuff_7 : decode cX11_isStuff 7 = .ok (.ireturn, 1) := by decide +kernel
theorem dX11_isBar_0 : decode cX11_isBar 0 = .ok (.iload_n 0, 1) := by decide +kernel
theorem dX11_isBar_1 : decode cX11_isBar 1 = .ok (.ldc_w 494, 3) := by decide +kernel
theorem dX11_isBar_4 : decode cX11_isBar 4 = .ok (.ldc_w 495, 3) := by decide +kernel
theorem dX11_isBar_7 : decode cX11_isBar 7 = .ok (.invokestatic 105, 3) := by decide +kernel
theorem dX11_isBar_10 : decode cX11_isBar 10 = .ok (.ireturn, 1) := by decide +kernel
theorem wk_1085 : Cond.constant RX11 494 (-999999) ∈ tl_L := List.mem_filter.mpr ⟨lw_m5 (i := 46) rfl, rfl⟩
theorem wk_1086 : Cond.constant RX11 495 (999999) ∈ tl_L := List.mem_filter.mpr ⟨lw_m5 (i := 47) rfl, rfl⟩
theorem dX11_isNeed_0 : decode cX11_isNeed 0 = .ok (.iload_n 0, 1) := by decide +kernel
theorem dX11_isNeed_1 : decode cX11_isNeed 1 = .ok (.iconst 0, 1) := by decide +kernel
theorem dX11_isNeed_2 : decode cX11_isNeed 2 = .ok (.ldc_w 496, 3) := by decide +kernel
theorem dX11_isNeed_5 : decode cX11_isNeed 5 = .ok (.invokestatic 105, 3) := by decide +kernel
theorem dX11_isNeed_8 : decode cX11_isNeed 8 = .ok (.ireturn, 1) := by decide +kernel
theorem wk_1451 : Cond.constant RX11 496 (999999999) ∈ tl_L := List.mem_filter.mpr ⟨lw_m6 (i := 9) rfl, rfl⟩
theorem dX11_isSpan_0 : decode cX11_isSpan 0 = .ok (.iload_n 0, 1) := by decide +kernel
theorem dX11_isSpan_1 : decode cX11_isSpan 1 = .ok (.invokestatic 125, 3) := by decide +kernel
theorem dX11_isSpan_4 : decode cX11_isSpan 4 = .ok (.ifCond .eq 19, 3) := by decide +kernel
theorem dX11_isSpan_7 : decode cX11_isSpan 7 = .ok (.iload_n 1, 1) := by decide +kernel
theorem dX11_isSpan_8 : decode cX11_isSpan 8 = .ok (.invokestatic 125, 3) := by decide +kernel
theorem dX11_isSpan_11 : decode cX11_isSpan 11 = .ok (.ifCond .eq 12, 3) := by decide +kernel
theorem dX11_isSpan_14 : decode cX11_isSpan 14 = .ok (.iload_n 0, 1) := by decide +kernel
theorem dX11_isSpan_15 : decode cX11_isSpan 15 = .ok (.iload_n 1, 1) := by decide +kernel
theorem dX11_isSpan_16 : decode cX11_isSpan 16 = .ok (.if_icmp .gt 7, 3) := by decide +kernel
theorem dX11_isSpan_19 : decode cX11_isSpan 19 = .ok (.iconst 1, 1) := by decide +kernel
theorem dX11_isSpan_20 : decode cX11_isSpan 20 = .ok (.goto 4, 3) := by decide +kernel
theorem dX11_isSpan_23 : decode cX11_isSpan 23 = .ok (.iconst 0, 1) := by decide +kernel
theorem dX11_isSpan_24 : decode cX11_isSpan 24 = .ok (.ireturn, 1) := by decide +kernel
theorem wk_234 : Cond.methodLink RX11 125 yX11_isColour ∈ tl_L := List.mem_filter.mpr ⟨lw_m2 (i := 224) rfl, rfl⟩
theorem wk_235 : Cond.static yX11_isColour ∈ tl_L := List.mem_filter.mpr ⟨lw_m2 (i := 225) rfl, rfl⟩
theorem wk_236 : Cond.code yX11_isColour cX11_isColour 1 (some .boolean) ∈ tl_L := List.mem_filter.mpr ⟨lw_m2 (i := 226) rfl, rfl⟩
theorem lk_X11_125 : tl_kS RX11 125 yX11_isColour cX11_isColour 1 (some .boolean) 1 := ⟨wk_236, wk_234, wk_235, wk_2, ⟨by decide +kernel, by decide +kernel, by decide +kernel⟩⟩
theorem dX11_held_0 : decode cX11_held 0 = .ok (.lload_n 2, 1) := by decide +kernel
theorem dX11_held_1 : decode cX11_held 1 = .ok (.lload 4, 2) := by decide +kernel
theorem dX11_held_3 : decode cX11_held 3 = .ok (.lload_n 0, 1) := by decide +kernel
theorem dX11_held_4 : decode cX11_held 4 = .ok (.invokestatic 362, 3) := by decide +kernel
theorem dX11_held_7 : decode cX11_held 7 = .ok (.invokestatic 360, 3) := by decide +kernel
theorem dX11_held_10 : decode cX11_held 10 = .ok (.lreturn, 1) := by decide +kernel
theorem wk_83 : Cond.initialized "java/lang/Math" ∈ tl_L := List.mem_filter.mpr ⟨lw_m1 (i := 5) rfl, rfl⟩
theorem wk_759 : Cond.methodLink RX11 362 Lib.MathLoose.min_long.x ∈ tl_L := List.mem_filter.mpr ⟨by decide +kernel, rfl⟩
theorem wk_760 : Cond.static Lib.MathLoose.min_long.x ∈ tl_L := List.mem_filter.mpr ⟨by decide +kernel, rfl⟩
theorem wk_761 : Cond.code Lib.MathLoose.min_long.x Lib.MathLoose.min_long.code 4 (some .long) ∈ tl_L := List.mem_filter.mpr ⟨List.mem_of_getElem? (i := 982) (by decide +kernel), rfl⟩
theorem wk_762 : Cond.methodLink RX11 360 Lib.MathLoose.max_long.x ∈ tl_L := List.mem_filter.mpr ⟨by decide +kernel, rfl⟩
theorem wk_763 : Cond.static Lib.MathLoose.max_long.x ∈ tl_L := List.mem_filter.mpr ⟨by decide +kernel, rfl⟩
theorem wk_764 : Cond.code Lib.MathLoose.max_long.x Lib.MathLoose.max_long.code 4 (some .long) ∈ tl_L := List.mem_filter.mpr ⟨List.mem_of_getElem? (i := 985) (by decide +kernel), rfl⟩
set_option maxHeartbeats 4000000 in
set_option maxRecDepth 100000 in
theorem t_X11_isIn (l : Launch) (D : va_G) (cy : Nat → ClassId) (sz : Nat) (L : List Nat) (K : Nat → tk_K) (Γ : tk_G) (f : Nat → va_E) (p0 : Int32) (p1 : Int32) (p2 : Int32)  : Met l yX11_isIn (tl_w yX11_isIn cX11_isIn 3 (some .boolean)) ({ frames := 0, cells := 0, slots := 0, locals := 0 }) (va_Pc [.int p0, .int p1, .int p2] (tp_P D cy L K Γ f sz)) (vp_Si (fun r : Int32 => tl_E r (p1.toInt ≤ p0.toInt ∧ p0.toInt ≤ p2.toInt) 1 0)) 0 0 (fun _ => False) := by
  refine Met.ofW (cc := cX11_isIn) (maxL := 3) (ret := (some .boolean)) (by decide) rfl ?_
  intro p e s m args below meth c s₁ B hml hv
  obtain ⟨rfl, hsz, hP, hK, hL, hI, hN, hU⟩ := hv
  have hx := B.exec
  have hb := B.bytes
  have hr := B.returns
  have hta := tl_hta (atoms_spec (ws := tl_w yX11_isIn cX11_isIn 3 (some .boolean)) B.pre)
  have hown : s.vm.findClass RX11 = some m.cls := findClass_of_methodNamed B.named
  have hlocks := B.notSynchronized
  subst hsz
  have hI0 := hI
  have hl := lv_entry ([.int p0, .int p1, .int p2]) (n := 3) (Nat.le_of_ble_eq_true rfl)
  rw [lg_entry_eq]
  generalize (lg_sl ([.int p0, .int p1, .int p2]) ++ List.replicate (3 - (lg_sl ([.int p0, .int p1, .int p2])).length) Slot.unset).toArray = ls at hl ⊢
  have hl : lv_has ls 3 [(0, .int p0), (1, .int p1), (2, .int p2)] := hl
  refine lv_iload_n hx hb dX11_isIn_0 rfl (lv_at hl 0 rfl) ?_
  refine lv_iload_n hx hb dX11_isIn_1 rfl (lv_at hl 1 rfl) ?_
  refine lv_icmp_lt (tgt := 14) hx hb dX11_isIn_2 (by decide) (fun c_1 => ?_) (fun c_1 => ?_)
  · have c_1 : p0.toInt < p1.toInt := tl_lt c_1
    refine lv_iconst (v := 0) hx hb dX11_isIn_14 (by decide) ?_
    exact W.zret (ty := .boolean) (v := 0) hx hb hr rfl (fun t ht hW => ⟨_, rfl, (Or.inr ⟨by omega, rfl⟩), ht⟩) (fun q h => by cases h) dX11_isIn_15
  · have c_1 : p1.toInt ≤ p0.toInt := tl_nlt c_1
    refine lv_iload_n hx hb dX11_isIn_5 rfl (lv_at hl 0 rfl) ?_
    refine lv_iload_n hx hb dX11_isIn_6 rfl (lv_at hl 2 rfl) ?_
    refine lv_icmp_gt (tgt := 14) hx hb dX11_isIn_7 (by decide) (fun c_2 => ?_) (fun c_2 => ?_)
    · have c_2 : p2.toInt < p0.toInt := tl_lt c_2
      refine lv_iconst (v := 0) hx hb dX11_isIn_14 (by decide) ?_
      exact W.zret (ty := .boolean) (v := 0) hx hb hr rfl (fun t ht hW => ⟨_, rfl, (Or.inr ⟨by omega, rfl⟩), ht⟩) (fun q h => by cases h) dX11_isIn_15
    · have c_2 : p0.toInt ≤ p2.toInt := tl_nlt c_2
      refine lv_iconst (v := 1) hx hb dX11_isIn_10 (by decide) ?_
      refine lv_goto (tgt := 15) hx hb dX11_isIn_11 (by decide) ?_
      exact W.zret (ty := .boolean) (v := 1) hx hb hr rfl (fun t ht hW => ⟨_, rfl, (Or.inl ⟨by omega, rfl⟩), ht⟩) (fun q h => by cases h) dX11_isIn_15
set_option maxHeartbeats 4000000 in
set_option maxRecDepth 100000 in
theorem t_X11_isWeek (l : Launch) (D : va_G) (cy : Nat → ClassId) (sz : Nat) (L : List Nat) (K : Nat → tk_K) (Γ : tk_G) (f : Nat → va_E) (p0 : Int32)  : Met l yX11_isWeek (tl_w yX11_isWeek cX11_isWeek 1 (some .boolean)) ({ frames := 1, cells := 0, slots := 0, locals := 22 }) (va_Pc [.int p0] (tp_P D cy L K Γ f sz)) (vp_Si (fun r : Int32 => tl_E r (0 ≤ p0.toInt ∧ p0.toInt ≤ 399) 1 0)) 0 0 (fun _ => False) := by
  refine Met.ofW (cc := cX11_isWeek) (maxL := 1) (ret := (some .boolean)) (by decide) rfl ?_
  intro p e s m args below meth c s₁ B hml hv
  obtain ⟨rfl, hsz, hP, hK, hL, hI, hN, hU⟩ := hv
  have hx := B.exec
  have hb := B.bytes
  have hr := B.returns
  have hta := tl_hta (atoms_spec (ws := tl_w yX11_isWeek cX11_isWeek 1 (some .boolean)) B.pre)
  have hown : s.vm.findClass RX11 = some m.cls := findClass_of_methodNamed B.named
  have hlocks := B.notSynchronized
  subst hsz
  have hI0 := hI
  have hl := lv_entry ([.int p0]) (n := 1) (Nat.le_of_ble_eq_true rfl)
  rw [lg_entry_eq]
  generalize (lg_sl ([.int p0]) ++ List.replicate (1 - (lg_sl ([.int p0])).length) Slot.unset).toArray = ls at hl ⊢
  have hl : lv_has ls 1 [(0, .int p0)] := hl
  refine lv_iload_n hx hb dX11_isWeek_0 rfl (lv_at hl 0 rfl) ?_
  refine lv_iconst (v := 0) hx hb dX11_isWeek_1 (by decide) ?_
  refine lv_sipush (v := 399) hx hb dX11_isWeek_2 (by decide) ?_
  refine tl_si (tq_rS (As := [.int p0, .int 0, .int 399]) (rest := []) ⟨hx, hb, hml, hown, hta⟩ (tp_P.pre hK hN hL hU hI hP) lk_X11_105 (t_X11_isIn l D cy s.heap.size L K Γ f p0 0 399 ) rfl rfl ⟨Nat.le_of_ble_eq_true rfl, Nat.le_of_ble_eq_true rfl⟩ rfl hl.1 rfl (Nat.le_of_ble_eq_true rfl) dX11_isWeek_5 ⟨Nat.le_of_ble_eq_true rfl, Nat.le_of_ble_eq_true rfl⟩) (fun r_2 hw_1 => ?_)
  have hw_1 : tl_E r_2 ((0 : Int) ≤ p0.toInt ∧ p0.toInt ≤ (399 : Int)) 1 0 := hw_1
  exact W.zret (ty := .boolean) (v := r_2) hx hb hr (by rcases hw_1 with ⟨_, e9⟩ | ⟨_, e9⟩ <;> rw [e9] <;> rfl) (fun t ht hW => ⟨_, rfl, (tl_E.to hw_1 ⟨fun h => by omega, fun h => by omega⟩), ht⟩) (fun q h => by cases h) dX11_isWeek_8
set_option maxHeartbeats 4000000 in
set_option maxRecDepth 100000 in
theorem t_X11_isColour (l : Launch) (D : va_G) (cy : Nat → ClassId) (sz : Nat) (L : List Nat) (K : Nat → tk_K) (Γ : tk_G) (f : Nat → va_E) (p0 : Int32)  : Met l yX11_isColour (tl_w yX11_isColour cX11_isColour 1 (some .boolean)) ({ frames := 1, cells := 0, slots := 0, locals := 22 }) (va_Pc [.int p0] (tp_P D cy L K Γ f sz)) (vp_Si (fun r : Int32 => tl_E r (0 ≤ p0.toInt ∧ p0.toInt ≤ 299) 1 0)) 0 0 (fun _ => False) := by
  refine Met.ofW (cc := cX11_isColour) (maxL := 1) (ret := (some .boolean)) (by decide) rfl ?_
  intro p e s m args below meth c s₁ B hml hv
  obtain ⟨rfl, hsz, hP, hK, hL, hI, hN, hU⟩ := hv
  have hx := B.exec
  have hb := B.bytes
  have hr := B.returns
  have hta := tl_hta (atoms_spec (ws := tl_w yX11_isColour cX11_isColour 1 (some .boolean)) B.pre)
  have hown : s.vm.findClass RX11 = some m.cls := findClass_of_methodNamed B.named
  have hlocks := B.notSynchronized
  subst hsz
  have hI0 := hI
  have hl := lv_entry ([.int p0]) (n := 1) (Nat.le_of_ble_eq_true rfl)
  rw [lg_entry_eq]
  generalize (lg_sl ([.int p0]) ++ List.replicate (1 - (lg_sl ([.int p0])).length) Slot.unset).toArray = ls at hl ⊢
  have hl : lv_has ls 1 [(0, .int p0)] := hl
  refine lv_iload_n hx hb dX11_isColour_0 rfl (lv_at hl 0 rfl) ?_
  refine lv_iconst (v := 0) hx hb dX11_isColour_1 (by decide) ?_
  refine lv_sipush (v := 299) hx hb dX11_isColour_2 (by decide) ?_
  refine tl_si (tq_rS (As := [.int p0, .int 0, .int 299]) (rest := []) ⟨hx, hb, hml, hown, hta⟩ (tp_P.pre hK hN hL hU hI hP) lk_X11_105 (t_X11_isIn l D cy s.heap.size L K Γ f p0 0 299 ) rfl rfl ⟨Nat.le_of_ble_eq_true rfl, Nat.le_of_ble_eq_true rfl⟩ rfl hl.1 rfl (Nat.le_of_ble_eq_true rfl) dX11_isColour_5 ⟨Nat.le_of_ble_eq_true rfl, Nat.le_of_ble_eq_true rfl⟩) (fun r_2 hw_1 => ?_)
  have hw_1 : tl_E r_2 ((0 : Int) ≤ p0.toInt ∧ p0.toInt ≤ (299 : Int)) 1 0 := hw_1
  exact W.zret (ty := .boolean) (v := r_2) hx hb hr (by rcases hw_1 with ⟨_, e9⟩ | ⟨_, e9⟩ <;> rw [e9] <;> rfl) (fun t ht hW => ⟨_, rfl, (tl_E.to hw_1 ⟨fun h => by omega, fun h => by omega⟩), ht⟩) (fun q h => by cases h) dX11_isColour_8
set_option maxHeartbeats 4000000 in
set_option maxRecDepth 100000 in
theorem t_X11_isGlass (l : Launch) (D : va_G) (cy : Nat → ClassId) (sz : Nat) (L : List Nat) (K : Nat → tk_K) (Γ : tk_G) (f : Nat → va_E) (p0 : Int32)  : Met l yX11_isGlass (tl_w yX11_isGlass cX11_isGlass 1 (some .boolean)) ({ frames := 1, cells := 0, slots := 0, locals := 22 }) (va_Pc [.int p0] (tp_P D cy L K Γ f sz)) (vp_Si (fun r : Int32 => tl_E r (0 ≤ p0.toInt ∧ p0.toInt ≤ 3) 1 0)) 0 0 (fun _ => False) := by
  refine Met.ofW (cc := cX11_isGlass) (maxL := 1) (ret := (some .boolean)) (by decide) rfl ?_
  intro p e s m args below meth c s₁ B hml hv
  obtain ⟨rfl, hsz, hP, hK, hL, hI, hN, hU⟩ := hv
  have hx := B.exec
  have hb := B.bytes
  have hr := B.returns
  have hta := tl_hta (atoms_spec (ws := tl_w yX11_isGlass cX11_isGlass 1 (some .boolean)) B.pre)
  have hown : s.vm.findClass RX11 = some m.cls := findClass_of_methodNamed B.named
  have hlocks := B.notSynchronized
  subst hsz
  have hI0 := hI
  have hl := lv_entry ([.int p0]) (n := 1) (Nat.le_of_ble_eq_true rfl)
  rw [lg_entry_eq]
  generalize (lg_sl ([.int p0]) ++ List.replicate (1 - (lg_sl ([.int p0])).length) Slot.unset).toArray = ls at hl ⊢
  have hl : lv_has ls 1 [(0, .int p0)] := hl
  refine lv_iload_n hx hb dX11_isGlass_0 rfl (lv_at hl 0 rfl) ?_
  refine lv_iconst (v := 0) hx hb dX11_isGlass_1 (by decide) ?_
  refine lv_iconst (v := 3) hx hb dX11_isGlass_2 (by decide) ?_
  refine tl_si (tq_rS (As := [.int p0, .int 0, .int 3]) (rest := []) ⟨hx, hb, hml, hown, hta⟩ (tp_P.pre hK hN hL hU hI hP) lk_X11_105 (t_X11_isIn l D cy s.heap.size L K Γ f p0 0 3 ) rfl rfl ⟨Nat.le_of_ble_eq_true rfl, Nat.le_of_ble_eq_true rfl⟩ rfl hl.1 rfl (Nat.le_of_ble_eq_true rfl) dX11_isGlass_3 ⟨Nat.le_of_ble_eq_true rfl, Nat.le_of_ble_eq_true rfl⟩) (fun r_2 hw_1 => ?_)
  have hw_1 : tl_E r_2 ((0 : Int) ≤ p0.toInt ∧ p0.toInt ≤ (3 : Int)) 1 0 := hw_1
  exact W.zret (ty := .boolean) (v := r_2) hx hb hr (by rcases hw_1 with ⟨_, e9⟩ | ⟨_, e9⟩ <;> rw [e9] <;> rfl) (fun t ht hW => ⟨_, rfl, (tl_E.to hw_1 ⟨fun h => by omega, fun h => by omega⟩), ht⟩) (fun q h => by cases h) dX11_isGlass_6
set_option maxHeartbeats 4000000 in
set_option maxRecDepth 100000 in
theorem t_X11_isStuff (l : Launch) (D : va_G) (cy : Nat → ClassId) (sz : Nat) (L : List Nat) (K : Nat → tk_K) (Γ : tk_G) (f : Nat → va_E) (p0 : Int32)  : Met l yX11_isStuff (tl_w yX11_isStuff cX11_isStuff 1 (some .boolean)) ({ frames := 1, cells := 0, slots := 0, locals := 22 }) (va_Pc [.int p0] (tp_P D cy L K Γ f sz)) (vp_Si (fun r : Int32 => tl_E r (0 ≤ p0.toInt ∧ p0.toInt ≤ 11) 1 0)) 0 0 (fun _ => False) := by
  refine Met.ofW (cc := cX11_isStuff) (maxL := 1) (ret := (some .boolean)) (by decide) rfl ?_
  intro p e s m args below meth c s₁ B hml hv
  obtain ⟨rfl, hsz, hP, hK, hL, hI, hN, hU⟩ := hv
  have hx := B.exec
  have hb := B.bytes
  have hr := B.returns
  have hta := tl_hta (atoms_spec (ws := tl_w yX11_isStuff cX11_isStuff 1 (some .boolean)) B.pre)
  have hown : s.vm.findClass RX11 = some m.cls := findClass_of_methodNamed B.named
  have hlocks := B.notSynchronized
  subst hsz
  have hI0 := hI
  have hl := lv_entry ([.int p0]) (n := 1) (Nat.le_of_ble_eq_true rfl)
  rw [lg_entry_eq]
  generalize (lg_sl ([.int p0]) ++ List.replicate (1 - (lg_sl ([.int p0])).length) Slot.unset).toArray = ls at hl ⊢
  have hl : lv_has ls 1 [(0, .int p0)] := hl
  refine lv_iload_n hx hb dX11_isStuff_0 rfl (lv_at hl 0 rfl) ?_
  refine lv_iconst (v := 0) hx hb dX11_isStuff_1 (by decide) ?_
  refine lv_bipush (v := 11) hx hb dX11_isStuff_2 (by decide) ?_
  refine tl_si (tq_rS (As := [.int p0, .int 0, .int 11]) (rest := []) ⟨hx, hb, hml, hown, hta⟩ (tp_P.pre hK hN hL hU hI hP) lk_X11_105 (t_X11_isIn l D cy s.heap.size L K Γ f p0 0 11 ) rfl rfl ⟨Nat.le_of_ble_eq_true rfl, Nat.le_of_ble_eq_true rfl⟩ rfl hl.1 rfl (Nat.le_of_ble_eq_true rfl) dX11_isStuff_4 ⟨Nat.le_of_ble_eq_true rfl, Nat.le_of_ble_eq_true rfl⟩) (fun r_2 hw_1 => ?_)
  have hw_1 : tl_E r_2 ((0 : Int) ≤ p0.toInt ∧ p0.toInt ≤ (11 : Int)) 1 0 := hw_1
  exact W.zret (ty := .boolean) (v := r_2) hx hb hr (by rcases hw_1 with ⟨_, e9⟩ | ⟨_, e9⟩ <;> rw [e9] <;> rfl) (fun t ht hW => ⟨_, rfl, (tl_E.to hw_1 ⟨fun h => by omega, fun h => by omega⟩), ht⟩) (fun q h => by cases h) dX11_isStuff_7
set_option maxHeartbeats 4000000 in
set_option maxRecDepth 100000 in
theorem t_X11_isBar (l : Launch) (D : va_G) (cy : Nat → ClassId) (sz : Nat) (L : List Nat) (K : Nat → tk_K) (Γ : tk_G) (f : Nat → va_E) (p0 : Int32)  : Met l yX11_isBar (tl_w yX11_isBar cX11_isBar 1 (some .boolean)) ({ frames := 1, cells := 0, slots := 0, locals := 22 }) (va_Pc [.int p0] (tp_P D cy L K Γ f sz)) (vp_Si (fun r : Int32 => tl_E r (-999999 ≤ p0.toInt ∧ p0.toInt ≤ 999999) 1 0)) 0 0 (fun _ => False) := by
  refine Met.ofW (cc := cX11_isBar) (maxL := 1) (ret := (some .boolean)) (by decide) rfl ?_
  intro p e s m args below meth c s₁ B hml hv
  obtain ⟨rfl, hsz, hP, hK, hL, hI, hN, hU⟩ := hv
  have hx := B.exec
  have hb := B.bytes
  have hr := B.returns
  have hta := tl_hta (atoms_spec (ws := tl_w yX11_isBar cX11_isBar 1 (some .boolean)) B.pre)
  have hown : s.vm.findClass RX11 = some m.cls := findClass_of_methodNamed B.named
  have hlocks := B.notSynchronized
  subst hsz
  have hI0 := hI
  have hl := lv_entry ([.int p0]) (n := 1) (Nat.le_of_ble_eq_true rfl)
  rw [lg_entry_eq]
  generalize (lg_sl ([.int p0]) ++ List.replicate (1 - (lg_sl ([.int p0])).length) Slot.unset).toArray = ls at hl ⊢
  have hl : lv_has ls 1 [(0, .int p0)] := hl
  refine lv_iload_n hx hb dX11_isBar_0 rfl (lv_at hl 0 rfl) ?_
  refine lv_ldcw (v := (-999999)) hx hb hown (hta _ wk_1085) dX11_isBar_1 ?_
  refine lv_ldcw (v := 999999) hx hb hown (hta _ wk_1086) dX11_isBar_4 ?_
  refine tl_si (tq_rS (As := [.int p0, .int (-999999), .int 999999]) (rest := []) ⟨hx, hb, hml, hown, hta⟩ (tp_P.pre hK hN hL hU hI hP) lk_X11_105 (t_X11_isIn l D cy s.heap.size L K Γ f p0 (-999999) 999999 ) rfl rfl ⟨Nat.le_of_ble_eq_true rfl, Nat.le_of_ble_eq_true rfl⟩ rfl hl.1 rfl (Nat.le_of_ble_eq_true rfl) dX11_isBar_7 ⟨Nat.le_of_ble_eq_true rfl, Nat.le_of_ble_eq_true rfl⟩) (fun r_2 hw_1 => ?_)
  have hw_1 : tl_E r_2 ((-999999 : Int) ≤ p0.toInt ∧ p0.toInt ≤ (999999 : Int)) 1 0 := hw_1
  exact W.zret (ty := .boolean) (v := r_2) hx hb hr (by rcases hw_1 with ⟨_, e9⟩ | ⟨_, e9⟩ <;> rw [e9] <;> rfl) (fun t ht hW => ⟨_, rfl, (tl_E.to hw_1 ⟨fun h => by omega, fun h => by omega⟩), ht⟩) (fun q h => by cases h) dX11_isBar_10
set_option maxHeartbeats 4000000 in
set_option maxRecDepth 100000 in
theorem t_X11_isNeed (l : Launch) (D : va_G) (cy : Nat → ClassId) (sz : Nat) (L : List Nat) (K : Nat → tk_K) (Γ : tk_G) (f : Nat → va_E) (p0 : Int32)  : Met l yX11_isNeed (tl_w yX11_isNeed cX11_isNeed 1 (some .boolean)) ({ frames := 1, cells := 0, slots := 0, locals := 22 }) (va_Pc [.int p0] (tp_P D cy L K Γ f sz)) (vp_Si (fun r : Int32 => tl_E r (0 ≤ p0.toInt ∧ p0.toInt ≤ 999999999) 1 0)) 0 0 (fun _ => False) := by
  refine Met.ofW (cc := cX11_isNeed) (maxL := 1) (ret := (some .boolean)) (by decide) rfl ?_
  intro p e s m args below meth c s₁ B hml hv
  obtain ⟨rfl, hsz, hP, hK, hL, hI, hN, hU⟩ := hv
  have hx := B.exec
  have hb := B.bytes
  have hr := B.returns
  have hta := tl_hta (atoms_spec (ws := tl_w yX11_isNeed cX11_isNeed 1 (some .boolean)) B.pre)
  have hown : s.vm.findClass RX11 = some m.cls := findClass_of_methodNamed B.named
  have hlocks := B.notSynchronized
  subst hsz
  have hI0 := hI
  have hl := lv_entry ([.int p0]) (n := 1) (Nat.le_of_ble_eq_true rfl)
  rw [lg_entry_eq]
  generalize (lg_sl ([.int p0]) ++ List.replicate (1 - (lg_sl ([.int p0])).length) Slot.unset).toArray = ls at hl ⊢
  have hl : lv_has ls 1 [(0, .int p0)] := hl
  refine lv_iload_n hx hb dX11_isNeed_0 rfl (lv_at hl 0 rfl) ?_
  refine lv_iconst (v := 0) hx hb dX11_isNeed_1 (by decide) ?_
  refine lv_ldcw (v := 999999999) hx hb hown (hta _ wk_1451) dX11_isNeed_2 ?_
  refine tl_si (tq_rS (As := [.int p0, .int 0, .int 999999999]) (rest := []) ⟨hx, hb, hml, hown, hta⟩ (tp_P.pre hK hN hL hU hI hP) lk_X11_105 (t_X11_isIn l D cy s.heap.size L K Γ f p0 0 999999999 ) rfl rfl ⟨Nat.le_of_ble_eq_true rfl, Nat.le_of_ble_eq_true rfl⟩ rfl hl.1 rfl (Nat.le_of_ble_eq_true rfl) dX11_isNeed_5 ⟨Nat.le_of_ble_eq_true rfl, Nat.le_of_ble_eq_true rfl⟩) (fun r_2 hw_1 => ?_)
  have hw_1 : tl_E r_2 ((0 : Int) ≤ p0.toInt ∧ p0.toInt ≤ (999999999 : Int)) 1 0 := hw_1
  exact W.zret (ty := .boolean) (v := r_2) hx hb hr (by rcases hw_1 with ⟨_, e9⟩ | ⟨_, e9⟩ <;> rw [e9] <;> rfl) (fun t ht hW => ⟨_, rfl, (tl_E.to hw_1 ⟨fun h => by omega, fun h => by omega⟩), ht⟩) (fun q h => by cases h) dX11_isNeed_8
set_option maxHeartbeats 4000000 in
set_option maxRecDepth 100000 in
theorem t_X11_isSpan (l : Launch) (D : va_G) (cy : Nat → ClassId) (sz : Nat) (L : List Nat) (K : Nat → tk_K) (Γ : tk_G) (f : Nat → va_E) (p0 : Int32) (p1 : Int32)  : Met l yX11_isSpan (tl_w yX11_isSpan cX11_isSpan 2 (some .boolean)) ({ frames := 2, cells := 0, slots := 0, locals := 42 }) (va_Pc [.int p0, .int p1] (tp_P D cy L K Γ f sz)) (vp_Si (fun r : Int32 => tl_E r (0 ≤ p0.toInt ∧ p0.toInt ≤ 299 ∧ 0 ≤ p1.toInt ∧ p1.toInt ≤ 299 ∧ p0.toInt ≤ p1.toInt) 1 0)) 0 0 (fun _ => False) := by
  refine Met.ofW (cc := cX11_isSpan) (maxL := 2) (ret := (some .boolean)) (by decide) rfl ?_
  intro p e s m args below meth c s₁ B hml hv
  obtain ⟨rfl, hsz, hP, hK, hL, hI, hN, hU⟩ := hv
  have hx := B.exec
  have hb := B.bytes
  have hr := B.returns
  have hta := tl_hta (atoms_spec (ws := tl_w yX11_isSpan cX11_isSpan 2 (some .boolean)) B.pre)
  have hown : s.vm.findClass RX11 = some m.cls := findClass_of_methodNamed B.named
  have hlocks := B.notSynchronized
  subst hsz
  have hI0 := hI
  have hl := lv_entry ([.int p0, .int p1]) (n := 2) (Nat.le_of_ble_eq_true rfl)
  rw [lg_entry_eq]
  generalize (lg_sl ([.int p0, .int p1]) ++ List.replicate (2 - (lg_sl ([.int p0, .int p1])).length) Slot.unset).toArray = ls at hl ⊢
  have hl : lv_has ls 2 [(0, .int p0), (1, .int p1)] := hl
  refine lv_iload_n hx hb dX11_isSpan_0 rfl (lv_at hl 0 rfl) ?_
  refine tl_si (tq_rS (As := [.int p0]) (rest := []) ⟨hx, hb, hml, hown, hta⟩ (tp_P.pre hK hN hL hU hI hP) lk_X11_125 (t_X11_isColour l D cy s.heap.size L K Γ f p0 ) rfl rfl ⟨Nat.le_of_ble_eq_true rfl, Nat.le_of_ble_eq_true rfl⟩ rfl hl.1 rfl (Nat.le_of_ble_eq_true rfl) dX11_isSpan_1 ⟨Nat.le_of_ble_eq_true rfl, Nat.le_of_ble_eq_true rfl⟩) (fun r_2 hw_1 => ?_)
  have hw_1 : tl_E r_2 (0 ≤ p0.toInt ∧ p0.toInt ≤ 299) 1 0 := hw_1
  refine lv_if_eq (tgt := 23) hx hb dX11_isSpan_4 (by decide) (fun c_3 => ?_) (fun c_3 => ?_)
  · have c_3 := hw_1.f c_3
    refine lv_iconst (v := 0) hx hb dX11_isSpan_23 (by decide) ?_
    exact W.zret (ty := .boolean) (v := 0) hx hb hr rfl (fun t ht hW => ⟨_, rfl, (Or.inr ⟨by omega, rfl⟩), ht⟩) (fun q h => by cases h) dX11_isSpan_24
  · have c_3 := hw_1.t c_3
    refine lv_iload_n hx hb dX11_isSpan_7 rfl (lv_at hl 1 rfl) ?_
    refine tl_si (tq_rS (As := [.int p1]) (rest := []) ⟨hx, hb, hml, hown, hta⟩ (tp_P.pre hK hN hL hU hI hP) lk_X11_125 (t_X11_isColour l D cy s.heap.size L K Γ f p1 ) rfl rfl ⟨Nat.le_of_ble_eq_true rfl, Nat.le_of_ble_eq_true rfl⟩ rfl hl.1 rfl (Nat.le_of_ble_eq_true rfl) dX11_isSpan_8 ⟨Nat.le_of_ble_eq_true rfl, Nat.le_of_ble_eq_true rfl⟩) (fun r_5 hw_4 => ?_)
    have hw_4 : tl_E r_5 (0 ≤ p1.toInt ∧ p1.toInt ≤ 299) 1 0 := hw_4
    refine lv_if_eq (tgt := 23) hx hb dX11_isSpan_11 (by decide) (fun c_6 => ?_) (fun c_6 => ?_)
    · have c_6 := hw_4.f c_6
      refine lv_iconst (v := 0) hx hb dX11_isSpan_23 (by decide) ?_
      exact W.zret (ty := .boolean) (v := 0) hx hb hr rfl (fun t ht hW => ⟨_, rfl, (Or.inr ⟨by omega, rfl⟩), ht⟩) (fun q h => by cases h) dX11_isSpan_24
    · have c_6 := hw_4.t c_6
      refine lv_iload_n hx hb dX11_isSpan_14 rfl (lv_at hl 0 rfl) ?_
      refine lv_iload_n hx hb dX11_isSpan_15 rfl (lv_at hl 1 rfl) ?_
      refine lv_icmp_gt (tgt := 23) hx hb dX11_isSpan_16 (by decide) (fun c_7 => ?_) (fun c_7 => ?_)
      · have c_7 : p1.toInt < p0.toInt := tl_lt c_7
        refine lv_iconst (v := 0) hx hb dX11_isSpan_23 (by decide) ?_
        exact W.zret (ty := .boolean) (v := 0) hx hb hr rfl (fun t ht hW => ⟨_, rfl, (Or.inr ⟨by omega, rfl⟩), ht⟩) (fun q h => by cases h) dX11_isSpan_24
      · have c_7 : p0.toInt ≤ p1.toInt := tl_nlt c_7
        refine lv_iconst (v := 1) hx hb dX11_isSpan_19 (by decide) ?_
        refine lv_goto (tgt := 24) hx hb dX11_isSpan_20 (by decide) ?_
        exact W.zret (ty := .boolean) (v := 1) hx hb hr rfl (fun t ht hW => ⟨_, rfl, (Or.inl ⟨by omega, rfl⟩), ht⟩) (fun q h => by cases h) dX11_isSpan_24
set_option maxHeartbeats 4000000 in
set_option maxRecDepth 100000 in
theorem t_X11_held (l : Launch) (D : va_G) (cy : Nat → ClassId) (sz : Nat) (L : List Nat) (K : Nat → tk_K) (Γ : tk_G) (f : Nat → va_E) (p0 : Int64) (p1 : Int64) (p2 : Int64)  : Met l yX11_held (tl_w yX11_held cX11_held 6 (some .long)) ({ frames := 1, cells := 0, slots := 0, locals := 32 }) (va_Pc [.long p0, .long p1, .long p2] (tp_P D cy L K Γ f sz)) (vp_Sl (fun r : Int64 => True)) 0 0 (fun _ => False) := by
  refine Met.ofW (cc := cX11_held) (maxL := 6) (ret := (some .long)) (by decide) rfl ?_
  intro p e s m args below meth c s₁ B hml hv
  obtain ⟨rfl, hsz, hP, hK, hL, hI, hN, hU⟩ := hv
  have hx := B.exec
  have hb := B.bytes
  have hr := B.returns
  have hta := tl_hta (atoms_spec (ws := tl_w yX11_held cX11_held 6 (some .long)) B.pre)
  have hown : s.vm.findClass RX11 = some m.cls := findClass_of_methodNamed B.named
  have hlocks := B.notSynchronized
  subst hsz
  have hI0 := hI
  have hl := lv_entry ([.long p0, .long p1, .long p2]) (n := 6) (Nat.le_of_ble_eq_true rfl)
  rw [lg_entry_eq]
  generalize (lg_sl ([.long p0, .long p1, .long p2]) ++ List.replicate (6 - (lg_sl ([.long p0, .long p1, .long p2])).length) Slot.unset).toArray = ls at hl ⊢
  have hl : lv_has ls 6 [(0, .long p0), (2, .long p1), (4, .long p2)] := hl
  refine lv_lload_n hx hb dX11_held_0 rfl (lv_at hl 1 rfl) ?_
  refine lv_lload hx hb dX11_held_1 (lv_at hl 2 rfl) ?_
  refine lv_lload_n hx hb dX11_held_3 rfl (lv_at hl 0 rfl) ?_
  refine va_mmin_long hx hb (by rw [hml]; exact hl.1.symm) hown (hta _ wk_759) (hta _ wk_760) (hta _ wk_83) (hta _ wk_761) (Nat.le_of_ble_eq_true rfl) (Nat.le_of_ble_eq_true rfl) (Nat.le_of_ble_eq_true rfl) (Nat.le_of_ble_eq_true rfl) dX11_held_4 ?_
  refine lv_topl (fun z_1 ez_1 => ?_)
  refine va_mmax_long hx hb (by rw [hml]; exact hl.1.symm) hown (hta _ wk_762) (hta _ wk_763) (hta _ wk_83) (hta _ wk_764) (Nat.le_of_ble_eq_true rfl) (Nat.le_of_ble_eq_true rfl) (Nat.le_of_ble_eq_true rfl) (Nat.le_of_ble_eq_true rfl) dX11_held_7 ?_
  refine lv_topl (fun z_2 ez_2 => ?_)
  have iz_2 : (z_2.toInt = (z_1 : Int64).toInt ∧ (p1 : Int64).toInt ≤ (z_1 : Int64).toInt) ∨ (z_2.toInt = (p1 : Int64).toInt ∧ (z_1 : Int64).toInt ≤ (p1 : Int64).toInt) := by rw [ez_2]; exact tl_maxFL.symm
  exact W.lret (v := z_2) hx hb hr (fun t ht hW => ⟨_, rfl, trivial, ht⟩) (fun q h => by cases h) dX11_held_10

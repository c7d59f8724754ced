set_option maxHeartbeats 4000000 in
set_option maxRecDepth 100000 in
theorem t_X10_gapLength (l : Launch) (D : va_G) (cy : Nat → ClassId) (sz : Nat) (L : List Nat) (K : Nat → Nat × Nat) (f : Nat → va_E) (o : Nat) (ho : tp_r L K 25 (0) o) : Met l yX10_gapLength (tl_w yX10_gapLength cX10_gapLength 1 (some .int)) ({ frames := 0, cells := 0, slots := 0, locals := 0 }) (va_Pc [.ref o] (tp_P D cy L K f sz)) (vp_Si (fun r : Int32 => True)) 0 0 (fun _ => False) := by
  refine Met.ofW (cc := cX10_gapLength) (maxL := 1) (ret := (some .int)) (by decide) rfl ?_
  intro p e s m args below meth c s₁ B hml hv
  obtain ⟨rfl, hsz, hP, hK, hL, hI, hN⟩ := hv
  have hx := B.exec
  have hb := B.bytes
  have hr := B.returns
  have hta := tl_hta (atoms_spec (ws := tl_w yX10_gapLength cX10_gapLength 1 (some .int)) B.pre)
  have hown : s.vm.findClass RX10 = some m.cls := findClass_of_methodNamed B.named
  have hlocks := B.notSynchronized
  subst hsz
  have hI0 := hI
  have hl := lv_entry ([.ref o]) (n := 1) (Nat.le_of_ble_eq_true rfl)
  rw [lg_entry_eq]
  generalize (lg_sl ([.ref o]) ++ List.replicate (1 - (lg_sl ([.ref o])).length) Slot.unset).toArray = ls at hl ⊢
  have hl : lv_has ls 1 [(0, .ref o)] := hl
  refine lv_aload_n hx hb dX10_gapLength_0 rfl (lv_at hl 0 rfl) ?_
  obtain ⟨x_2, x_3, x_4, x_5, x_6, x_7, x_8, x_9, x_10, x_11, x_12, x_13, x_14, x_15, x_16, x_17, x_18, x_19, hf_1, hx_2, hx_3, hx_4, hx_5, hx_6, hx_7, hx_8, hx_9, hx_10, hx_12, hx_15⟩ := (show tp_o_VIEW L K (0) (f o) from hI0.at ho)
  refine tp_get (cy := cy) (ci := 10) (v := .int x_14) (C := RX10) (T := TX10) (N := 18) hx hb hta inlX10 hown hK hP ho.1 hf_1 rfl 12 (by decide) (hta _ wk_849) (fun _ h9 => h9) rfl dX10_gapLength_1 ?_
  refine lv_aload_n hx hb dX10_gapLength_4 rfl (lv_at hl 0 rfl) ?_
  refine tp_get (cy := cy) (ci := 10) (v := .int x_13) (C := RX10) (T := TX10) (N := 18) hx hb hta inlX10 hown hK hP ho.1 hf_1 rfl 11 (by decide) (hta _ wk_848) (fun _ h9 => h9) rfl dX10_gapLength_5 ?_
  refine lv_isub hx hb dX10_gapLength_8 ?_
  refine lv_topi (fun z_20 ez_20 => ?_)
  try have iz_20 : z_20.toInt = x_14.toInt - x_13.toInt := by rw [ez_20]; exact tl_subN x_14 x_13 rfl rfl (by omega) (by omega)
  refine lv_iconst (v := 1) hx hb dX10_gapLength_9 (by decide) ?_
  refine lv_iadd hx hb dX10_gapLength_10 ?_
  refine lv_topi (fun z_21 ez_21 => ?_)
  try have iz_21 : z_21.toInt = z_20.toInt + (1 : Int) := by rw [ez_21]; exact tl_addN z_20 1 rfl rfl (by omega) (by omega)
  exact W.iret (v := z_21) hx hb hr (fun t ht hW => ⟨_, rfl, trivial, ht⟩) (fun q h => by cases h) dX10_gapLength_11
set_option maxHeartbeats 4000000 in
set_option maxRecDepth 100000 in
theorem t_X10_isInGap (l : Launch) (D : va_G) (cy : Nat → ClassId) (sz : Nat) (L : List Nat) (K : Nat → Nat × Nat) (f : Nat → va_E) (o : Nat) (p0 : Int32) (ho : tp_r L K 25 (0) o) : Met l yX10_isInGap (tl_w yX10_isInGap cX10_isInGap 2 (some .boolean)) ({ frames := 0, cells := 0, slots := 0, locals := 0 }) (va_Pc [.ref o, .int p0] (tp_P D cy L K f sz)) (vp_Si (fun r : Int32 => tl_J r (True))) 0 0 (fun _ => False) := by
  refine Met.ofW (cc := cX10_isInGap) (maxL := 2) (ret := (some .boolean)) (by decide) rfl ?_
  intro p e s m args below meth c s₁ B hml hv
  obtain ⟨rfl, hsz, hP, hK, hL, hI, hN⟩ := hv
  have hx := B.exec
  have hb := B.bytes
  have hr := B.returns
  have hta := tl_hta (atoms_spec (ws := tl_w yX10_isInGap cX10_isInGap 2 (some .boolean)) B.pre)
  have hown : s.vm.findClass RX10 = some m.cls := findClass_of_methodNamed B.named
  have hlocks := B.notSynchronized
  subst hsz
  have hI0 := hI
  have hl := lv_entry ([.ref o, .int p0]) (n := 2) (Nat.le_of_ble_eq_true rfl)
  rw [lg_entry_eq]
  generalize (lg_sl ([.ref o, .int p0]) ++ List.replicate (2 - (lg_sl ([.ref o, .int p0])).length) Slot.unset).toArray = ls at hl ⊢
  have hl : lv_has ls 2 [(0, .ref o), (1, .int p0)] := hl
  refine lv_iload_n hx hb dX10_isInGap_0 rfl (lv_at hl 1 rfl) ?_
  refine lv_aload_n hx hb dX10_isInGap_1 rfl (lv_at hl 0 rfl) ?_
  obtain ⟨x_2, x_3, x_4, x_5, x_6, x_7, x_8, x_9, x_10, x_11, x_12, x_13, x_14, x_15, x_16, x_17, x_18, x_19, hf_1, hx_2, hx_3, hx_4, hx_5, hx_6, hx_7, hx_8, hx_9, hx_10, hx_12, hx_15⟩ := (show tp_o_VIEW L K (0) (f o) from hI0.at ho)
  refine tp_get (cy := cy) (ci := 10) (v := .int x_13) (C := RX10) (T := TX10) (N := 18) hx hb hta inlX10 hown hK hP ho.1 hf_1 rfl 11 (by decide) (hta _ wk_848) (fun _ h9 => h9) rfl dX10_isInGap_2 ?_
  refine lv_icmp_lt (tgt := 20) hx hb dX10_isInGap_5 (by decide) (fun c_20 => ?_) (fun c_20 => ?_)
  · have c_20 : p0.toInt < x_13.toInt := tl_lt c_20
    refine lv_iconst (v := 0) hx hb dX10_isInGap_20 (by decide) ?_
    exact W.zret (ty := .boolean) (v := 0) hx hb hr rfl (fun t ht hW => ⟨_, rfl, (Or.inr rfl), ht⟩) (fun q h => by cases h) dX10_isInGap_21
  · have c_20 : x_13.toInt ≤ p0.toInt := tl_nlt c_20
    refine lv_iload_n hx hb dX10_isInGap_8 rfl (lv_at hl 1 rfl) ?_
    refine lv_aload_n hx hb dX10_isInGap_9 rfl (lv_at hl 0 rfl) ?_
    refine tp_get (cy := cy) (ci := 10) (v := .int x_14) (C := RX10) (T := TX10) (N := 18) hx hb hta inlX10 hown hK hP ho.1 hf_1 rfl 12 (by decide) (hta _ wk_849) (fun _ h9 => h9) rfl dX10_isInGap_10 ?_
    refine lv_icmp_gt (tgt := 20) hx hb dX10_isInGap_13 (by decide) (fun c_21 => ?_) (fun c_21 => ?_)
    · have c_21 : x_14.toInt < p0.toInt := tl_lt c_21
      refine lv_iconst (v := 0) hx hb dX10_isInGap_20 (by decide) ?_
      exact W.zret (ty := .boolean) (v := 0) hx hb hr rfl (fun t ht hW => ⟨_, rfl, (Or.inr rfl), ht⟩) (fun q h => by cases h) dX10_isInGap_21
    · have c_21 : p0.toInt ≤ x_14.toInt := tl_nlt c_21
      refine lv_iconst (v := 1) hx hb dX10_isInGap_16 (by decide) ?_
      refine lv_goto (tgt := 21) hx hb dX10_isInGap_17 (by decide) ?_
      exact W.zret (ty := .boolean) (v := 1) hx hb hr rfl (fun t ht hW => ⟨_, rfl, (Or.inl ⟨rfl, trivial⟩), ht⟩) (fun q h => by cases h) dX10_isInGap_21
set_option maxHeartbeats 4000000 in
set_option maxRecDepth 100000 in
theorem t_X10_leftAt (l : Launch) (D : va_G) (cy : Nat → ClassId) (sz : Nat) (L : List Nat) (K : Nat → Nat × Nat) (f : Nat → va_E) (o : Nat) (p0 : Int32) (ho : tp_r L K 25 (0) o) : Met l yX10_leftAt (tl_w yX10_leftAt cX10_leftAt 2 (some .int)) ({ frames := 2, cells := 0, slots := 0, locals := 42 }) (va_Pc [.ref o, .int p0] (tp_P D cy L K f sz)) (vp_Si (fun r : Int32 => True)) 0 0 (fun _ => False) := by
  refine Met.ofW (cc := cX10_leftAt) (maxL := 2) (ret := (some .int)) (by decide) rfl ?_
  intro p e s m args below meth c s₁ B hml hv
  obtain ⟨rfl, hsz, hP, hK, hL, hI, hN⟩ := hv
  have hx := B.exec
  have hb := B.bytes
  have hr := B.returns
  have hta := tl_hta (atoms_spec (ws := tl_w yX10_leftAt cX10_leftAt 2 (some .int)) B.pre)
  have hown : s.vm.findClass RX10 = some m.cls := findClass_of_methodNamed B.named
  have hlocks := B.notSynchronized
  subst hsz
  have hI0 := hI
  have hl := lv_entry ([.ref o, .int p0]) (n := 2) (Nat.le_of_ble_eq_true rfl)
  rw [lg_entry_eq]
  generalize (lg_sl ([.ref o, .int p0]) ++ List.replicate (2 - (lg_sl ([.ref o, .int p0])).length) Slot.unset).toArray = ls at hl ⊢
  have hl : lv_has ls 2 [(0, .ref o), (1, .int p0)] := hl
  refine lv_iload_n hx hb dX10_leftAt_0 rfl (lv_at hl 1 rfl) ?_
  refine tl_si (tq_rSN hN (As := [.int p0]) (rest := []) ⟨hx, hb, hml, hown, hta⟩ (tp_P.pre hK hN hL hI hP) lk_X10_84 (t_X11_isColour l D cy s.heap.size L K f p0 ) rfl rfl ⟨Nat.le_of_ble_eq_true rfl, Nat.le_of_ble_eq_true rfl⟩ rfl hl.1 rfl (Nat.le_of_ble_eq_true rfl) dX10_leftAt_1 ⟨Nat.le_of_ble_eq_true rfl, Nat.le_of_ble_eq_true rfl⟩) (fun r_2 hw_1 => ?_)
  have hw_1 : tl_E r_2 (0 ≤ p0.toInt ∧ p0.toInt ≤ 299) 1 0 := hw_1
  refine lv_if_eq (tgt := 23) hx hb dX10_leftAt_4 (by decide) (fun c_3 => ?_) (fun c_3 => ?_)
  · have c_3 := hw_1.f c_3
    refine lv_iconst (v := 0) hx hb dX10_leftAt_23 (by decide) ?_
    exact W.iret (v := 0) hx hb hr (fun t ht hW => ⟨_, rfl, trivial, ht⟩) (fun q h => by cases h) dX10_leftAt_24
  · have c_3 := hw_1.t c_3
    refine lv_aload_n hx hb dX10_leftAt_7 rfl (lv_at hl 0 rfl) ?_
    obtain ⟨x_5, x_6, x_7, x_8, x_9, x_10, x_11, x_12, x_13, x_14, x_15, x_16, x_17, x_18, x_19, x_20, x_21, x_22, hf_4, hx_5, hx_6, hx_7, hx_8, hx_9, hx_10, hx_11, hx_12, hx_13, hx_15, hx_18⟩ := (show tp_o_VIEW L K (0) (f o) from hI0.at ho)
    refine tp_get (cy := cy) (ci := 10) (v := .ref x_8) (C := RX10) (T := TX10) (N := 18) hx hb hta inlX10 hown hK hP ho.1 hf_4 rfl 3 (by decide) (hta _ wk_134) (fun _ h9 => h9) rfl dX10_leftAt_8 ?_
    refine lv_iload_n hx hb dX10_leftAt_11 rfl (lv_at hl 1 rfl) ?_
    obtain ⟨g_24, hf_23, hg_25⟩ := (show tp_ai cy 27 (300) (f x_8) from hI0.at hx_8)
    have hn_26 : vp_in p0 (300) := tl_in (by omega) (by omega)
    refine tp_iald (cy := cy) hx hb hK hP hx_8.1 hf_23 hn_26 dX10_leftAt_12 ?_
    refine lv_topi (fun z_27 ez_27 => ?_)
    refine lv_aload_n hx hb dX10_leftAt_13 rfl (lv_at hl 0 rfl) ?_
    refine tp_get (cy := cy) (ci := 10) (v := .ref x_9) (C := RX10) (T := TX10) (N := 18) hx hb hta inlX10 hown hK hP ho.1 hf_4 rfl 4 (by decide) (hta _ wk_135) (fun _ h9 => h9) rfl dX10_leftAt_14 ?_
    refine lv_iload_n hx hb dX10_leftAt_17 rfl (lv_at hl 1 rfl) ?_
    obtain ⟨g_29, hf_28, hg_30⟩ := (show tp_ai cy 27 (300) (f x_9) from hI0.at hx_9)
    have hn_31 : vp_in p0 (300) := tl_in (by omega) (by omega)
    refine tp_iald (cy := cy) hx hb hK hP hx_9.1 hf_28 hn_31 dX10_leftAt_18 ?_
    refine lv_topi (fun z_32 ez_32 => ?_)
    refine lv_isub hx hb dX10_leftAt_19 ?_
    refine lv_topi (fun z_33 ez_33 => ?_)
    try have iz_33 : z_33.toInt = z_27.toInt - z_32.toInt := by rw [ez_33]; exact tl_subN z_27 z_32 rfl rfl (by omega) (by omega)
    refine lv_goto (tgt := 24) hx hb dX10_leftAt_20 (by decide) ?_
    exact W.iret (v := z_33) hx hb hr (fun t ht hW => ⟨_, rfl, trivial, ht⟩) (fun q h => by cases h) dX10_leftAt_24
set_option maxHeartbeats 4000000 in
set_option maxRecDepth 100000 in
theorem t_X10_frameBy (l : Launch) (D : va_G) (cy : Nat → ClassId) (sz : Nat) (L : List Nat) (K : Nat → Nat × Nat) (f : Nat → va_E) (o : Nat) (q : Nat) (ho : tp_r L K 25 (0) o) (hq : tp_r L K 16 (0) q) : Met l yX10_frameBy (tl_w yX10_frameBy cX10_frameBy 2 none) ({ frames := 2, cells := 0, slots := 0, locals := 45 }) (va_Pc [.ref o, .ref q] (tp_P D cy L K f sz)) (va_Qv (fun (u : Nat → va_E) => True) (tp_B D cy L K f [25]) (tp_A L sz)) 0 0 (tp_A L sz) := by
  refine Met.ofW (cc := cX10_frameBy) (maxL := 2) (ret := none) (by decide) rfl ?_
  intro p e s m args below meth c s₁ B hml hv
  obtain ⟨rfl, hsz, hP, hK, hL, hI, hN⟩ := hv
  have hx := B.exec
  have hb := B.bytes
  have hr := B.returns
  have hta := tl_hta (atoms_spec (ws := tl_w yX10_frameBy cX10_frameBy 2 none) B.pre)
  have hown : s.vm.findClass RX10 = some m.cls := findClass_of_methodNamed B.named
  have hlocks := B.notSynchronized
  subst hsz
  have hI0 := hI
  generalize hAe : tp_A L s.heap.size = A
  have hA : ∀ q : Nat, s.heap.size ≤ q → A q := fun q h => by rw [← hAe]; exact Or.inr h
  have hAL : ∀ q ∈ L, A q := fun q h => by rw [← hAe]; exact Or.inl h
  have hAf : ∀ (H : Heap), s.heap.size ≤ H.size → ∀ q, tp_A L H.size q → A q := fun H h q hq => hq.elim (hAL q) (fun h2 => hA q (Nat.le_trans h h2))
  have hS : va_S A s.heap s.heap [] := va_S.rf
  have hD : va_D A (va_pl L f) := tp_D hL hAL
  have hfr : ∀ b, (K b).1 ∉ ([25] : List Nat) → f b = f b := fun _ _ => rfl
  have hl := lv_entry ([.ref o, .ref q]) (n := 2) (Nat.le_of_ble_eq_true rfl)
  rw [lg_entry_eq]
  generalize (lg_sl ([.ref o, .ref q]) ++ List.replicate (2 - (lg_sl ([.ref o, .ref q])).length) Slot.unset).toArray = ls at hl ⊢
  have hl : lv_has ls 2 [(0, .ref o), (1, .ref q)] := hl
  refine lv_aload_n hx hb dX10_frameBy_0 rfl (lv_at hl 0 rfl) ?_
  refine lv_aload_n hx hb dX10_frameBy_1 rfl (lv_at hl 1 rfl) ?_
  refine lv_iconst (v := 4) hx hb dX10_frameBy_2 (by decide) ?_
  refine lv_bipush (v := 12) hx hb dX10_frameBy_3 (by decide) ?_
  obtain ⟨x_2, x_3, x_4, x_5, x_6, x_7, x_8, x_9, x_10, hf_1, hx_2, hx_3, hx_4, hx_5, hx_6, hx_7, hx_8, hx_9, hx_10⟩ := (show tp_o_TEXT L K (0) (f q) from hI0.at hq)
  refine tl_si (tq_rVN hN (As := [.int 4, .int 12]) (rest := [.ref o]) ⟨hx, hb, hml, hown, hta⟩ (tp_P.pre hK hN hL hI hP) (tp_recv hK hP hq.1 hf_1 rfl) lk_X10_65 (t_X7_firstOf l D cy s.heap.size L K f q 4 12 hq) rfl rfl ⟨Nat.le_of_ble_eq_true rfl, Nat.le_of_ble_eq_true rfl⟩ rfl hl.1 rfl (Nat.le_of_ble_eq_true rfl) dX10_frameBy_5 ⟨Nat.le_of_ble_eq_true rfl, Nat.le_of_ble_eq_true rfl⟩) (fun r_12 hw_11 => ?_)
  have hw_11 : (0 ≤ r_12.toInt ∧ r_12.toInt ≤ 9999) ∨ r_12 = 12 := hw_11
  obtain ⟨x_14, x_15, x_16, x_17, x_18, x_19, x_20, x_21, x_22, x_23, x_24, x_25, x_26, x_27, x_28, x_29, x_30, x_31, hf_13, hx_14, hx_15, hx_16, hx_17, hx_18, hx_19, hx_20, hx_21, hx_22, hx_24, hx_27⟩ := (show tp_o_VIEW L K (0) (f o) from hI.at ho)
  have hI9 : tp_I cy L K (va_up f o (.inr (10, [.ref x_14, .ref x_15, .ref x_16, .ref x_17, .ref x_18, .ref x_19, .ref x_20, .ref x_21, .ref x_22, .int r_12, .int x_24, .int x_25, .int x_26, .int x_27, .int x_28, .int x_29, .long x_30, .long x_31]))) := hI.set ho (show tp_o_VIEW L K (0) _ from ⟨x_14, x_15, x_16, x_17, x_18, x_19, x_20, x_21, x_22, r_12, x_24, x_25, x_26, x_27, x_28, x_29, x_30, x_31, rfl, hx_14, hx_15, hx_16, hx_17, hx_18, hx_19, hx_20, hx_21, hx_22, (by omega), (by omega)⟩)
  have hfr9 : ∀ b, (K b).1 ∉ ([25] : List Nat) → va_up f o (.inr (10, [.ref x_14, .ref x_15, .ref x_16, .ref x_17, .ref x_18, .ref x_19, .ref x_20, .ref x_21, .ref x_22, .int r_12, .int x_24, .int x_25, .int x_26, .int x_27, .int x_28, .int x_29, .long x_30, .long x_31])) b = f b := tp_fr hfr ho (by decide)
  refine tp_put (cy := cy) (ci := 10) (v := .int r_12) (ty := tyX10 9) (C := RX10) (T := TX10) (N := 18) hx hb hta inlX10 tyX10 tyX10_ok nmX10 hown hK hP hD hS ho.1 hf_13 rfl 9 (by decide) (hta _ wk_846) (fun _ h9 => h9) rfl (tyX10_ok 9 (by decide)) rfl rfl (Nat.le_of_ble_eq_true rfl) dX10_frameBy_8 (fun H locs hP hD hS => ?_)
  have hP : va_P D vwCl (va_pl L (va_up f o (.inr (10, [.ref x_14, .ref x_15, .ref x_16, .ref x_17, .ref x_18, .ref x_19, .ref x_20, .ref x_21, .ref x_22, .int r_12, .int x_24, .int x_25, .int x_26, .int x_27, .int x_28, .int x_29, .long x_30, .long x_31])))) H := hP
  generalize hfe : va_up f o (.inr (10, [.ref x_14, .ref x_15, .ref x_16, .ref x_17, .ref x_18, .ref x_19, .ref x_20, .ref x_21, .ref x_22, .int r_12, .int x_24, .int x_25, .int x_26, .int x_27, .int x_28, .int x_29, .long x_30, .long x_31])) = f_32 at hP hI9 hfr9
  have hD : va_D A (va_pl L f_32) := tp_D hL hAL
  have hf_33 : f_32 o = .inr (10, [.ref x_14, .ref x_15, .ref x_16, .ref x_17, .ref x_18, .ref x_19, .ref x_20, .ref x_21, .ref x_22, .int r_12, .int x_24, .int x_25, .int x_26, .int x_27, .int x_28, .int x_29, .long x_30, .long x_31]) := by rw [← hfe]; exact va_up_self _ _ _
  clear hfe
  have hI := hI9
  have hfr := hfr9
  clear hI9 hfr9
  refine lv_aload_n hx hb dX10_frameBy_11 rfl (lv_at hl 0 rfl) ?_
  refine lv_aload_n hx hb dX10_frameBy_12 rfl (lv_at hl 1 rfl) ?_
  refine lv_bipush (v := 6) hx hb dX10_frameBy_13 (by decide) ?_
  refine lv_iconst (v := 3) hx hb dX10_frameBy_15 (by decide) ?_
  refine tl_si (tq_rVN hN (As := [.int 6, .int 3]) (rest := [.ref o]) ⟨hx, hb, hml, hown, hta⟩ (tp_P.pre hK hN hL hI hP) (tp_recv hK hP hq.1 ((tp_un hfr hq (by decide)).trans hf_1) rfl) lk_X10_65 (t_X7_firstOf l D cy H.size L K f_32 q 6 3 hq) rfl rfl ⟨Nat.le_of_ble_eq_true rfl, Nat.le_of_ble_eq_true rfl⟩ rfl hl.1 rfl (Nat.le_of_ble_eq_true rfl) dX10_frameBy_16 ⟨Nat.le_of_ble_eq_true rfl, Nat.le_of_ble_eq_true rfl⟩) (fun r_35 hw_34 => ?_)
  have hw_34 : (0 ≤ r_35.toInt ∧ r_35.toInt ≤ 9999) ∨ r_35 = 3 := hw_34
  have hI9 : tp_I cy L K (va_up f_32 o (.inr (10, [.ref x_14, .ref x_15, .ref x_16, .ref x_17, .ref x_18, .ref x_19, .ref x_20, .ref x_21, .ref x_22, .int r_12, .int r_35, .int x_25, .int x_26, .int x_27, .int x_28, .int x_29, .long x_30, .long x_31]))) := hI.set ho (show tp_o_VIEW L K (0) _ from ⟨x_14, x_15, x_16, x_17, x_18, x_19, x_20, x_21, x_22, r_12, r_35, x_25, x_26, x_27, x_28, x_29, x_30, x_31, rfl, hx_14, hx_15, hx_16, hx_17, hx_18, hx_19, hx_20, hx_21, hx_22, (by omega), (by omega)⟩)
  have hfr9 : ∀ b, (K b).1 ∉ ([25] : List Nat) → va_up f_32 o (.inr (10, [.ref x_14, .ref x_15, .ref x_16, .ref x_17, .ref x_18, .ref x_19, .ref x_20, .ref x_21, .ref x_22, .int r_12, .int r_35, .int x_25, .int x_26, .int x_27, .int x_28, .int x_29, .long x_30, .long x_31])) b = f b := tp_fr hfr ho (by decide)
  refine tp_put (cy := cy) (ci := 10) (v := .int r_35) (ty := tyX10 10) (C := RX10) (T := TX10) (N := 18) hx hb hta inlX10 tyX10 tyX10_ok nmX10 hown hK hP hD hS ho.1 hf_33 rfl 10 (by decide) (hta _ wk_847) (fun _ h9 => h9) rfl (tyX10_ok 10 (by decide)) rfl rfl (Nat.le_of_ble_eq_true rfl) dX10_frameBy_19 (fun H locs hP hD hS => ?_)
  have hP : va_P D vwCl (va_pl L (va_up f_32 o (.inr (10, [.ref x_14, .ref x_15, .ref x_16, .ref x_17, .ref x_18, .ref x_19, .ref x_20, .ref x_21, .ref x_22, .int r_12, .int r_35, .int x_25, .int x_26, .int x_27, .int x_28, .int x_29, .long x_30, .long x_31])))) H := hP
  generalize hfe : va_up f_32 o (.inr (10, [.ref x_14, .ref x_15, .ref x_16, .ref x_17, .ref x_18, .ref x_19, .ref x_20, .ref x_21, .ref x_22, .int r_12, .int r_35, .int x_25, .int x_26, .int x_27, .int x_28, .int x_29, .long x_30, .long x_31])) = f_36 at hP hI9 hfr9
  have hD : va_D A (va_pl L f_36) := tp_D hL hAL
  have hf_37 : f_36 o = .inr (10, [.ref x_14, .ref x_15, .ref x_16, .ref x_17, .ref x_18, .ref x_19, .ref x_20, .ref x_21, .ref x_22, .int r_12, .int r_35, .int x_25, .int x_26, .int x_27, .int x_28, .int x_29, .long x_30, .long x_31]) := by rw [← hfe]; exact va_up_self _ _ _
  clear hfe
  have hI := hI9
  have hfr := hfr9
  clear hI9 hfr9
  refine lv_aload_n hx hb dX10_frameBy_22 rfl (lv_at hl 0 rfl) ?_
  refine lv_aload_n hx hb dX10_frameBy_23 rfl (lv_at hl 1 rfl) ?_
  refine lv_iconst (v := 5) hx hb dX10_frameBy_24 (by decide) ?_
  refine lv_sipush (v := 140) hx hb dX10_frameBy_25 (by decide) ?_
  refine tl_si (tq_rVN hN (As := [.int 5, .int 140]) (rest := [.ref o]) ⟨hx, hb, hml, hown, hta⟩ (tp_P.pre hK hN hL hI hP) (tp_recv hK hP hq.1 ((tp_un hfr hq (by decide)).trans hf_1) rfl) lk_X10_65 (t_X7_firstOf l D cy H.size L K f_36 q 5 140 hq) rfl rfl ⟨Nat.le_of_ble_eq_true rfl, Nat.le_of_ble_eq_true rfl⟩ rfl hl.1 rfl (Nat.le_of_ble_eq_true rfl) dX10_frameBy_28 ⟨Nat.le_of_ble_eq_true rfl, Nat.le_of_ble_eq_true rfl⟩) (fun r_39 hw_38 => ?_)
  have hw_38 : (0 ≤ r_39.toInt ∧ r_39.toInt ≤ 9999) ∨ r_39 = 140 := hw_38
  have hI9 : tp_I cy L K (va_up f_36 o (.inr (10, [.ref x_14, .ref x_15, .ref x_16, .ref x_17, .ref x_18, .ref x_19, .ref x_20, .ref x_21, .ref x_22, .int r_12, .int r_35, .int r_39, .int x_26, .int x_27, .int x_28, .int x_29, .long x_30, .long x_31]))) := hI.set ho (show tp_o_VIEW L K (0) _ from ⟨x_14, x_15, x_16, x_17, x_18, x_19, x_20, x_21, x_22, r_12, r_35, r_39, x_26, x_27, x_28, x_29, x_30, x_31, rfl, hx_14, hx_15, hx_16, hx_17, hx_18, hx_19, hx_20, hx_21, hx_22, (by omega), (by omega)⟩)
  have hfr9 : ∀ b, (K b).1 ∉ ([25] : List Nat) → va_up f_36 o (.inr (10, [.ref x_14, .ref x_15, .ref x_16, .ref x_17, .ref x_18, .ref x_19, .ref x_20, .ref x_21, .ref x_22, .int r_12, .int r_35, .int r_39, .int x_26, .int x_27, .int x_28, .int x_29, .long x_30, .long x_31])) b = f b := tp_fr hfr ho (by decide)
  refine tp_put (cy := cy) (ci := 10) (v := .int r_39) (ty := tyX10 11) (C := RX10) (T := TX10) (N := 18) hx hb hta inlX10 tyX10 tyX10_ok nmX10 hown hK hP hD hS ho.1 hf_37 rfl 11 (by decide) (hta _ wk_848) (fun _ h9 => h9) rfl (tyX10_ok 11 (by decide)) rfl rfl (Nat.le_of_ble_eq_true rfl) dX10_frameBy_31 (fun H locs hP hD hS => ?_)
  have hP : va_P D vwCl (va_pl L (va_up f_36 o (.inr (10, [.ref x_14, .ref x_15, .ref x_16, .ref x_17, .ref x_18, .ref x_19, .ref x_20, .ref x_21, .ref x_22, .int r_12, .int r_35, .int r_39, .int x_26, .int x_27, .int x_28, .int x_29, .long x_30, .long x_31])))) H := hP
  generalize hfe : va_up f_36 o (.inr (10, [.ref x_14, .ref x_15, .ref x_16, .ref x_17, .ref x_18, .ref x_19, .ref x_20, .ref x_21, .ref x_22, .int r_12, .int r_35, .int r_39, .int x_26, .int x_27, .int x_28, .int x_29, .long x_30, .long x_31])) = f_40 at hP hI9 hfr9
  have hD : va_D A (va_pl L f_40) := tp_D hL hAL
  have hf_41 : f_40 o = .inr (10, [.ref x_14, .ref x_15, .ref x_16, .ref x_17, .ref x_18, .ref x_19, .ref x_20, .ref x_21, .ref x_22, .int r_12, .int r_35, .int r_39, .int x_26, .int x_27, .int x_28, .int x_29, .long x_30, .long x_31]) := by rw [← hfe]; exact va_up_self _ _ _
  clear hfe
  have hI := hI9
  have hfr := hfr9
  clear hI9 hfr9
  refine lv_aload_n hx hb dX10_frameBy_34 rfl (lv_at hl 0 rfl) ?_
  refine lv_aload_n hx hb dX10_frameBy_35 rfl (lv_at hl 1 rfl) ?_
  refine lv_iconst (v := 5) hx hb dX10_frameBy_36 (by decide) ?_
  refine lv_sipush (v := 159) hx hb dX10_frameBy_37 (by decide) ?_
  refine tl_si (tq_rVN hN (As := [.int 5, .int 159]) (rest := [.ref o]) ⟨hx, hb, hml, hown, hta⟩ (tp_P.pre hK hN hL hI hP) (tp_recv hK hP hq.1 ((tp_un hfr hq (by decide)).trans hf_1) rfl) lk_X10_78 (t_X7_secondOf l D cy H.size L K f_40 q 5 159 hq) rfl rfl ⟨Nat.le_of_ble_eq_true rfl, Nat.le_of_ble_eq_true rfl⟩ rfl hl.1 rfl (Nat.le_of_ble_eq_true rfl) dX10_frameBy_40 ⟨Nat.le_of_ble_eq_true rfl, Nat.le_of_ble_eq_true rfl⟩) (fun r_43 hw_42 => ?_)
  have hw_42 : (0 ≤ r_43.toInt ∧ r_43.toInt ≤ 9999) ∨ r_43 = 159 := hw_42
  have hI9 : tp_I cy L K (va_up f_40 o (.inr (10, [.ref x_14, .ref x_15, .ref x_16, .ref x_17, .ref x_18, .ref x_19, .ref x_20, .ref x_21, .ref x_22, .int r_12, .int r_35, .int r_39, .int r_43, .int x_27, .int x_28, .int x_29, .long x_30, .long x_31]))) := hI.set ho (show tp_o_VIEW L K (0) _ from ⟨x_14, x_15, x_16, x_17, x_18, x_19, x_20, x_21, x_22, r_12, r_35, r_39, r_43, x_27, x_28, x_29, x_30, x_31, rfl, hx_14, hx_15, hx_16, hx_17, hx_18, hx_19, hx_20, hx_21, hx_22, (by omega), (by omega)⟩)
  have hfr9 : ∀ b, (K b).1 ∉ ([25] : List Nat) → va_up f_40 o (.inr (10, [.ref x_14, .ref x_15, .ref x_16, .ref x_17, .ref x_18, .ref x_19, .ref x_20, .ref x_21, .ref x_22, .int r_12, .int r_35, .int r_39, .int r_43, .int x_27, .int x_28, .int x_29, .long x_30, .long x_31])) b = f b := tp_fr hfr ho (by decide)
  refine tp_put (cy := cy) (ci := 10) (v := .int r_43) (ty := tyX10 12) (C := RX10) (T := TX10) (N := 18) hx hb hta inlX10 tyX10 tyX10_ok nmX10 hown hK hP hD hS ho.1 hf_41 rfl 12 (by decide) (hta _ wk_849) (fun _ h9 => h9) rfl (tyX10_ok 12 (by decide)) rfl rfl (Nat.le_of_ble_eq_true rfl) dX10_frameBy_43 (fun H locs hP hD hS => ?_)
  have hP : va_P D vwCl (va_pl L (va_up f_40 o (.inr (10, [.ref x_14, .ref x_15, .ref x_16, .ref x_17, .ref x_18, .ref x_19, .ref x_20, .ref x_21, .ref x_22, .int r_12, .int r_35, .int r_39, .int r_43, .int x_27, .int x_28, .int x_29, .long x_30, .long x_31])))) H := hP
  generalize hfe : va_up f_40 o (.inr (10, [.ref x_14, .ref x_15, .ref x_16, .ref x_17, .ref x_18, .ref x_19, .ref x_20, .ref x_21, .ref x_22, .int r_12, .int r_35, .int r_39, .int r_43, .int x_27, .int x_28, .int x_29, .long x_30, .long x_31])) = f_44 at hP hI9 hfr9
  have hD : va_D A (va_pl L f_44) := tp_D hL hAL
  have hf_45 : f_44 o = .inr (10, [.ref x_14, .ref x_15, .ref x_16, .ref x_17, .ref x_18, .ref x_19, .ref x_20, .ref x_21, .ref x_22, .int r_12, .int r_35, .int r_39, .int r_43, .int x_27, .int x_28, .int x_29, .long x_30, .long x_31]) := by rw [← hfe]; exact va_up_self _ _ _
  clear hfe
  have hI := hI9
  have hfr := hfr9
  clear hI9 hfr9
  exact W.vret hx hb hr (fun t ht hW => ⟨⟨f_44, rfl, trivial, by rw [ht]; exact hP, hI, hfr⟩, hS.F ht⟩) hS.2.2 dX10_frameBy_46
set_option maxHeartbeats 4000000 in
set_option maxRecDepth 100000 in
theorem t_X10_tally (l : Launch) (D : va_G) (cy : Nat → ClassId) (sz : Nat) (L : List Nat) (K : Nat → Nat × Nat) (f : Nat → va_E) (o : Nat) (ho : tp_r L K 25 (0) o) : Met l yX10_tally (tl_w yX10_tally cX10_tally 3 none) ({ frames := 0, cells := 0, slots := 0, locals := 0 }) (va_Pc [.ref o] (tp_P D cy L K f sz)) (va_Qv (fun (u : Nat → va_E) => True) (tp_B D cy L K f [28]) (tp_A L sz)) 0 0 (tp_A L sz) := by
  refine Met.ofW (cc := cX10_tally) (maxL := 3) (ret := none) (by decide) rfl ?_
  intro p e s m args below meth c s₁ B hml hv
  obtain ⟨rfl, hsz, hP, hK, hL, hI, hN⟩ := hv
  have hx := B.exec
  have hb := B.bytes
  have hr := B.returns
  have hta := tl_hta (atoms_spec (ws := tl_w yX10_tally cX10_tally 3 none) B.pre)
  have hown : s.vm.findClass RX10 = some m.cls := findClass_of_methodNamed B.named
  have hlocks := B.notSynchronized
  subst hsz
  have hI0 := hI
  generalize hAe : tp_A L s.heap.size = A
  have hA : ∀ q : Nat, s.heap.size ≤ q → A q := fun q h => by rw [← hAe]; exact Or.inr h
  have hAL : ∀ q ∈ L, A q := fun q h => by rw [← hAe]; exact Or.inl h
  have hAf : ∀ (H : Heap), s.heap.size ≤ H.size → ∀ q, tp_A L H.size q → A q := fun H h q hq => hq.elim (hAL q) (fun h2 => hA q (Nat.le_trans h h2))
  have hS : va_S A s.heap s.heap [] := va_S.rf
  have hD : va_D A (va_pl L f) := tp_D hL hAL
  have hfr : ∀ b, (K b).1 ∉ ([28] : List Nat) → f b = f b := fun _ _ => rfl
  have hl := lv_entry ([.ref o]) (n := 3) (Nat.le_of_ble_eq_true rfl)
  rw [lg_entry_eq]
  generalize (lg_sl ([.ref o]) ++ List.replicate (3 - (lg_sl ([.ref o])).length) Slot.unset).toArray = ls at hl ⊢
  have hl : lv_has ls 3 [(0, .ref o)] := hl
  refine lv_iconst (v := 0) hx hb dX10_tally_0 (by decide) ?_
  refine lv_istore_n (lv' := [(1, .int 0), (0, .ref o)]) hx hb dX10_tally_1 rfl hl (by decide) rfl (fun ls hl => ?_)
  refine tq_start hP hS (fun H locs hP hS => ?_)
  refine tl_ind (G := fun H locs ls => W p l e ((headSpec (tl_w yX10_tally cX10_tally 3 none) ({ frames := 0, cells := 0, slots := 0, locals := 0 })).room) s m #[.ref o] below meth c H locs 0 0 (MQ below (va_Qv (fun (u : Nat → va_E) => True) (tp_B D cy L K f [28]) A) #[.ref o] s 0 0 A) (F0 m 2 ls [])) (α := (Nat → va_E) × Int32) (fun aq => (300 - aq.2.toInt).toNat) (fun aq H locs ls => (0 ≤ aq.2.toInt) ∧ (aq.2.toInt ≤ 300) ∧ va_P D vwCl (va_pl L aq.1) H ∧ tp_I cy L K aq.1 ∧ (∀ b, (K b).1 ∉ ([28] : List Nat) → aq.1 b = f b) ∧ va_S A s.heap H locs ∧ lv_has ls 3 [(1, .int aq.2), (0, .ref o)]) ?_ (f, (0 : Int32)) H locs ls ⟨(show 0 ≤ (0 : Int) from (by omega)), (show (0 : Int) ≤ 300 from (by omega)), hP, hI, hfr, hS, lv_sub hl [0, 1] rfl⟩
  rintro ⟨f_1, v1⟩ H locs ls ⟨h0, h1, hP, hI, hfr, hS, hl⟩ ih2
  have hP : va_P D vwCl (va_pl L f_1) H := hP
  have hI : tp_I cy L K f_1 := hI
  have hfr : ∀ b, (K b).1 ∉ ([28] : List Nat) → f_1 b = f b := hfr
  have hD : va_D A (va_pl L f_1) := tp_D hL hAL
  have h0 : 0 ≤ v1.toInt := h0
  have h1 : v1.toInt ≤ 300 := h1
  have hl : lv_has ls 3 [(1, .int v1), (0, .ref o)] := hl
  refine lv_iload_n hx hb dX10_tally_2 rfl (lv_at hl 0 rfl) ?_
  refine lv_sipush (v := 300) hx hb dX10_tally_3 (by decide) ?_
  refine lv_icmp_ge (tgt := 92) hx hb dX10_tally_6 (by decide) (fun c_2 => ?_) (fun c_2 => ?_)
  · have c_2 : (300 : Int) ≤ v1.toInt := tl_le c_2
    exact W.vret hx hb hr (fun t ht hW => ⟨⟨f_1, rfl, trivial, by rw [ht]; exact hP, hI, hfr⟩, hS.F ht⟩) hS.2.2 dX10_tally_92
  · have c_2 : v1.toInt < (300 : Int) := tl_nle c_2
    refine lv_aload_n hx hb dX10_tally_9 rfl (lv_at hl 1 rfl) ?_
    obtain ⟨x_4, x_5, x_6, x_7, x_8, x_9, x_10, x_11, x_12, x_13, x_14, x_15, x_16, x_17, x_18, x_19, x_20, x_21, hf_3, hx_4, hx_5, hx_6, hx_7, hx_8, hx_9, hx_10, hx_11, hx_12, hx_14, hx_17⟩ := (show tp_o_VIEW L K (0) (f o) from hI0.at ho)
    refine tp_get (cy := cy) (ci := 10) (v := .ref x_4) (C := RX10) (T := TX10) (N := 18) hx hb hta inlX10 hown hK hP ho.1 ((tp_un hfr ho (by decide)).trans hf_3) rfl 0 (by decide) (hta _ wk_131) (fun _ h9 => h9) rfl dX10_tally_10 ?_
    refine lv_iload_n hx hb dX10_tally_13 rfl (lv_at hl 0 rfl) ?_
    obtain ⟨g_23, hf_22⟩ := (show tp_az cy (300) (f x_4) from hI0.at hx_4)
    have hn_25 : vp_in v1 (300) := tl_in (by omega) (by omega)
    refine tp_zald (cy := cy) hx hb hK hP hx_4.1 ((tp_un hfr hx_4 (by decide)).trans hf_22) hn_25 dX10_tally_14 ?_
    refine lv_topi (fun z_26 ez_26 => ?_)
    refine lv_if_eq (tgt := 31) hx hb dX10_tally_15 (by decide) (fun c_27 => ?_) (fun c_27 => ?_)
    · have c_27 : z_26.toInt = (0 : Int) := tl_eq c_27
      refine lv_iconst (v := 0) hx hb dX10_tally_31 (by decide) ?_
      refine lv_istore_n (lv' := [(2, .int 0), (1, .int v1), (0, .ref o)]) hx hb dX10_tally_32 rfl hl (by decide) rfl (fun ls hl => ?_)
      refine lv_aload_n hx hb dX10_tally_33 rfl (lv_at hl 2 rfl) ?_
      refine tp_get (cy := cy) (ci := 10) (v := .ref x_9) (C := RX10) (T := TX10) (N := 18) hx hb hta inlX10 hown hK hP ho.1 ((tp_un hfr ho (by decide)).trans hf_3) rfl 5 (by decide) (hta _ wk_136) (fun _ h9 => h9) rfl dX10_tally_34 ?_
      refine lv_iload_n hx hb dX10_tally_37 rfl (lv_at hl 1 rfl) ?_
      refine lv_iconst (v := 1) hx hb dX10_tally_38 (by decide) ?_
      refine lv_iadd hx hb dX10_tally_39 ?_
      refine lv_topi (fun z_28 ez_28 => ?_)
      try have iz_28 : z_28.toInt = v1.toInt + (1 : Int) := by rw [ez_28]; exact tl_addN v1 1 rfl rfl (by omega) (by omega)
      refine lv_aload_n hx hb dX10_tally_40 rfl (lv_at hl 2 rfl) ?_
      refine tp_get (cy := cy) (ci := 10) (v := .ref x_9) (C := RX10) (T := TX10) (N := 18) hx hb hta inlX10 hown hK hP ho.1 ((tp_un hfr ho (by decide)).trans hf_3) rfl 5 (by decide) (hta _ wk_136) (fun _ h9 => h9) rfl dX10_tally_41 ?_
      refine lv_iload_n hx hb dX10_tally_44 rfl (lv_at hl 1 rfl) ?_
      obtain ⟨g_30, hf_29, hg_31⟩ := (show tp_ai cy 28 (301) (f_1 x_9) from hI.at hx_9)
      have hn_32 : vp_in v1 (301) := tl_in (by omega) (by omega)
      refine tp_iald (cy := cy) hx hb hK hP hx_9.1 hf_29 hn_32 dX10_tally_45 ?_
      refine lv_topi (fun z_33 ez_33 => ?_)
      refine lv_iload_n hx hb dX10_tally_46 rfl (lv_at hl 0 rfl) ?_
      refine lv_if_eq (tgt := 54) hx hb dX10_tally_47 (by decide) (fun _ => ?_) (fun c => absurd c (by decide))
      refine lv_iconst (v := 0) hx hb dX10_tally_54 (by decide) ?_
      refine lv_iadd hx hb dX10_tally_55 ?_
      refine lv_topi (fun z_34 ez_34 => ?_)
      try have iz_34 : z_34.toInt = z_33.toInt + (0 : Int) := by rw [ez_34]; exact tl_addN z_33 0 rfl rfl (by omega) (by omega)
      have hn_35 : vp_in z_28 (301) := tl_in (by omega) (by omega)
      have hI9 : tp_I cy L K (va_up f_1 x_9 (.inl (cy 0, 301, .inl (upd g_30 z_28.toNatClampNeg z_34)))) := hI.set hx_9 (show tp_ai cy 28 (301) _ from ⟨_, rfl, tp_pi_upd hg_31 trivial⟩)
      have hfr9 : ∀ b, (K b).1 ∉ ([28] : List Nat) → va_up f_1 x_9 (.inl (cy 0, 301, .inl (upd g_30 z_28.toNatClampNeg z_34))) b = f b := tp_fr hfr hx_9 (by decide)
      refine tp_iast (cy := cy) hx hb hK hP hD hS hx_9.1 hf_29 hn_35 dX10_tally_56 (fun H locs hP hD hS => ?_)
      have hP : va_P D vwCl (va_pl L (va_up f_1 x_9 (.inl (cy 0, 301, .inl (upd g_30 z_28.toNatClampNeg z_34))))) H := hP
      generalize hfe : va_up f_1 x_9 (.inl (cy 0, 301, .inl (upd g_30 z_28.toNatClampNeg z_34))) = f_36 at hP hI9 hfr9
      have hD : va_D A (va_pl L f_36) := tp_D hL hAL
      have hf_37 : f_36 x_9 = .inl (cy 0, 301, .inl (upd g_30 z_28.toNatClampNeg z_34)) := by rw [← hfe]; exact va_up_self _ _ _
      clear hfe
      have hI := hI9
      have hfr := hfr9
      clear hI9 hfr9
      refine lv_aload_n hx hb dX10_tally_57 rfl (lv_at hl 2 rfl) ?_
      refine tp_get (cy := cy) (ci := 10) (v := .ref x_10) (C := RX10) (T := TX10) (N := 18) hx hb hta inlX10 hown hK hP ho.1 ((tp_un hfr ho (by decide)).trans hf_3) rfl 6 (by decide) (hta _ wk_137) (fun _ h9 => h9) rfl dX10_tally_58 ?_
      refine lv_iload_n hx hb dX10_tally_61 rfl (lv_at hl 1 rfl) ?_
      refine lv_iconst (v := 1) hx hb dX10_tally_62 (by decide) ?_
      refine lv_iadd hx hb dX10_tally_63 ?_
      refine lv_topi (fun z_38 ez_38 => ?_)
      try have iz_38 : z_38.toInt = v1.toInt + (1 : Int) := by rw [ez_38]; exact tl_addN v1 1 rfl rfl (by omega) (by omega)
      refine lv_aload_n hx hb dX10_tally_64 rfl (lv_at hl 2 rfl) ?_
      refine tp_get (cy := cy) (ci := 10) (v := .ref x_10) (C := RX10) (T := TX10) (N := 18) hx hb hta inlX10 hown hK hP ho.1 ((tp_un hfr ho (by decide)).trans hf_3) rfl 6 (by decide) (hta _ wk_137) (fun _ h9 => h9) rfl dX10_tally_65 ?_
      refine lv_iload_n hx hb dX10_tally_68 rfl (lv_at hl 1 rfl) ?_
      obtain ⟨g_40, hf_39, hg_41⟩ := (show tp_ai cy 28 (301) (f_36 x_10) from hI.at hx_10)
      have hn_42 : vp_in v1 (301) := tl_in (by omega) (by omega)
      refine tp_iald (cy := cy) hx hb hK hP hx_10.1 hf_39 hn_42 dX10_tally_69 ?_
      refine lv_topi (fun z_43 ez_43 => ?_)
      refine lv_iload_n hx hb dX10_tally_70 rfl (lv_at hl 0 rfl) ?_
      refine lv_if_eq (tgt := 83) hx hb dX10_tally_71 (by decide) (fun _ => ?_) (fun c => absurd c (by decide))
      refine lv_iconst (v := 0) hx hb dX10_tally_83 (by decide) ?_
      refine lv_iadd hx hb dX10_tally_84 ?_
      refine lv_topi (fun z_44 ez_44 => ?_)
      try have iz_44 : z_44.toInt = z_43.toInt + (0 : Int) := by rw [ez_44]; exact tl_addN z_43 0 rfl rfl (by omega) (by omega)
      have hn_45 : vp_in z_38 (301) := tl_in (by omega) (by omega)
      have hI9 : tp_I cy L K (va_up f_36 x_10 (.inl (cy 0, 301, .inl (upd g_40 z_38.toNatClampNeg z_44)))) := hI.set hx_10 (show tp_ai cy 28 (301) _ from ⟨_, rfl, tp_pi_upd hg_41 trivial⟩)
      have hfr9 : ∀ b, (K b).1 ∉ ([28] : List Nat) → va_up f_36 x_10 (.inl (cy 0, 301, .inl (upd g_40 z_38.toNatClampNeg z_44))) b = f b := tp_fr hfr hx_10 (by decide)
      refine tp_iast (cy := cy) hx hb hK hP hD hS hx_10.1 hf_39 hn_45 dX10_tally_85 (fun H locs hP hD hS => ?_)
      have hP : va_P D vwCl (va_pl L (va_up f_36 x_10 (.inl (cy 0, 301, .inl (upd g_40 z_38.toNatClampNeg z_44))))) H := hP
      generalize hfe : va_up f_36 x_10 (.inl (cy 0, 301, .inl (upd g_40 z_38.toNatClampNeg z_44))) = f_46 at hP hI9 hfr9
      have hD : va_D A (va_pl L f_46) := tp_D hL hAL
      have hf_47 : f_46 x_10 = .inl (cy 0, 301, .inl (upd g_40 z_38.toNatClampNeg z_44)) := by rw [← hfe]; exact va_up_self _ _ _
      clear hfe
      have hI := hI9
      have hfr := hfr9
      clear hI9 hfr9
      obtain ⟨z_48, ez_48⟩ : ∃ y : Int32, y = v1 + 1 := ⟨_, rfl⟩
      refine lv_iinc (v := z_48) (lv' := [(1, .int z_48), (2, .int 0), (0, .ref o)]) hx hb dX10_tally_86 hl (k := 1) rfl (by rw [ez_48]; rfl) (by decide) rfl (fun ls hl => ?_)
      have iz_48 : z_48.toInt = v1.toInt + 1 := by rw [ez_48]; exact tl_addL v1 1 (by decide) (by omega) (by omega)
      refine lv_goto (tgt := 2) hx hb dX10_tally_89 (by decide) ?_
      exact ih2 (f_46, z_48) H locs ls (by show (300 - z_48.toInt).toNat < (300 - v1.toInt).toNat; omega) ⟨(show 0 ≤ z_48.toInt from (by omega)), (show z_48.toInt ≤ 300 from (by omega)), hP, hI, hfr, hS, lv_sub hl [0, 2] rfl⟩
    · have c_27 : ¬ z_26.toInt = (0 : Int) := tl_neq c_27
      refine lv_aload_n hx hb dX10_tally_18 rfl (lv_at hl 1 rfl) ?_
      refine tp_get (cy := cy) (ci := 10) (v := .ref x_5) (C := RX10) (T := TX10) (N := 18) hx hb hta inlX10 hown hK hP ho.1 ((tp_un hfr ho (by decide)).trans hf_3) rfl 1 (by decide) (hta _ wk_132) (fun _ h9 => h9) rfl dX10_tally_19 ?_
      refine lv_iload_n hx hb dX10_tally_22 rfl (lv_at hl 0 rfl) ?_
      obtain ⟨g_50, hf_49⟩ := (show tp_az cy (300) (f x_5) from hI0.at hx_5)
      have hn_52 : vp_in v1 (300) := tl_in (by omega) (by omega)
      refine tp_zald (cy := cy) hx hb hK hP hx_5.1 ((tp_un hfr hx_5 (by decide)).trans hf_49) hn_52 dX10_tally_23 ?_
      refine lv_topi (fun z_53 ez_53 => ?_)
      refine lv_if_ne (tgt := 31) hx hb dX10_tally_24 (by decide) (fun c_54 => ?_) (fun c_54 => ?_)
      · have c_54 : ¬ z_53.toInt = (0 : Int) := tl_neq c_54
        refine lv_iconst (v := 0) hx hb dX10_tally_31 (by decide) ?_
        refine lv_istore_n (lv' := [(2, .int 0), (1, .int v1), (0, .ref o)]) hx hb dX10_tally_32 rfl hl (by decide) rfl (fun ls hl => ?_)
        refine lv_aload_n hx hb dX10_tally_33 rfl (lv_at hl 2 rfl) ?_
        refine tp_get (cy := cy) (ci := 10) (v := .ref x_9) (C := RX10) (T := TX10) (N := 18) hx hb hta inlX10 hown hK hP ho.1 ((tp_un hfr ho (by decide)).trans hf_3) rfl 5 (by decide) (hta _ wk_136) (fun _ h9 => h9) rfl dX10_tally_34 ?_
        refine lv_iload_n hx hb dX10_tally_37 rfl (lv_at hl 1 rfl) ?_
        refine lv_iconst (v := 1) hx hb dX10_tally_38 (by decide) ?_
        refine lv_iadd hx hb dX10_tally_39 ?_
        refine lv_topi (fun z_55 ez_55 => ?_)
        try have iz_55 : z_55.toInt = v1.toInt + (1 : Int) := by rw [ez_55]; exact tl_addN v1 1 rfl rfl (by omega) (by omega)
        refine lv_aload_n hx hb dX10_tally_40 rfl (lv_at hl 2 rfl) ?_
        refine tp_get (cy := cy) (ci := 10) (v := .ref x_9) (C := RX10) (T := TX10) (N := 18) hx hb hta inlX10 hown hK hP ho.1 ((tp_un hfr ho (by decide)).trans hf_3) rfl 5 (by decide) (hta _ wk_136) (fun _ h9 => h9) rfl dX10_tally_41 ?_
        refine lv_iload_n hx hb dX10_tally_44 rfl (lv_at hl 1 rfl) ?_
        obtain ⟨g_57, hf_56, hg_58⟩ := (show tp_ai cy 28 (301) (f_1 x_9) from hI.at hx_9)
        have hn_59 : vp_in v1 (301) := tl_in (by omega) (by omega)
        refine tp_iald (cy := cy) hx hb hK hP hx_9.1 hf_56 hn_59 dX10_tally_45 ?_
        refine lv_topi (fun z_60 ez_60 => ?_)
        refine lv_iload_n hx hb dX10_tally_46 rfl (lv_at hl 0 rfl) ?_
        refine lv_if_eq (tgt := 54) hx hb dX10_tally_47 (by decide) (fun _ => ?_) (fun c => absurd c (by decide))
        refine lv_iconst (v := 0) hx hb dX10_tally_54 (by decide) ?_
        refine lv_iadd hx hb dX10_tally_55 ?_
        refine lv_topi (fun z_61 ez_61 => ?_)
        try have iz_61 : z_61.toInt = z_60.toInt + (0 : Int) := by rw [ez_61]; exact tl_addN z_60 0 rfl rfl (by omega) (by omega)
        have hn_62 : vp_in z_55 (301) := tl_in (by omega) (by omega)
        have hI9 : tp_I cy L K (va_up f_1 x_9 (.inl (cy 0, 301, .inl (upd g_57 z_55.toNatClampNeg z_61)))) := hI.set hx_9 (show tp_ai cy 28 (301) _ from ⟨_, rfl, tp_pi_upd hg_58 trivial⟩)
        have hfr9 : ∀ b, (K b).1 ∉ ([28] : List Nat) → va_up f_1 x_9 (.inl (cy 0, 301, .inl (upd g_57 z_55.toNatClampNeg z_61))) b = f b := tp_fr hfr hx_9 (by decide)
        refine tp_iast (cy := cy) hx hb hK hP hD hS hx_9.1 hf_56 hn_62 dX10_tally_56 (fun H locs hP hD hS => ?_)
        have hP : va_P D vwCl (va_pl L (va_up f_1 x_9 (.inl (cy 0, 301, .inl (upd g_57 z_55.toNatClampNeg z_61))))) H := hP
        generalize hfe : va_up f_1 x_9 (.inl (cy 0, 301, .inl (upd g_57 z_55.toNatClampNeg z_61))) = f_63 at hP hI9 hfr9
        have hD : va_D A (va_pl L f_63) := tp_D hL hAL
        have hf_64 : f_63 x_9 = .inl (cy 0, 301, .inl (upd g_57 z_55.toNatClampNeg z_61)) := by rw [← hfe]; exact va_up_self _ _ _
        clear hfe
        have hI := hI9
        have hfr := hfr9
        clear hI9 hfr9
        refine lv_aload_n hx hb dX10_tally_57 rfl (lv_at hl 2 rfl) ?_
        refine tp_get (cy := cy) (ci := 10) (v := .ref x_10) (C := RX10) (T := TX10) (N := 18) hx hb hta inlX10 hown hK hP ho.1 ((tp_un hfr ho (by decide)).trans hf_3) rfl 6 (by decide) (hta _ wk_137) (fun _ h9 => h9) rfl dX10_tally_58 ?_
        refine lv_iload_n hx hb dX10_tally_61 rfl (lv_at hl 1 rfl) ?_
        refine lv_iconst (v := 1) hx hb dX10_tally_62 (by decide) ?_
        refine lv_iadd hx hb dX10_tally_63 ?_
        refine lv_topi (fun z_65 ez_65 => ?_)
        try have iz_65 : z_65.toInt = v1.toInt + (1 : Int) := by rw [ez_65]; exact tl_addN v1 1 rfl rfl (by omega) (by omega)
        refine lv_aload_n hx hb dX10_tally_64 rfl (lv_at hl 2 rfl) ?_
        refine tp_get (cy := cy) (ci := 10) (v := .ref x_10) (C := RX10) (T := TX10) (N := 18) hx hb hta inlX10 hown hK hP ho.1 ((tp_un hfr ho (by decide)).trans hf_3) rfl 6 (by decide) (hta _ wk_137) (fun _ h9 => h9) rfl dX10_tally_65 ?_
        refine lv_iload_n hx hb dX10_tally_68 rfl (lv_at hl 1 rfl) ?_
        obtain ⟨g_67, hf_66, hg_68⟩ := (show tp_ai cy 28 (301) (f_63 x_10) from hI.at hx_10)
        have hn_69 : vp_in v1 (301) := tl_in (by omega) (by omega)
        refine tp_iald (cy := cy) hx hb hK hP hx_10.1 hf_66 hn_69 dX10_tally_69 ?_
        refine lv_topi (fun z_70 ez_70 => ?_)
        refine lv_iload_n hx hb dX10_tally_70 rfl (lv_at hl 0 rfl) ?_
        refine lv_if_eq (tgt := 83) hx hb dX10_tally_71 (by decide) (fun _ => ?_) (fun c => absurd c (by decide))
        refine lv_iconst (v := 0) hx hb dX10_tally_83 (by decide) ?_
        refine lv_iadd hx hb dX10_tally_84 ?_
        refine lv_topi (fun z_71 ez_71 => ?_)
        try have iz_71 : z_71.toInt = z_70.toInt + (0 : Int) := by rw [ez_71]; exact tl_addN z_70 0 rfl rfl (by omega) (by omega)
        have hn_72 : vp_in z_65 (301) := tl_in (by omega) (by omega)
        have hI9 : tp_I cy L K (va_up f_63 x_10 (.inl (cy 0, 301, .inl (upd g_67 z_65.toNatClampNeg z_71)))) := hI.set hx_10 (show tp_ai cy 28 (301) _ from ⟨_, rfl, tp_pi_upd hg_68 trivial⟩)
        have hfr9 : ∀ b, (K b).1 ∉ ([28] : List Nat) → va_up f_63 x_10 (.inl (cy 0, 301, .inl (upd g_67 z_65.toNatClampNeg z_71))) b = f b := tp_fr hfr hx_10 (by decide)
        refine tp_iast (cy := cy) hx hb hK hP hD hS hx_10.1 hf_66 hn_72 dX10_tally_85 (fun H locs hP hD hS => ?_)
        have hP : va_P D vwCl (va_pl L (va_up f_63 x_10 (.inl (cy 0, 301, .inl (upd g_67 z_65.toNatClampNeg z_71))))) H := hP
        generalize hfe : va_up f_63 x_10 (.inl (cy 0, 301, .inl (upd g_67 z_65.toNatClampNeg z_71))) = f_73 at hP hI9 hfr9
        have hD : va_D A (va_pl L f_73) := tp_D hL hAL
        have hf_74 : f_73 x_10 = .inl (cy 0, 301, .inl (upd g_67 z_65.toNatClampNeg z_71)) := by rw [← hfe]; exact va_up_self _ _ _
        clear hfe
        have hI := hI9
        have hfr := hfr9
        clear hI9 hfr9
        obtain ⟨z_75, ez_75⟩ : ∃ y : Int32, y = v1 + 1 := ⟨_, rfl⟩
        refine lv_iinc (v := z_75) (lv' := [(1, .int z_75), (2, .int 0), (0, .ref o)]) hx hb dX10_tally_86 hl (k := 1) rfl (by rw [ez_75]; rfl) (by decide) rfl (fun ls hl => ?_)
        have iz_75 : z_75.toInt = v1.toInt + 1 := by rw [ez_75]; exact tl_addL v1 1 (by decide) (by omega) (by omega)
        refine lv_goto (tgt := 2) hx hb dX10_tally_89 (by decide) ?_
        exact ih2 (f_73, z_75) H locs ls (by show (300 - z_75.toInt).toNat < (300 - v1.toInt).toNat; omega) ⟨(show 0 ≤ z_75.toInt from (by omega)), (show z_75.toInt ≤ 300 from (by omega)), hP, hI, hfr, hS, lv_sub hl [0, 2] rfl⟩
      · have c_54 : z_53.toInt = (0 : Int) := tl_eq c_54
        refine lv_iconst (v := 1) hx hb dX10_tally_27 (by decide) ?_
        refine lv_goto (tgt := 32) hx hb dX10_tally_28 (by decide) ?_
        refine lv_istore_n (lv' := [(2, .int 1), (1, .int v1), (0, .ref o)]) hx hb dX10_tally_32 rfl hl (by decide) rfl (fun ls hl => ?_)
        refine lv_aload_n hx hb dX10_tally_33 rfl (lv_at hl 2 rfl) ?_
        refine tp_get (cy := cy) (ci := 10) (v := .ref x_9) (C := RX10) (T := TX10) (N := 18) hx hb hta inlX10 hown hK hP ho.1 ((tp_un hfr ho (by decide)).trans hf_3) rfl 5 (by decide) (hta _ wk_136) (fun _ h9 => h9) rfl dX10_tally_34 ?_
        refine lv_iload_n hx hb dX10_tally_37 rfl (lv_at hl 1 rfl) ?_
        refine lv_iconst (v := 1) hx hb dX10_tally_38 (by decide) ?_
        refine lv_iadd hx hb dX10_tally_39 ?_
        refine lv_topi (fun z_76 ez_76 => ?_)
        try have iz_76 : z_76.toInt = v1.toInt + (1 : Int) := by rw [ez_76]; exact tl_addN v1 1 rfl rfl (by omega) (by omega)
        refine lv_aload_n hx hb dX10_tally_40 rfl (lv_at hl 2 rfl) ?_
        refine tp_get (cy := cy) (ci := 10) (v := .ref x_9) (C := RX10) (T := TX10) (N := 18) hx hb hta inlX10 hown hK hP ho.1 ((tp_un hfr ho (by decide)).trans hf_3) rfl 5 (by decide) (hta _ wk_136) (fun _ h9 => h9) rfl dX10_tally_41 ?_
        refine lv_iload_n hx hb dX10_tally_44 rfl (lv_at hl 1 rfl) ?_
        obtain ⟨g_78, hf_77, hg_79⟩ := (show tp_ai cy 28 (301) (f_1 x_9) from hI.at hx_9)
        have hn_80 : vp_in v1 (301) := tl_in (by omega) (by omega)
        refine tp_iald (cy := cy) hx hb hK hP hx_9.1 hf_77 hn_80 dX10_tally_45 ?_
        refine lv_topi (fun z_81 ez_81 => ?_)
        refine lv_iload_n hx hb dX10_tally_46 rfl (lv_at hl 0 rfl) ?_
        refine lv_if_eq (tgt := 54) hx hb dX10_tally_47 (by decide) (fun c => absurd c (by decide)) (fun _ => ?_)
        refine lv_iconst (v := 1) hx hb dX10_tally_50 (by decide) ?_
        refine lv_goto (tgt := 55) hx hb dX10_tally_51 (by decide) ?_
        refine lv_iadd hx hb dX10_tally_55 ?_
        refine lv_topi (fun z_82 ez_82 => ?_)
        try have iz_82 : z_82.toInt = z_81.toInt + (1 : Int) := by rw [ez_82]; exact tl_addN z_81 1 rfl rfl (by omega) (by omega)
        have hn_83 : vp_in z_76 (301) := tl_in (by omega) (by omega)
        have hI9 : tp_I cy L K (va_up f_1 x_9 (.inl (cy 0, 301, .inl (upd g_78 z_76.toNatClampNeg z_82)))) := hI.set hx_9 (show tp_ai cy 28 (301) _ from ⟨_, rfl, tp_pi_upd hg_79 trivial⟩)
        have hfr9 : ∀ b, (K b).1 ∉ ([28] : List Nat) → va_up f_1 x_9 (.inl (cy 0, 301, .inl (upd g_78 z_76.toNatClampNeg z_82))) b = f b := tp_fr hfr hx_9 (by decide)
        refine tp_iast (cy := cy) hx hb hK hP hD hS hx_9.1 hf_77 hn_83 dX10_tally_56 (fun H locs hP hD hS => ?_)
        have hP : va_P D vwCl (va_pl L (va_up f_1 x_9 (.inl (cy 0, 301, .inl (upd g_78 z_76.toNatClampNeg z_82))))) H := hP
        generalize hfe : va_up f_1 x_9 (.inl (cy 0, 301, .inl (upd g_78 z_76.toNatClampNeg z_82))) = f_84 at hP hI9 hfr9
        have hD : va_D A (va_pl L f_84) := tp_D hL hAL
        have hf_85 : f_84 x_9 = .inl (cy 0, 301, .inl (upd g_78 z_76.toNatClampNeg z_82)) := by rw [← hfe]; exact va_up_self _ _ _
        clear hfe
        have hI := hI9
        have hfr := hfr9
        clear hI9 hfr9
        refine lv_aload_n hx hb dX10_tally_57 rfl (lv_at hl 2 rfl) ?_
        refine tp_get (cy := cy) (ci := 10) (v := .ref x_10) (C := RX10) (T := TX10) (N := 18) hx hb hta inlX10 hown hK hP ho.1 ((tp_un hfr ho (by decide)).trans hf_3) rfl 6 (by decide) (hta _ wk_137) (fun _ h9 => h9) rfl dX10_tally_58 ?_
        refine lv_iload_n hx hb dX10_tally_61 rfl (lv_at hl 1 rfl) ?_
        refine lv_iconst (v := 1) hx hb dX10_tally_62 (by decide) ?_
        refine lv_iadd hx hb dX10_tally_63 ?_
        refine lv_topi (fun z_86 ez_86 => ?_)
        try have iz_86 : z_86.toInt = v1.toInt + (1 : Int) := by rw [ez_86]; exact tl_addN v1 1 rfl rfl (by omega) (by omega)
        refine lv_aload_n hx hb dX10_tally_64 rfl (lv_at hl 2 rfl) ?_
        refine tp_get (cy := cy) (ci := 10) (v := .ref x_10) (C := RX10) (T := TX10) (N := 18) hx hb hta inlX10 hown hK hP ho.1 ((tp_un hfr ho (by decide)).trans hf_3) rfl 6 (by decide) (hta _ wk_137) (fun _ h9 => h9) rfl dX10_tally_65 ?_
        refine lv_iload_n hx hb dX10_tally_68 rfl (lv_at hl 1 rfl) ?_
        obtain ⟨g_88, hf_87, hg_89⟩ := (show tp_ai cy 28 (301) (f_84 x_10) from hI.at hx_10)
        have hn_90 : vp_in v1 (301) := tl_in (by omega) (by omega)
        refine tp_iald (cy := cy) hx hb hK hP hx_10.1 hf_87 hn_90 dX10_tally_69 ?_
        refine lv_topi (fun z_91 ez_91 => ?_)
        refine lv_iload_n hx hb dX10_tally_70 rfl (lv_at hl 0 rfl) ?_
        refine lv_if_eq (tgt := 83) hx hb dX10_tally_71 (by decide) (fun c => absurd c (by decide)) (fun _ => ?_)
        refine lv_aload_n hx hb dX10_tally_74 rfl (lv_at hl 2 rfl) ?_
        refine tp_get (cy := cy) (ci := 10) (v := .ref x_7) (C := RX10) (T := TX10) (N := 18) hx hb hta inlX10 hown hK hP ho.1 ((tp_un hfr ho (by decide)).trans hf_3) rfl 3 (by decide) (hta _ wk_134) (fun _ h9 => h9) rfl dX10_tally_75 ?_
        refine lv_iload_n hx hb dX10_tally_78 rfl (lv_at hl 1 rfl) ?_
        obtain ⟨g_93, hf_92, hg_94⟩ := (show tp_ai cy 27 (300) (f x_7) from hI0.at hx_7)
        have hn_95 : vp_in v1 (300) := tl_in (by omega) (by omega)
        refine tp_iald (cy := cy) hx hb hK hP hx_7.1 ((tp_un hfr hx_7 (by decide)).trans hf_92) hn_95 dX10_tally_79 ?_
        refine lv_topi (fun z_96 ez_96 => ?_)
        refine lv_goto (tgt := 84) hx hb dX10_tally_80 (by decide) ?_
        refine lv_iadd hx hb dX10_tally_84 ?_
        refine lv_topi (fun z_97 ez_97 => ?_)
        try have iz_97 : z_97.toInt = z_91.toInt + z_96.toInt := by rw [ez_97]; exact tl_addN z_91 z_96 rfl rfl (by omega) (by omega)
        have hn_98 : vp_in z_86 (301) := tl_in (by omega) (by omega)
        have hI9 : tp_I cy L K (va_up f_84 x_10 (.inl (cy 0, 301, .inl (upd g_88 z_86.toNatClampNeg z_97)))) := hI.set hx_10 (show tp_ai cy 28 (301) _ from ⟨_, rfl, tp_pi_upd hg_89 trivial⟩)
        have hfr9 : ∀ b, (K b).1 ∉ ([28] : List Nat) → va_up f_84 x_10 (.inl (cy 0, 301, .inl (upd g_88 z_86.toNatClampNeg z_97))) b = f b := tp_fr hfr hx_10 (by decide)
        refine tp_iast (cy := cy) hx hb hK hP hD hS hx_10.1 hf_87 hn_98 dX10_tally_85 (fun H locs hP hD hS => ?_)
        have hP : va_P D vwCl (va_pl L (va_up f_84 x_10 (.inl (cy 0, 301, .inl (upd g_88 z_86.toNatClampNeg z_97))))) H := hP
        generalize hfe : va_up f_84 x_10 (.inl (cy 0, 301, .inl (upd g_88 z_86.toNatClampNeg z_97))) = f_99 at hP hI9 hfr9
        have hD : va_D A (va_pl L f_99) := tp_D hL hAL
        have hf_100 : f_99 x_10 = .inl (cy 0, 301, .inl (upd g_88 z_86.toNatClampNeg z_97)) := by rw [← hfe]; exact va_up_self _ _ _
        clear hfe
        have hI := hI9
        have hfr := hfr9
        clear hI9 hfr9
        obtain ⟨z_101, ez_101⟩ : ∃ y : Int32, y = v1 + 1 := ⟨_, rfl⟩
        refine lv_iinc (v := z_101) (lv' := [(1, .int z_101), (2, .int 1), (0, .ref o)]) hx hb dX10_tally_86 hl (k := 1) rfl (by rw [ez_101]; rfl) (by decide) rfl (fun ls hl => ?_)
        have iz_101 : z_101.toInt = v1.toInt + 1 := by rw [ez_101]; exact tl_addL v1 1 (by decide) (by omega) (by omega)
        refine lv_goto (tgt := 2) hx hb dX10_tally_89 (by decide) ?_
        exact ih2 (f_99, z_101) H locs ls (by show (300 - z_101.toInt).toNat < (300 - v1.toInt).toNat; omega) ⟨(show 0 ≤ z_101.toInt from (by omega)), (show z_101.toInt ≤ 300 from (by omega)), hP, hI, hfr, hS, lv_sub hl [0, 2] rfl⟩
set_option maxHeartbeats 4000000 in
set_option maxRecDepth 100000 in
theorem t_X10_besideGap (l : Launch) (D : va_G) (cy : Nat → ClassId) (sz : Nat) (L : List Nat) (K : Nat → Nat × Nat) (f : Nat → va_E) (o : Nat) (q : Nat) (p0 : Int32) (p1 : Int32) (ho : tp_r L K 25 (0) o) (hq : tp_r L K 28 (301) q) (h0 : 0 ≤ p0.toInt ∧ p0.toInt ≤ 300) (h1 : 0 ≤ p1.toInt ∧ p1.toInt ≤ 300) : Met l yX10_besideGap (tl_w yX10_besideGap cX10_besideGap 7 (some .int)) ({ frames := 1, cells := 0, slots := 0, locals := 13 }) (va_Pc [.ref o, .ref q, .int p0, .int p1] (tp_P D cy L K f sz)) (vp_Si (fun r : Int32 => True)) 0 0 (fun _ => False) := by
  refine Met.ofW (cc := cX10_besideGap) (maxL := 7) (ret := (some .int)) (by decide) rfl ?_
  intro p e s m args below meth c s₁ B hml hv
  obtain ⟨rfl, hsz, hP, hK, hL, hI, hN⟩ := hv
  have hx := B.exec
  have hb := B.bytes
  have hr := B.returns
  have hta := tl_hta (atoms_spec (ws := tl_w yX10_besideGap cX10_besideGap 7 (some .int)) B.pre)
  have hown : s.vm.findClass RX10 = some m.cls := findClass_of_methodNamed B.named
  have hlocks := B.notSynchronized
  subst hsz
  have hI0 := hI
  have hl := lv_entry ([.ref o, .ref q, .int p0, .int p1]) (n := 7) (Nat.le_of_ble_eq_true rfl)
  rw [lg_entry_eq]
  generalize (lg_sl ([.ref o, .ref q, .int p0, .int p1]) ++ List.replicate (7 - (lg_sl ([.ref o, .ref q, .int p0, .int p1])).length) Slot.unset).toArray = ls at hl ⊢
  have hl : lv_has ls 7 [(0, .ref o), (1, .ref q), (2, .int p0), (3, .int p1)] := hl
  refine lv_iload_n hx hb dX10_besideGap_0 rfl (lv_at hl 2 rfl) ?_
  refine lv_aload_n hx hb dX10_besideGap_1 rfl (lv_at hl 0 rfl) ?_
  obtain ⟨x_2, x_3, x_4, x_5, x_6, x_7, x_8, x_9, x_10, x_11, x_12, x_13, x_14, x_15, x_16, x_17, x_18, x_19, hf_1, hx_2, hx_3, hx_4, hx_5, hx_6, hx_7, hx_8, hx_9, hx_10, hx_12, hx_15⟩ := (show tp_o_VIEW L K (0) (f o) from hI0.at ho)
  refine tp_get (cy := cy) (ci := 10) (v := .int x_13) (C := RX10) (T := TX10) (N := 18) hx hb hta inlX10 hown hK hP ho.1 hf_1 rfl 11 (by decide) (hta _ wk_848) (fun _ h9 => h9) rfl dX10_besideGap_2 ?_
  refine va_mmax hx hb (by rw [hml]; exact hl.1.symm) hown (hta _ wk_861) (hta _ wk_82) (hta _ wk_83) (hta _ wk_84) (Nat.le_of_ble_eq_true rfl) (Nat.le_of_ble_eq_true rfl) (Nat.le_of_ble_eq_true rfl) (Nat.le_of_ble_eq_true rfl) dX10_besideGap_5 ?_
  refine lv_topi (fun z_20 ez_20 => ?_)
  have iz_20 : (z_20.toInt = x_13.toInt ∧ p0.toInt ≤ x_13.toInt) ∨ (z_20.toInt = p0.toInt ∧ x_13.toInt ≤ p0.toInt) := by rw [ez_20]; exact tl_maxF
  refine lv_istore (lv' := [(4, .int z_20), (0, .ref o), (1, .ref q), (2, .int p0), (3, .int p1)]) hx hb dX10_besideGap_8 hl (by decide) rfl (fun ls hl => ?_)
  refine lv_iload_n hx hb dX10_besideGap_10 rfl (lv_at hl 4 rfl) ?_
  refine lv_aload_n hx hb dX10_besideGap_11 rfl (lv_at hl 1 rfl) ?_
  refine tp_get (cy := cy) (ci := 10) (v := .int x_14) (C := RX10) (T := TX10) (N := 18) hx hb hta inlX10 hown hK hP ho.1 hf_1 rfl 12 (by decide) (hta _ wk_849) (fun _ h9 => h9) rfl dX10_besideGap_12 ?_
  refine lv_iconst (v := 1) hx hb dX10_besideGap_15 (by decide) ?_
  refine lv_iadd hx hb dX10_besideGap_16 ?_
  refine lv_topi (fun z_21 ez_21 => ?_)
  try have iz_21 : z_21.toInt = x_14.toInt + (1 : Int) := by rw [ez_21]; exact tl_addN x_14 1 rfl rfl (by omega) (by omega)
  refine va_mmin hx hb (by rw [hml]; exact hl.1.symm) hown (hta _ wk_862) (hta _ wk_770) (hta _ wk_83) (hta _ wk_771) (Nat.le_of_ble_eq_true rfl) (Nat.le_of_ble_eq_true rfl) (Nat.le_of_ble_eq_true rfl) (Nat.le_of_ble_eq_true rfl) dX10_besideGap_17 ?_
  refine lv_topi (fun z_22 ez_22 => ?_)
  have iz_22 : (z_22.toInt = z_21.toInt ∧ z_21.toInt ≤ p1.toInt) ∨ (z_22.toInt = p1.toInt ∧ p1.toInt ≤ z_21.toInt) := by rw [ez_22]; exact tl_minF
  refine lv_istore (lv' := [(5, .int z_22), (4, .int z_20), (0, .ref o), (1, .ref q), (2, .int p0), (3, .int p1)]) hx hb dX10_besideGap_20 hl (by decide) rfl (fun ls hl => ?_)
  refine lv_iload hx hb dX10_besideGap_22 (lv_at hl 1 rfl) ?_
  refine lv_iload hx hb dX10_besideGap_24 (lv_at hl 0 rfl) ?_
  refine lv_icmp_ge (tgt := 41) hx hb dX10_besideGap_26 (by decide) (fun c_23 => ?_) (fun c_23 => ?_)
  · have c_23 : z_22.toInt ≤ z_20.toInt := tl_le c_23
    refine lv_iconst (v := 0) hx hb dX10_besideGap_41 (by decide) ?_
    refine lv_istore (lv' := [(6, .int 0), (5, .int z_22), (4, .int z_20), (0, .ref o), (1, .ref q), (2, .int p0), (3, .int p1)]) hx hb dX10_besideGap_42 hl (by decide) rfl (fun ls hl => ?_)
    refine lv_aload_n hx hb dX10_besideGap_44 rfl (lv_at hl 4 rfl) ?_
    refine lv_iload_n hx hb dX10_besideGap_45 rfl (lv_at hl 6 rfl) ?_
    obtain ⟨g_25, hf_24, hg_26⟩ := (show tp_ai cy 28 (301) (f q) from hI0.at hq)
    have hn_27 : vp_in p1 (301) := tl_in (by omega) (by omega)
    refine tp_iald (cy := cy) hx hb hK hP hq.1 hf_24 hn_27 dX10_besideGap_46 ?_
    refine lv_topi (fun z_28 ez_28 => ?_)
    refine lv_aload_n hx hb dX10_besideGap_47 rfl (lv_at hl 4 rfl) ?_
    refine lv_iload_n hx hb dX10_besideGap_48 rfl (lv_at hl 5 rfl) ?_
    have hn_29 : vp_in p0 (301) := tl_in (by omega) (by omega)
    refine tp_iald (cy := cy) hx hb hK hP hq.1 hf_24 hn_29 dX10_besideGap_49 ?_
    refine lv_topi (fun z_30 ez_30 => ?_)
    refine lv_isub hx hb dX10_besideGap_50 ?_
    refine lv_topi (fun z_31 ez_31 => ?_)
    try have iz_31 : z_31.toInt = z_28.toInt - z_30.toInt := by rw [ez_31]; exact tl_subN z_28 z_30 rfl rfl (by omega) (by omega)
    refine lv_iload hx hb dX10_besideGap_51 (lv_at hl 0 rfl) ?_
    refine lv_isub hx hb dX10_besideGap_53 ?_
    refine lv_topi (fun z_32 ez_32 => ?_)
    try have iz_32 : z_32.toInt = z_31.toInt - (0 : Int) := by rw [ez_32]; exact tl_subN z_31 0 rfl rfl (by omega) (by omega)
    exact W.iret (v := z_32) hx hb hr (fun t ht hW => ⟨_, rfl, trivial, ht⟩) (fun q h => by cases h) dX10_besideGap_54
  · have c_23 : z_20.toInt < z_22.toInt := tl_nle c_23
    refine lv_aload_n hx hb dX10_besideGap_29 rfl (lv_at hl 3 rfl) ?_
    refine lv_iload hx hb dX10_besideGap_30 (lv_at hl 0 rfl) ?_
    obtain ⟨g_34, hf_33, hg_35⟩ := (show tp_ai cy 28 (301) (f q) from hI0.at hq)
    have hn_36 : vp_in z_22 (301) := tl_in (by omega) (by omega)
    refine tp_iald (cy := cy) hx hb hK hP hq.1 hf_33 hn_36 dX10_besideGap_32 ?_
    refine lv_topi (fun z_37 ez_37 => ?_)
    refine lv_aload_n hx hb dX10_besideGap_33 rfl (lv_at hl 3 rfl) ?_
    refine lv_iload hx hb dX10_besideGap_34 (lv_at hl 1 rfl) ?_
    have hn_38 : vp_in z_20 (301) := tl_in (by omega) (by omega)
    refine tp_iald (cy := cy) hx hb hK hP hq.1 hf_33 hn_38 dX10_besideGap_36 ?_
    refine lv_topi (fun z_39 ez_39 => ?_)
    refine lv_isub hx hb dX10_besideGap_37 ?_
    refine lv_topi (fun z_40 ez_40 => ?_)
    try have iz_40 : z_40.toInt = z_37.toInt - z_39.toInt := by rw [ez_40]; exact tl_subN z_37 z_39 rfl rfl (by omega) (by omega)
    refine lv_goto (tgt := 42) hx hb dX10_besideGap_38 (by decide) ?_
    refine lv_istore (lv' := [(6, .int z_40), (5, .int z_22), (4, .int z_20), (0, .ref o), (1, .ref q), (2, .int p0), (3, .int p1)]) hx hb dX10_besideGap_42 hl (by decide) rfl (fun ls hl => ?_)
    refine lv_aload_n hx hb dX10_besideGap_44 rfl (lv_at hl 4 rfl) ?_
    refine lv_iload_n hx hb dX10_besideGap_45 rfl (lv_at hl 6 rfl) ?_
    have hn_41 : vp_in p1 (301) := tl_in (by omega) (by omega)
    refine tp_iald (cy := cy) hx hb hK hP hq.1 hf_33 hn_41 dX10_besideGap_46 ?_
    refine lv_topi (fun z_42 ez_42 => ?_)
    refine lv_aload_n hx hb dX10_besideGap_47 rfl (lv_at hl 4 rfl) ?_
    refine lv_iload_n hx hb dX10_besideGap_48 rfl (lv_at hl 5 rfl) ?_
    have hn_43 : vp_in p0 (301) := tl_in (by omega) (by omega)
    refine tp_iald (cy := cy) hx hb hK hP hq.1 hf_33 hn_43 dX10_besideGap_49 ?_
    refine lv_topi (fun z_44 ez_44 => ?_)
    refine lv_isub hx hb dX10_besideGap_50 ?_
    refine lv_topi (fun z_45 ez_45 => ?_)
    try have iz_45 : z_45.toInt = z_42.toInt - z_44.toInt := by rw [ez_45]; exact tl_subN z_42 z_44 rfl rfl (by omega) (by omega)
    refine lv_iload hx hb dX10_besideGap_51 (lv_at hl 0 rfl) ?_
    refine lv_isub hx hb dX10_besideGap_53 ?_
    refine lv_topi (fun z_46 ez_46 => ?_)
    try have iz_46 : z_46.toInt = z_45.toInt - z_40.toInt := by rw [ez_46]; exact tl_subN z_45 z_40 rfl rfl (by omega) (by omega)
    exact W.iret (v := z_46) hx hb hr (fun t ht hW => ⟨_, rfl, trivial, ht⟩) (fun q h => by cases h) dX10_besideGap_54
set_option maxHeartbeats 4000000 in
set_option maxRecDepth 100000 in
theorem t_X10_layBetween (l : Launch) (D : va_G) (cy : Nat → ClassId) (sz : Nat) (L : List Nat) (K : Nat → Nat × Nat) (f : Nat → va_E) (o : Nat) (p0 : Int32) (p1 : Int32) (p2 : Int32) (ho : tp_r L K 25 (0) o) (h0 : 0 ≤ p0.toInt ∧ p0.toInt ≤ 40) (h1 : 0 ≤ p1.toInt ∧ p1.toInt ≤ 300) (h2 : p2.toInt ≤ 300) : Met l yX10_layBetween (tl_w yX10_layBetween cX10_layBetween 7 none) ({ frames := 1, cells := 0, slots := 0, locals := 22 }) (va_Pc [.ref o, .int p0, .int p1, .int p2] (tp_P D cy L K f sz)) (va_Qv (fun (u : Nat → va_E) => True) (tp_B D cy L K f [27]) (tp_A L sz)) 0 0 (tp_A L sz) := by
  refine Met.ofW (cc := cX10_layBetween) (maxL := 7) (ret := none) (by decide) rfl ?_
  intro p e s m args below meth c s₁ B hml hv
  obtain ⟨rfl, hsz, hP, hK, hL, hI, hN⟩ := hv
  have hx := B.exec
  have hb := B.bytes
  have hr := B.returns
  have hta := tl_hta (atoms_spec (ws := tl_w yX10_layBetween cX10_layBetween 7 none) B.pre)
  have hown : s.vm.findClass RX10 = some m.cls := findClass_of_methodNamed B.named
  have hlocks := B.notSynchronized
  subst hsz
  have hI0 := hI
  generalize hAe : tp_A L s.heap.size = A
  have hA : ∀ q : Nat, s.heap.size ≤ q → A q := fun q h => by rw [← hAe]; exact Or.inr h
  have hAL : ∀ q ∈ L, A q := fun q h => by rw [← hAe]; exact Or.inl h
  have hAf : ∀ (H : Heap), s.heap.size ≤ H.size → ∀ q, tp_A L H.size q → A q := fun H h q hq => hq.elim (hAL q) (fun h2 => hA q (Nat.le_trans h h2))
  have hS : va_S A s.heap s.heap [] := va_S.rf
  have hD : va_D A (va_pl L f) := tp_D hL hAL
  have hfr : ∀ b, (K b).1 ∉ ([27] : List Nat) → f b = f b := fun _ _ => rfl
  have hl := lv_entry ([.ref o, .int p0, .int p1, .int p2]) (n := 7) (Nat.le_of_ble_eq_true rfl)
  rw [lg_entry_eq]
  generalize (lg_sl ([.ref o, .int p0, .int p1, .int p2]) ++ List.replicate (7 - (lg_sl ([.ref o, .int p0, .int p1, .int p2])).length) Slot.unset).toArray = ls at hl ⊢
  have hl : lv_has ls 7 [(0, .ref o), (1, .int p0), (2, .int p1), (3, .int p2)] := hl
  refine lv_aload_n hx hb dX10_layBetween_0 rfl (lv_at hl 0 rfl) ?_
  obtain ⟨x_2, x_3, x_4, x_5, x_6, x_7, x_8, x_9, x_10, x_11, x_12, x_13, x_14, x_15, x_16, x_17, x_18, x_19, hf_1, hx_2, hx_3, hx_4, hx_5, hx_6, hx_7, hx_8, hx_9, hx_10, hx_12, hx_15⟩ := (show tp_o_VIEW L K (0) (f o) from hI0.at ho)
  refine tp_get (cy := cy) (ci := 10) (v := .ref x_10) (C := RX10) (T := TX10) (N := 18) hx hb hta inlX10 hown hK hP ho.1 hf_1 rfl 8 (by decide) (hta _ wk_139) (fun _ h9 => h9) rfl dX10_layBetween_1 ?_
  refine lv_iload_n hx hb dX10_layBetween_4 rfl (lv_at hl 1 rfl) ?_
  refine lv_iconst (v := 1) hx hb dX10_layBetween_5 (by decide) ?_
  refine lv_iadd hx hb dX10_layBetween_6 ?_
  refine lv_topi (fun z_20 ez_20 => ?_)
  try have iz_20 : z_20.toInt = p0.toInt + (1 : Int) := by rw [ez_20]; exact tl_addN p0 1 rfl rfl (by omega) (by omega)
  obtain ⟨g_22, hf_21, hg_23⟩ := (show tp_ai cy 30 (42) (f x_10) from hI0.at hx_10)
  have hn_24 : vp_in z_20 (42) := tl_in (by omega) (by omega)
  refine tp_iald (cy := cy) hx hb hK hP hx_10.1 hf_21 hn_24 dX10_layBetween_7 ?_
  refine lv_topi (fun z_25 ez_25 => ?_)
  refine lv_aload_n hx hb dX10_layBetween_8 rfl (lv_at hl 0 rfl) ?_
  refine tp_get (cy := cy) (ci := 10) (v := .ref x_10) (C := RX10) (T := TX10) (N := 18) hx hb hta inlX10 hown hK hP ho.1 hf_1 rfl 8 (by decide) (hta _ wk_139) (fun _ h9 => h9) rfl dX10_layBetween_9 ?_
  refine lv_iload_n hx hb dX10_layBetween_12 rfl (lv_at hl 1 rfl) ?_
  have hn_26 : vp_in p0 (42) := tl_in (by omega) (by omega)
  refine tp_iald (cy := cy) hx hb hK hP hx_10.1 hf_21 hn_26 dX10_layBetween_13 ?_
  refine lv_topi (fun z_27 ez_27 => ?_)
  refine lv_isub hx hb dX10_layBetween_14 ?_
  refine lv_topi (fun z_28 ez_28 => ?_)
  try have iz_28 : z_28.toInt = z_25.toInt - z_27.toInt := by rw [ez_28]; exact tl_subN z_25 z_27 rfl rfl (by omega) (by omega)
  refine lv_istore (lv' := [(4, .int z_28), (0, .ref o), (1, .int p0), (2, .int p1), (3, .int p2)]) hx hb dX10_layBetween_15 hl (by decide) rfl (fun ls hl => ?_)
  refine lv_iconst (v := 1) hx hb dX10_layBetween_17 (by decide) ?_
  refine lv_iload_n hx hb dX10_layBetween_18 rfl (lv_at hl 4 rfl) ?_
  refine lv_iload_n hx hb dX10_layBetween_19 rfl (lv_at hl 3 rfl) ?_
  refine lv_isub hx hb dX10_layBetween_20 ?_
  refine lv_topi (fun z_29 ez_29 => ?_)
  try have iz_29 : z_29.toInt = p2.toInt - p1.toInt := by rw [ez_29]; exact tl_subN p2 p1 rfl rfl (by omega) (by omega)
  refine va_mmax hx hb (by rw [hml]; exact hl.1.symm) hown (hta _ wk_861) (hta _ wk_82) (hta _ wk_83) (hta _ wk_84) (Nat.le_of_ble_eq_true rfl) (Nat.le_of_ble_eq_true rfl) (Nat.le_of_ble_eq_true rfl) (Nat.le_of_ble_eq_true rfl) dX10_layBetween_21 ?_
  refine lv_topi (fun z_30 ez_30 => ?_)
  have iz_30 : (z_30.toInt = z_29.toInt ∧ (1 : Int) ≤ z_29.toInt) ∨ (z_30.toInt = (1 : Int) ∧ z_29.toInt ≤ (1 : Int)) := by rw [ez_30]; exact tl_maxF
  refine lv_istore (lv' := [(5, .int z_30), (4, .int z_28), (0, .ref o), (1, .int p0), (2, .int p1), (3, .int p2)]) hx hb dX10_layBetween_24 hl (by decide) rfl (fun ls hl => ?_)
  refine lv_iload_n hx hb dX10_layBetween_26 rfl (lv_at hl 4 rfl) ?_
  refine lv_istore (lv' := [(6, .int p1), (5, .int z_30), (4, .int z_28), (0, .ref o), (1, .int p0), (2, .int p1), (3, .int p2)]) hx hb dX10_layBetween_27 hl (by decide) rfl (fun ls hl => ?_)
  refine tq_start hP hS (fun H locs hP hS => ?_)
  refine tl_ind (G := fun H locs ls => W p l e ((headSpec (tl_w yX10_layBetween cX10_layBetween 7 none) ({ frames := 1, cells := 0, slots := 0, locals := 22 })).room) s m #[.ref o, .int p0, .int p1, .int p2] below meth c H locs 0 0 (MQ below (va_Qv (fun (u : Nat → va_E) => True) (tp_B D cy L K f [27]) A) #[.ref o, .int p0, .int p1, .int p2] s 0 0 A) (F0 m 29 ls [])) (α := (Nat → va_E) × Int32) (fun aq => (300 - aq.2.toInt).toNat) (fun aq H locs ls => (0 ≤ aq.2.toInt ∧ aq.2.toInt ≤ 300) ∧ va_P D vwCl (va_pl L aq.1) H ∧ tp_I cy L K aq.1 ∧ (∀ b, (K b).1 ∉ ([27] : List Nat) → aq.1 b = f b) ∧ va_S A s.heap H locs ∧ lv_has ls 7 [(6, .int aq.2), (5, .int z_30), (4, .int z_28), (0, .ref o), (1, .int p0), (2, .int p1), (3, .int p2)]) ?_ (f, p1) H locs ls ⟨(show 0 ≤ p1.toInt ∧ p1.toInt ≤ 300 from (by omega)), hP, hI, hfr, hS, lv_sub hl [0, 1, 2, 3, 4, 5, 6] rfl⟩
  rintro ⟨f_31, v6⟩ H locs ls ⟨h5, hP, hI, hfr, hS, hl⟩ ih29
  have hP : va_P D vwCl (va_pl L f_31) H := hP
  have hI : tp_I cy L K f_31 := hI
  have hfr : ∀ b, (K b).1 ∉ ([27] : List Nat) → f_31 b = f b := hfr
  have hD : va_D A (va_pl L f_31) := tp_D hL hAL
  have h5 : 0 ≤ v6.toInt ∧ v6.toInt ≤ 300 := h5
  have hl : lv_has ls 7 [(6, .int v6), (5, .int z_30), (4, .int z_28), (0, .ref o), (1, .int p0), (2, .int p1), (3, .int p2)] := hl
  refine lv_iload hx hb dX10_layBetween_29 (lv_at hl 0 rfl) ?_
  refine lv_iload_n hx hb dX10_layBetween_31 rfl (lv_at hl 6 rfl) ?_
  refine lv_icmp_ge (tgt := 67) hx hb dX10_layBetween_32 (by decide) (fun c_32 => ?_) (fun c_32 => ?_)
  · have c_32 : p2.toInt ≤ v6.toInt := tl_le c_32
    exact W.vret hx hb hr (fun t ht hW => ⟨⟨f_31, rfl, trivial, by rw [ht]; exact hP, hI, hfr⟩, hS.F ht⟩) hS.2.2 dX10_layBetween_67
  · have c_32 : v6.toInt < p2.toInt := tl_nle c_32
    refine lv_aload_n hx hb dX10_layBetween_35 rfl (lv_at hl 3 rfl) ?_
    refine tp_get (cy := cy) (ci := 10) (v := .ref x_6) (C := RX10) (T := TX10) (N := 18) hx hb hta inlX10 hown hK hP ho.1 ((tp_un hfr ho (by decide)).trans hf_1) rfl 4 (by decide) (hta _ wk_135) (fun _ h9 => h9) rfl dX10_layBetween_36 ?_
    refine lv_iload hx hb dX10_layBetween_39 (lv_at hl 0 rfl) ?_
    refine lv_aload_n hx hb dX10_layBetween_41 rfl (lv_at hl 3 rfl) ?_
    refine tp_get (cy := cy) (ci := 10) (v := .ref x_10) (C := RX10) (T := TX10) (N := 18) hx hb hta inlX10 hown hK hP ho.1 ((tp_un hfr ho (by decide)).trans hf_1) rfl 8 (by decide) (hta _ wk_139) (fun _ h9 => h9) rfl dX10_layBetween_42 ?_
    refine lv_iload_n hx hb dX10_layBetween_45 rfl (lv_at hl 4 rfl) ?_
    have hn_33 : vp_in p0 (42) := tl_in (by omega) (by omega)
    refine tp_iald (cy := cy) hx hb hK hP hx_10.1 ((tp_un hfr hx_10 (by decide)).trans hf_21) hn_33 dX10_layBetween_46 ?_
    refine lv_topi (fun z_34 ez_34 => ?_)
    refine lv_iload hx hb dX10_layBetween_47 (lv_at hl 2 rfl) ?_
    refine lv_iload hx hb dX10_layBetween_49 (lv_at hl 0 rfl) ?_
    refine lv_iload_n hx hb dX10_layBetween_51 rfl (lv_at hl 5 rfl) ?_
    refine lv_isub hx hb dX10_layBetween_52 ?_
    refine lv_topi (fun z_35 ez_35 => ?_)
    try have iz_35 : z_35.toInt = v6.toInt - p1.toInt := by rw [ez_35]; exact tl_subN v6 p1 rfl rfl (by omega) (by omega)
    refine lv_imul hx hb dX10_layBetween_53 ?_
    refine lv_topi (fun z_36 ez_36 => ?_)
    try have iz_36 : z_36.toInt = z_28.toInt * z_35.toInt := by rw [ez_36]; exact tl_mulN z_28 z_35 rfl rfl (by omega) (by omega)
    refine lv_iload hx hb dX10_layBetween_54 (lv_at hl 1 rfl) ?_
    refine tl_si (tq_rS (As := [.int z_36, .int z_30]) (rest := [.int z_34, .int v6, .ref x_6]) ⟨hx, hb, hml, hown, hta⟩ (tp_P.pre hK hN hL hI hP) lk_X10_115 (t_J9_floorDiv_7cf53 l D cy H.size L K f_31 z_36 z_30 (by first | omega | assumption)) rfl rfl ⟨Nat.le_of_ble_eq_true rfl, Nat.le_of_ble_eq_true rfl⟩ rfl hl.1 rfl (Nat.le_of_ble_eq_true rfl) dX10_layBetween_56 ⟨Nat.le_of_ble_eq_true rfl, Nat.le_of_ble_eq_true rfl⟩) (fun r_38 hw_37 => ?_)
    refine lv_iadd hx hb dX10_layBetween_59 ?_
    refine lv_topi (fun z_39 ez_39 => ?_)
    try have iz_39 : z_39.toInt = z_34.toInt + r_38.toInt := by rw [ez_39]; exact tl_addN z_34 r_38 rfl rfl (by omega) (by omega)
    obtain ⟨g_41, hf_40, hg_42⟩ := (show tp_ai cy 27 (300) (f_31 x_6) from hI.at hx_6)
    have hn_43 : vp_in v6 (300) := tl_in (by omega) (by omega)
    have hI9 : tp_I cy L K (va_up f_31 x_6 (.inl (cy 0, 300, .inl (upd g_41 v6.toNatClampNeg z_39)))) := hI.set hx_6 (show tp_ai cy 27 (300) _ from ⟨_, rfl, tp_pi_upd hg_42 trivial⟩)
    have hfr9 : ∀ b, (K b).1 ∉ ([27] : List Nat) → va_up f_31 x_6 (.inl (cy 0, 300, .inl (upd g_41 v6.toNatClampNeg z_39))) b = f b := tp_fr hfr hx_6 (by decide)
    refine tp_iast (cy := cy) hx hb hK hP hD hS hx_6.1 hf_40 hn_43 dX10_layBetween_60 (fun H locs hP hD hS => ?_)
    have hP : va_P D vwCl (va_pl L (va_up f_31 x_6 (.inl (cy 0, 300, .inl (upd g_41 v6.toNatClampNeg z_39))))) H := hP
    generalize hfe : va_up f_31 x_6 (.inl (cy 0, 300, .inl (upd g_41 v6.toNatClampNeg z_39))) = f_44 at hP hI9 hfr9
    have hD : va_D A (va_pl L f_44) := tp_D hL hAL
    have hf_45 : f_44 x_6 = .inl (cy 0, 300, .inl (upd g_41 v6.toNatClampNeg z_39)) := by rw [← hfe]; exact va_up_self _ _ _
    clear hfe
    have hI := hI9
    have hfr := hfr9
    clear hI9 hfr9
    obtain ⟨z_46, ez_46⟩ : ∃ y : Int32, y = v6 + 1 := ⟨_, rfl⟩
    refine lv_iinc (v := z_46) (lv' := [(6, .int z_46), (5, .int z_30), (4, .int z_28), (0, .ref o), (1, .int p0), (2, .int p1), (3, .int p2)]) hx hb dX10_layBetween_61 hl (k := 0) rfl (by rw [ez_46]; rfl) (by decide) rfl (fun ls hl => ?_)
    have iz_46 : z_46.toInt = v6.toInt + 1 := by rw [ez_46]; exact tl_addL v6 1 (by decide) (by omega) (by omega)
    refine lv_goto (tgt := 29) hx hb dX10_layBetween_64 (by decide) ?_
    exact ih29 (f_44, z_46) H locs ls (by show (300 - z_46.toInt).toNat < (300 - v6.toInt).toNat; omega) ⟨(show 0 ≤ z_46.toInt ∧ z_46.toInt ≤ 300 from (by omega)), hP, hI, hfr, hS, lv_sub hl [0, 1, 2, 3, 4, 5, 6] rfl⟩
set_option maxHeartbeats 4000000 in
set_option maxRecDepth 100000 in
theorem t_X10_isLaid (l : Launch) (D : va_G) (cy : Nat → ClassId) (sz : Nat) (L : List Nat) (K : Nat → Nat × Nat) (f : Nat → va_E) (o : Nat) (ho : tp_r L K 25 (0) o) : Met l yX10_isLaid (tl_w yX10_isLaid cX10_isLaid 1 (some .boolean)) ({ frames := 0, cells := 0, slots := 0, locals := 0 }) (va_Pc [.ref o] (tp_P D cy L K f sz)) (vp_Si (fun r : Int32 => tl_J r (True))) 0 0 (fun _ => False) := by
  refine Met.ofW (cc := cX10_isLaid) (maxL := 1) (ret := (some .boolean)) (by decide) rfl ?_
  intro p e s m args below meth c s₁ B hml hv
  obtain ⟨rfl, hsz, hP, hK, hL, hI, hN⟩ := hv
  have hx := B.exec
  have hb := B.bytes
  have hr := B.returns
  have hta := tl_hta (atoms_spec (ws := tl_w yX10_isLaid cX10_isLaid 1 (some .boolean)) B.pre)
  have hown : s.vm.findClass RX10 = some m.cls := findClass_of_methodNamed B.named
  have hlocks := B.notSynchronized
  subst hsz
  have hI0 := hI
  have hl := lv_entry ([.ref o]) (n := 1) (Nat.le_of_ble_eq_true rfl)
  rw [lg_entry_eq]
  generalize (lg_sl ([.ref o]) ++ List.replicate (1 - (lg_sl ([.ref o])).length) Slot.unset).toArray = ls at hl ⊢
  have hl : lv_has ls 1 [(0, .ref o)] := hl
  refine lv_aload_n hx hb dX10_isLaid_0 rfl (lv_at hl 0 rfl) ?_
  obtain ⟨x_2, x_3, x_4, x_5, x_6, x_7, x_8, x_9, x_10, x_11, x_12, x_13, x_14, x_15, x_16, x_17, x_18, x_19, hf_1, hx_2, hx_3, hx_4, hx_5, hx_6, hx_7, hx_8, hx_9, hx_10, hx_12, hx_15⟩ := (show tp_o_VIEW L K (0) (f o) from hI0.at ho)
  refine tp_get (cy := cy) (ci := 10) (v := .int x_15) (C := RX10) (T := TX10) (N := 18) hx hb hta inlX10 hown hK hP ho.1 hf_1 rfl 13 (by decide) (hta _ wk_860) (fun _ h9 => h9) rfl dX10_isLaid_1 ?_
  refine lv_if_le (tgt := 11) hx hb dX10_isLaid_4 (by decide) (fun c_20 => ?_) (fun c_20 => ?_)
  · have c_20 : x_15.toInt ≤ (0 : Int) := tl_le c_20
    refine lv_iconst (v := 0) hx hb dX10_isLaid_11 (by decide) ?_
    exact W.zret (ty := .boolean) (v := 0) hx hb hr rfl (fun t ht hW => ⟨_, rfl, (Or.inr rfl), ht⟩) (fun q h => by cases h) dX10_isLaid_12
  · have c_20 : (0 : Int) < x_15.toInt := tl_nle c_20
    refine lv_iconst (v := 1) hx hb dX10_isLaid_7 (by decide) ?_
    refine lv_goto (tgt := 12) hx hb dX10_isLaid_8 (by decide) ?_
    exact W.zret (ty := .boolean) (v := 1) hx hb hr rfl (fun t ht hW => ⟨_, rfl, (Or.inl ⟨rfl, trivial⟩), ht⟩) (fun q h => by cases h) dX10_isLaid_12
set_option maxHeartbeats 4000000 in
set_option maxRecDepth 100000 in
theorem t_X10_hasDeep (l : Launch) (D : va_G) (cy : Nat → ClassId) (sz : Nat) (L : List Nat) (K : Nat → Nat × Nat) (f : Nat → va_E) (o : Nat) (ho : tp_r L K 25 (0) o) : Met l yX10_hasDeep (tl_w yX10_hasDeep cX10_hasDeep 1 (some .boolean)) ({ frames := 0, cells := 0, slots := 0, locals := 0 }) (va_Pc [.ref o] (tp_P D cy L K f sz)) (vp_Si (fun r : Int32 => tl_J r (True))) 0 0 (fun _ => False) := by
  refine Met.ofW (cc := cX10_hasDeep) (maxL := 1) (ret := (some .boolean)) (by decide) rfl ?_
  intro p e s m args below meth c s₁ B hml hv
  obtain ⟨rfl, hsz, hP, hK, hL, hI, hN⟩ := hv
  have hx := B.exec
  have hb := B.bytes
  have hr := B.returns
  have hta := tl_hta (atoms_spec (ws := tl_w yX10_hasDeep cX10_hasDeep 1 (some .boolean)) B.pre)
  have hown : s.vm.findClass RX10 = some m.cls := findClass_of_methodNamed B.named
  have hlocks := B.notSynchronized
  subst hsz
  have hI0 := hI
  have hl := lv_entry ([.ref o]) (n := 1) (Nat.le_of_ble_eq_true rfl)
  rw [lg_entry_eq]
  generalize (lg_sl ([.ref o]) ++ List.replicate (1 - (lg_sl ([.ref o])).length) Slot.unset).toArray = ls at hl ⊢
  have hl : lv_has ls 1 [(0, .ref o)] := hl
  refine lv_aload_n hx hb dX10_hasDeep_0 rfl (lv_at hl 0 rfl) ?_
  obtain ⟨x_2, x_3, x_4, x_5, x_6, x_7, x_8, x_9, x_10, x_11, x_12, x_13, x_14, x_15, x_16, x_17, x_18, x_19, hf_1, hx_2, hx_3, hx_4, hx_5, hx_6, hx_7, hx_8, hx_9, hx_10, hx_12, hx_15⟩ := (show tp_o_VIEW L K (0) (f o) from hI0.at ho)
  refine tp_get (cy := cy) (ci := 10) (v := .int x_15) (C := RX10) (T := TX10) (N := 18) hx hb hta inlX10 hown hK hP ho.1 hf_1 rfl 13 (by decide) (hta _ wk_860) (fun _ h9 => h9) rfl dX10_hasDeep_1 ?_
  refine lv_if_le (tgt := 18) hx hb dX10_hasDeep_4 (by decide) (fun c_20 => ?_) (fun c_20 => ?_)
  · have c_20 : x_15.toInt ≤ (0 : Int) := tl_le c_20
    refine lv_iconst (v := 0) hx hb dX10_hasDeep_18 (by decide) ?_
    exact W.zret (ty := .boolean) (v := 0) hx hb hr rfl (fun t ht hW => ⟨_, rfl, (Or.inr rfl), ht⟩) (fun q h => by cases h) dX10_hasDeep_19
  · have c_20 : (0 : Int) < x_15.toInt := tl_nle c_20
    refine lv_aload_n hx hb dX10_hasDeep_7 rfl (lv_at hl 0 rfl) ?_
    refine tp_get (cy := cy) (ci := 10) (v := .int x_16) (C := RX10) (T := TX10) (N := 18) hx hb hta inlX10 hown hK hP ho.1 hf_1 rfl 14 (by decide) (hta _ wk_883) (fun _ h9 => h9) rfl dX10_hasDeep_8 ?_
    refine lv_if_le (tgt := 18) hx hb dX10_hasDeep_11 (by decide) (fun c_21 => ?_) (fun c_21 => ?_)
    · have c_21 : x_16.toInt ≤ (0 : Int) := tl_le c_21
      refine lv_iconst (v := 0) hx hb dX10_hasDeep_18 (by decide) ?_
      exact W.zret (ty := .boolean) (v := 0) hx hb hr rfl (fun t ht hW => ⟨_, rfl, (Or.inr rfl), ht⟩) (fun q h => by cases h) dX10_hasDeep_19
    · have c_21 : (0 : Int) < x_16.toInt := tl_nle c_21
      refine lv_iconst (v := 1) hx hb dX10_hasDeep_14 (by decide) ?_
      refine lv_goto (tgt := 19) hx hb dX10_hasDeep_15 (by decide) ?_
      exact W.zret (ty := .boolean) (v := 1) hx hb hr rfl (fun t ht hW => ⟨_, rfl, (Or.inl ⟨rfl, trivial⟩), ht⟩) (fun q h => by cases h) dX10_hasDeep_19

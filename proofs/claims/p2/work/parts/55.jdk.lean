set_option maxHeartbeats 4000000 in
set_option maxRecDepth 100000 in
theorem t_J9_floorDiv_7cf53 (l : Launch) (D : va_G) (cy : Nat → ClassId) (sz : Nat) (L : List Nat) (K : Nat → Nat × Nat) (f : Nat → va_E) (p0 : Int32) (p1 : Int32) (h0 : ¬ p1.toInt = 0) : Met l yJ9_floorDiv_7cf53 (tl_w yJ9_floorDiv_7cf53 cJ9_floorDiv_7cf53 3 (some .int)) ({ frames := 0, cells := 0, slots := 0, locals := 0 }) (va_Pc [.int p0, .int p1] (tp_P D cy L K f sz)) (vp_Si (fun r : Int32 => True)) 0 0 (fun _ => False) := by
  refine Met.ofW (cc := cJ9_floorDiv_7cf53) (maxL := 3) (ret := (some .int)) (by decide) rfl ?_
  intro p e s m args below meth c s₁ B hml hv
  obtain ⟨rfl, hsz, hP, hK, hL, hI, hN⟩ := hv
  have hx := B.exec
  have hb := B.bytes
  have hr := B.returns
  have hta := tl_hta (atoms_spec (ws := tl_w yJ9_floorDiv_7cf53 cJ9_floorDiv_7cf53 3 (some .int)) B.pre)
  have hown : s.vm.findClass RJ9 = some m.cls := findClass_of_methodNamed B.named
  have hlocks := B.notSynchronized
  subst hsz
  have hI0 := hI
  have hl := lv_entry ([.int p0, .int p1]) (n := 3) (Nat.le_of_ble_eq_true rfl)
  rw [lg_entry_eq]
  generalize (lg_sl ([.int p0, .int p1]) ++ List.replicate (3 - (lg_sl ([.int p0, .int p1])).length) Slot.unset).toArray = ls at hl ⊢
  have hl : lv_has ls 3 [(0, .int p0), (1, .int p1)] := hl
  refine lv_iload_n hx hb dJ9_floorDiv_7cf53_0 rfl (lv_at hl 0 rfl) ?_
  refine lv_iload_n hx hb dJ9_floorDiv_7cf53_1 rfl (lv_at hl 1 rfl) ?_
  refine lv_idiv hx hb dJ9_floorDiv_7cf53_2 (tl_ne0 (by omega)) ?_
  refine lv_topi (fun z_1 ez_1 => ?_)
  refine lv_istore_n (lv' := [(2, .int z_1), (0, .int p0), (1, .int p1)]) hx hb dJ9_floorDiv_7cf53_3 rfl hl (by decide) rfl (fun ls hl => ?_)
  refine lv_iload_n hx hb dJ9_floorDiv_7cf53_4 rfl (lv_at hl 1 rfl) ?_
  refine lv_iload_n hx hb dJ9_floorDiv_7cf53_5 rfl (lv_at hl 2 rfl) ?_
  refine lv_ixor hx hb dJ9_floorDiv_7cf53_6 ?_
  refine lv_topi (fun z_2 ez_2 => ?_)
  refine lv_if_ge (tgt := 21) hx hb dJ9_floorDiv_7cf53_7 (by decide) (fun c_3 => ?_) (fun c_3 => ?_)
  · have c_3 : (0 : Int) ≤ z_2.toInt := tl_le c_3
    refine lv_iload_n hx hb dJ9_floorDiv_7cf53_21 rfl (lv_at hl 0 rfl) ?_
    exact W.iret (v := z_1) hx hb hr (fun t ht hW => ⟨_, rfl, trivial, ht⟩) (fun q h => by cases h) dJ9_floorDiv_7cf53_22
  · have c_3 : z_2.toInt < (0 : Int) := tl_nle c_3
    refine lv_iload_n hx hb dJ9_floorDiv_7cf53_10 rfl (lv_at hl 0 rfl) ?_
    refine lv_iload_n hx hb dJ9_floorDiv_7cf53_11 rfl (lv_at hl 2 rfl) ?_
    refine lv_imul hx hb dJ9_floorDiv_7cf53_12 ?_
    refine lv_topi (fun z_4 ez_4 => ?_)
    try have iz_4 : z_4.toInt = z_1.toInt * p1.toInt := by rw [ez_4]; exact tl_mulN z_1 p1 rfl rfl (by omega) (by omega)
    refine lv_iload_n hx hb dJ9_floorDiv_7cf53_13 rfl (lv_at hl 1 rfl) ?_
    refine lv_icmp_eq (tgt := 21) hx hb dJ9_floorDiv_7cf53_14 (by decide) (fun c_5 => ?_) (fun c_5 => ?_)
    · have c_5 : z_4.toInt = p0.toInt := tl_eq c_5
      refine lv_iload_n hx hb dJ9_floorDiv_7cf53_21 rfl (lv_at hl 0 rfl) ?_
      exact W.iret (v := z_1) hx hb hr (fun t ht hW => ⟨_, rfl, trivial, ht⟩) (fun q h => by cases h) dJ9_floorDiv_7cf53_22
    · have c_5 : ¬ z_4.toInt = p0.toInt := tl_neq c_5
      refine lv_iload_n hx hb dJ9_floorDiv_7cf53_17 rfl (lv_at hl 0 rfl) ?_
      refine lv_iconst (v := 1) hx hb dJ9_floorDiv_7cf53_18 (by decide) ?_
      refine lv_isub hx hb dJ9_floorDiv_7cf53_19 ?_
      refine lv_topi (fun z_6 ez_6 => ?_)
      try have iz_6 : z_6.toInt = z_1.toInt - (1 : Int) := by rw [ez_6]; exact tl_subN z_1 1 rfl rfl (by omega) (by omega)
      exact W.iret (v := z_6) hx hb hr (fun t ht hW => ⟨_, rfl, trivial, ht⟩) (fun q h => by cases h) dJ9_floorDiv_7cf53_20
set_option maxHeartbeats 4000000 in
set_option maxRecDepth 100000 in
theorem t_J9_floorDiv_f86c9 (l : Launch) (D : va_G) (cy : Nat → ClassId) (sz : Nat) (L : List Nat) (K : Nat → Nat × Nat) (f : Nat → va_E) (p0 : Int64) (p1 : Int64) (h0 : ¬ p1.toInt = 0) : Met l yJ9_floorDiv_f86c9 (tl_w yJ9_floorDiv_f86c9 cJ9_floorDiv_f86c9 6 (some .long)) ({ frames := 0, cells := 0, slots := 0, locals := 0 }) (va_Pc [.long p0, .long p1] (tp_P D cy L K f sz)) (vp_Sl (fun r : Int64 => True)) 0 0 (fun _ => False) := by
  refine Met.ofW (cc := cJ9_floorDiv_f86c9) (maxL := 6) (ret := (some .long)) (by decide) rfl ?_
  intro p e s m args below meth c s₁ B hml hv
  obtain ⟨rfl, hsz, hP, hK, hL, hI, hN⟩ := hv
  have hx := B.exec
  have hb := B.bytes
  have hr := B.returns
  have hta := tl_hta (atoms_spec (ws := tl_w yJ9_floorDiv_f86c9 cJ9_floorDiv_f86c9 6 (some .long)) B.pre)
  have hown : s.vm.findClass RJ9 = some m.cls := findClass_of_methodNamed B.named
  have hlocks := B.notSynchronized
  subst hsz
  have hI0 := hI
  have hl := lv_entry ([.long p0, .long p1]) (n := 6) (Nat.le_of_ble_eq_true rfl)
  rw [lg_entry_eq]
  generalize (lg_sl ([.long p0, .long p1]) ++ List.replicate (6 - (lg_sl ([.long p0, .long p1])).length) Slot.unset).toArray = ls at hl ⊢
  have hl : lv_has ls 6 [(0, .long p0), (2, .long p1)] := hl
  refine lv_lload_n hx hb dJ9_floorDiv_f86c9_0 rfl (lv_at hl 0 rfl) ?_
  refine lv_lload_n hx hb dJ9_floorDiv_f86c9_1 rfl (lv_at hl 1 rfl) ?_
  refine lv_ldiv hx hb dJ9_floorDiv_f86c9_2 (tl_ne0L (by omega)) ?_
  refine lv_topl (fun z_1 ez_1 => ?_)
  refine lv_lstore (lv' := [(4, .long z_1), (0, .long p0), (2, .long p1)]) hx hb dJ9_floorDiv_f86c9_3 hl (by decide) rfl (fun ls hl => ?_)
  refine lv_lload_n hx hb dJ9_floorDiv_f86c9_5 rfl (lv_at hl 1 rfl) ?_
  refine lv_lload_n hx hb dJ9_floorDiv_f86c9_6 rfl (lv_at hl 2 rfl) ?_
  refine lv_lxor hx hb dJ9_floorDiv_f86c9_7 ?_
  refine lv_topl (fun z_2 ez_2 => ?_)
  refine lv_lconst (v := 0) hx hb dJ9_floorDiv_f86c9_8 (by decide) ?_
  refine W.lcmp hx hb dJ9_floorDiv_f86c9_9 ?_
  refine lv_if_ge (tgt := 27) hx hb dJ9_floorDiv_f86c9_10 (by decide) (fun c_3 => ?_) (fun c_3 => ?_)
  · have c_3 : z_2.toInt ≥ (0 : Int) := tl_cmp_ge c_3
    refine lv_lload hx hb dJ9_floorDiv_f86c9_27 (lv_at hl 0 rfl) ?_
    exact W.lret (v := z_1) hx hb hr (fun t ht hW => ⟨_, rfl, trivial, ht⟩) (fun q h => by cases h) dJ9_floorDiv_f86c9_29
  · have c_3 : z_2.toInt < (0 : Int) := tl_cmp_nge c_3
    refine lv_lload hx hb dJ9_floorDiv_f86c9_13 (lv_at hl 0 rfl) ?_
    refine lv_lload_n hx hb dJ9_floorDiv_f86c9_15 rfl (lv_at hl 2 rfl) ?_
    refine lv_lmul hx hb dJ9_floorDiv_f86c9_16 ?_
    refine lv_topl (fun z_4 ez_4 => ?_)
    refine lv_lload_n hx hb dJ9_floorDiv_f86c9_17 rfl (lv_at hl 1 rfl) ?_
    refine W.lcmp hx hb dJ9_floorDiv_f86c9_18 ?_
    refine lv_if_eq (tgt := 27) hx hb dJ9_floorDiv_f86c9_19 (by decide) (fun c_5 => ?_) (fun c_5 => ?_)
    · have c_5 : z_4.toInt = p0.toInt := tl_cmp_eq c_5
      refine lv_lload hx hb dJ9_floorDiv_f86c9_27 (lv_at hl 0 rfl) ?_
      exact W.lret (v := z_1) hx hb hr (fun t ht hW => ⟨_, rfl, trivial, ht⟩) (fun q h => by cases h) dJ9_floorDiv_f86c9_29
    · have c_5 : ¬ z_4.toInt = p0.toInt := tl_cmp_neq c_5
      refine lv_lload hx hb dJ9_floorDiv_f86c9_22 (lv_at hl 0 rfl) ?_
      refine lv_lconst (v := 1) hx hb dJ9_floorDiv_f86c9_24 (by decide) ?_
      refine lv_lsub hx hb dJ9_floorDiv_f86c9_25 ?_
      refine lv_topl (fun z_6 ez_6 => ?_)
      exact W.lret (v := z_6) hx hb hr (fun t ht hW => ⟨_, rfl, trivial, ht⟩) (fun q h => by cases h) dJ9_floorDiv_f86c9_26
set_option maxHeartbeats 4000000 in
set_option maxRecDepth 100000 in
theorem t_J6_bitCount_0f7a4 (l : Launch) (D : va_G) (cy : Nat → ClassId) (sz : Nat) (L : List Nat) (K : Nat → Nat × Nat) (f : Nat → va_E) (p0 : Int32)  : Met l yJ6_bitCount_0f7a4 (tl_w yJ6_bitCount_0f7a4 cJ6_bitCount_0f7a4 1 (some .int)) ({ frames := 0, cells := 0, slots := 0, locals := 0 }) (va_Pc [.int p0] (tp_P D cy L K f sz)) (vp_Si (fun r : Int32 => True)) 0 0 (fun _ => False) := by
  refine Met.ofW (cc := cJ6_bitCount_0f7a4) (maxL := 1) (ret := (some .int)) (by decide) rfl ?_
  intro p e s m args below meth c s₁ B hml hv
  obtain ⟨rfl, hsz, hP, hK, hL, hI, hN⟩ := hv
  have hx := B.exec
  have hb := B.bytes
  have hr := B.returns
  have hta := tl_hta (atoms_spec (ws := tl_w yJ6_bitCount_0f7a4 cJ6_bitCount_0f7a4 1 (some .int)) B.pre)
  have hown : s.vm.findClass RJ6 = some m.cls := findClass_of_methodNamed B.named
  have hlocks := B.notSynchronized
  subst hsz
  have hI0 := hI
  have hl := lv_entry ([.int p0]) (n := 1) (Nat.le_of_ble_eq_true rfl)
  rw [lg_entry_eq]
  generalize (lg_sl ([.int p0]) ++ List.replicate (1 - (lg_sl ([.int p0])).length) Slot.unset).toArray = ls at hl ⊢
  have hl : lv_has ls 1 [(0, .int p0)] := hl
  refine lv_iload_n hx hb dJ6_bitCount_0f7a4_0 rfl (lv_at hl 0 rfl) ?_
  refine lv_iload_n hx hb dJ6_bitCount_0f7a4_1 rfl (lv_at hl 0 rfl) ?_
  refine lv_iconst (v := 1) hx hb dJ6_bitCount_0f7a4_2 (by decide) ?_
  refine lv_iushr hx hb dJ6_bitCount_0f7a4_3 rfl ?_
  refine lv_topi (fun z_1 ez_1 => ?_)
  refine lv_ldcw (v := 1431655765) hx hb hown (hta _ wk_1473) dJ6_bitCount_0f7a4_4 ?_
  refine lv_iand hx hb dJ6_bitCount_0f7a4_7 ?_
  refine lv_topi (fun z_2 ez_2 => ?_)
  refine lv_isub hx hb dJ6_bitCount_0f7a4_8 ?_
  refine lv_topi (fun z_3 ez_3 => ?_)
  try have iz_3 : z_3.toInt = p0.toInt - z_2.toInt := by rw [ez_3]; exact tl_subN p0 z_2 rfl rfl (by omega) (by omega)
  refine lv_istore_n (lv' := [(0, .int z_3)]) hx hb dJ6_bitCount_0f7a4_9 rfl hl (by decide) rfl (fun ls hl => ?_)
  refine lv_iload_n hx hb dJ6_bitCount_0f7a4_10 rfl (lv_at hl 0 rfl) ?_
  refine lv_ldcw (v := 858993459) hx hb hown (hta _ wk_1474) dJ6_bitCount_0f7a4_11 ?_
  refine lv_iand hx hb dJ6_bitCount_0f7a4_14 ?_
  refine lv_topi (fun z_4 ez_4 => ?_)
  refine lv_iload_n hx hb dJ6_bitCount_0f7a4_15 rfl (lv_at hl 0 rfl) ?_
  refine lv_iconst (v := 2) hx hb dJ6_bitCount_0f7a4_16 (by decide) ?_
  refine lv_iushr hx hb dJ6_bitCount_0f7a4_17 rfl ?_
  refine lv_topi (fun z_5 ez_5 => ?_)
  refine lv_ldcw (v := 858993459) hx hb hown (hta _ wk_1474) dJ6_bitCount_0f7a4_18 ?_
  refine lv_iand hx hb dJ6_bitCount_0f7a4_21 ?_
  refine lv_topi (fun z_6 ez_6 => ?_)
  refine lv_iadd hx hb dJ6_bitCount_0f7a4_22 ?_
  refine lv_topi (fun z_7 ez_7 => ?_)
  try have iz_7 : z_7.toInt = z_4.toInt + z_6.toInt := by rw [ez_7]; exact tl_addN z_4 z_6 rfl rfl (by omega) (by omega)
  refine lv_istore_n (lv' := [(0, .int z_7)]) hx hb dJ6_bitCount_0f7a4_23 rfl hl (by decide) rfl (fun ls hl => ?_)
  refine lv_iload_n hx hb dJ6_bitCount_0f7a4_24 rfl (lv_at hl 0 rfl) ?_
  refine lv_iload_n hx hb dJ6_bitCount_0f7a4_25 rfl (lv_at hl 0 rfl) ?_
  refine lv_iconst (v := 4) hx hb dJ6_bitCount_0f7a4_26 (by decide) ?_
  refine lv_iushr hx hb dJ6_bitCount_0f7a4_27 rfl ?_
  refine lv_topi (fun z_8 ez_8 => ?_)
  refine lv_iadd hx hb dJ6_bitCount_0f7a4_28 ?_
  refine lv_topi (fun z_9 ez_9 => ?_)
  try have iz_9 : z_9.toInt = z_7.toInt + z_8.toInt := by rw [ez_9]; exact tl_addN z_7 z_8 rfl rfl (by omega) (by omega)
  refine lv_ldcw (v := 252645135) hx hb hown (hta _ wk_1475) dJ6_bitCount_0f7a4_29 ?_
  refine lv_iand hx hb dJ6_bitCount_0f7a4_32 ?_
  refine lv_topi (fun z_10 ez_10 => ?_)
  refine lv_istore_n (lv' := [(0, .int z_10)]) hx hb dJ6_bitCount_0f7a4_33 rfl hl (by decide) rfl (fun ls hl => ?_)
  refine lv_iload_n hx hb dJ6_bitCount_0f7a4_34 rfl (lv_at hl 0 rfl) ?_
  refine lv_iload_n hx hb dJ6_bitCount_0f7a4_35 rfl (lv_at hl 0 rfl) ?_
  refine lv_bipush (v := 8) hx hb dJ6_bitCount_0f7a4_36 (by decide) ?_
  refine lv_iushr hx hb dJ6_bitCount_0f7a4_38 rfl ?_
  refine lv_topi (fun z_11 ez_11 => ?_)
  refine lv_iadd hx hb dJ6_bitCount_0f7a4_39 ?_
  refine lv_topi (fun z_12 ez_12 => ?_)
  try have iz_12 : z_12.toInt = z_10.toInt + z_11.toInt := by rw [ez_12]; exact tl_addN z_10 z_11 rfl rfl (by omega) (by omega)
  refine lv_istore_n (lv' := [(0, .int z_12)]) hx hb dJ6_bitCount_0f7a4_40 rfl hl (by decide) rfl (fun ls hl => ?_)
  refine lv_iload_n hx hb dJ6_bitCount_0f7a4_41 rfl (lv_at hl 0 rfl) ?_
  refine lv_iload_n hx hb dJ6_bitCount_0f7a4_42 rfl (lv_at hl 0 rfl) ?_
  refine lv_bipush (v := 16) hx hb dJ6_bitCount_0f7a4_43 (by decide) ?_
  refine lv_iushr hx hb dJ6_bitCount_0f7a4_45 rfl ?_
  refine lv_topi (fun z_13 ez_13 => ?_)
  refine lv_iadd hx hb dJ6_bitCount_0f7a4_46 ?_
  refine lv_topi (fun z_14 ez_14 => ?_)
  try have iz_14 : z_14.toInt = z_12.toInt + z_13.toInt := by rw [ez_14]; exact tl_addN z_12 z_13 rfl rfl (by omega) (by omega)
  refine lv_istore_n (lv' := [(0, .int z_14)]) hx hb dJ6_bitCount_0f7a4_47 rfl hl (by decide) rfl (fun ls hl => ?_)
  refine lv_iload_n hx hb dJ6_bitCount_0f7a4_48 rfl (lv_at hl 0 rfl) ?_
  refine lv_bipush (v := 63) hx hb dJ6_bitCount_0f7a4_49 (by decide) ?_
  refine lv_iand hx hb dJ6_bitCount_0f7a4_51 ?_
  refine lv_topi (fun z_15 ez_15 => ?_)
  exact W.iret (v := z_15) hx hb hr (fun t ht hW => ⟨_, rfl, trivial, ht⟩) (fun q h => by cases h) dJ6_bitCount_0f7a4_52
set_option maxHeartbeats 4000000 in
set_option maxRecDepth 100000 in
theorem t_fill_RAWR (l : Launch) (D : va_G) (cy : Nat → ClassId) (sz : Nat) (L : List Nat) (K : Nat → Nat × Nat) (f : Nat → va_E) (a : Nat) (p0 : Int32) (ha : tp_r L K 6 (300) a) : Met l yJ7_fill_53178 (tl_w yJ7_fill_53178 cJ7_fill_53178 4 none) ({ frames := 0, cells := 0, slots := 0, locals := 0 }) (va_Pc [.ref a, .int p0] (tp_P D cy L K f sz)) (va_Qv (fun (u : Nat → va_E) => True) (tp_B D cy L K f [6]) (tp_A L sz)) 0 0 (tp_A L sz) := by
  refine Met.ofW (cc := cJ7_fill_53178) (maxL := 4) (ret := none) (by decide) rfl ?_
  intro p e s m args below meth c s₁ B hml hv
  obtain ⟨rfl, hsz, hP, hK, hL, hI, hN⟩ := hv
  have hx := B.exec
  have hb := B.bytes
  have hr := B.returns
  have hta := tl_hta (atoms_spec (ws := tl_w yJ7_fill_53178 cJ7_fill_53178 4 none) B.pre)
  have hown : s.vm.findClass RJ7 = some m.cls := findClass_of_methodNamed B.named
  have hlocks := B.notSynchronized
  subst hsz
  have hI0 := hI
  generalize hAe : tp_A L s.heap.size = A
  have hA : ∀ q : Nat, s.heap.size ≤ q → A q := fun q h => by rw [← hAe]; exact Or.inr h
  have hAL : ∀ q ∈ L, A q := fun q h => by rw [← hAe]; exact Or.inl h
  have hAf : ∀ (H : Heap), s.heap.size ≤ H.size → ∀ q, tp_A L H.size q → A q := fun H h q hq => hq.elim (hAL q) (fun h2 => hA q (Nat.le_trans h h2))
  have hS : va_S A s.heap s.heap [] := va_S.rf
  have hD : va_D A (va_pl L f) := tp_D hL hAL
  have hfr : ∀ b, (K b).1 ∉ ([6] : List Nat) → f b = f b := fun _ _ => rfl
  have hl := lv_entry ([.ref a, .int p0]) (n := 4) (Nat.le_of_ble_eq_true rfl)
  rw [lg_entry_eq]
  generalize (lg_sl ([.ref a, .int p0]) ++ List.replicate (4 - (lg_sl ([.ref a, .int p0])).length) Slot.unset).toArray = ls at hl ⊢
  have hl : lv_has ls 4 [(0, .ref a), (1, .int p0)] := hl
  refine lv_iconst (v := 0) hx hb dJ7_fill_53178_0 (by decide) ?_
  refine lv_istore_n (lv' := [(2, .int 0), (0, .ref a), (1, .int p0)]) hx hb dJ7_fill_53178_1 rfl hl (by decide) rfl (fun ls hl => ?_)
  refine lv_aload_n hx hb dJ7_fill_53178_2 rfl (lv_at hl 1 rfl) ?_
  obtain ⟨g_2, hf_1, hg_3⟩ := (show tp_ai cy 6 (300) (f a) from hI.at ha)
  refine tp_alen (cy := cy) (t0 := 0) (v := 300) hx hb hK hP ha.1 rfl hf_1 rfl dJ7_fill_53178_3 ?_
  refine lv_istore_n (lv' := [(3, .int 300), (2, .int 0), (0, .ref a), (1, .int p0)]) hx hb dJ7_fill_53178_4 rfl hl (by decide) rfl (fun ls hl => ?_)
  refine tq_start hP hS (fun H locs hP hS => ?_)
  refine tl_ind (G := fun H locs ls => W p l e ((headSpec (tl_w yJ7_fill_53178 cJ7_fill_53178 4 none) ({ frames := 0, cells := 0, slots := 0, locals := 0 })).room) s m #[.ref a, .int p0] below meth c H locs 0 0 (MQ below (va_Qv (fun (u : Nat → va_E) => True) (tp_B D cy L K f [6]) A) #[.ref a, .int p0] s 0 0 A) (F0 m 5 ls [])) (α := (Nat → va_E) × Int32) (fun aq => (300 - aq.2.toInt).toNat) (fun aq H locs ls => (0 ≤ aq.2.toInt) ∧ (aq.2.toInt ≤ 300) ∧ va_P D vwCl (va_pl L aq.1) H ∧ tp_I cy L K aq.1 ∧ (∀ b, (K b).1 ∉ ([6] : List Nat) → aq.1 b = f b) ∧ va_S A s.heap H locs ∧ lv_has ls 4 [(3, .int 300), (2, .int aq.2), (0, .ref a), (1, .int p0)]) ?_ (f, (0 : Int32)) H locs ls ⟨(show 0 ≤ (0 : Int) from (by omega)), (show (0 : Int) ≤ 300 from (by omega)), hP, hI, hfr, hS, lv_sub hl [0, 1, 2, 3] rfl⟩
  rintro ⟨f_4, v2⟩ H locs ls ⟨h0, h1, hP, hI, hfr, hS, hl⟩ ih5
  have hP : va_P D vwCl (va_pl L f_4) H := hP
  have hI : tp_I cy L K f_4 := hI
  have hfr : ∀ b, (K b).1 ∉ ([6] : List Nat) → f_4 b = f b := hfr
  have hD : va_D A (va_pl L f_4) := tp_D hL hAL
  have h0 : 0 ≤ v2.toInt := h0
  have h1 : v2.toInt ≤ 300 := h1
  have hl : lv_has ls 4 [(3, .int 300), (2, .int v2), (0, .ref a), (1, .int p0)] := hl
  refine lv_iload_n hx hb dJ7_fill_53178_5 rfl (lv_at hl 1 rfl) ?_
  refine lv_iload_n hx hb dJ7_fill_53178_6 rfl (lv_at hl 0 rfl) ?_
  refine lv_icmp_ge (tgt := 20) hx hb dJ7_fill_53178_7 (by decide) (fun c_5 => ?_) (fun c_5 => ?_)
  · have c_5 : (300 : Int) ≤ v2.toInt := tl_le c_5
    exact W.vret hx hb hr (fun t ht hW => ⟨⟨f_4, rfl, trivial, by rw [ht]; exact hP, hI, hfr⟩, hS.F ht⟩) hS.2.2 dJ7_fill_53178_20
  · have c_5 : v2.toInt < (300 : Int) := tl_nle c_5
    refine lv_aload_n hx hb dJ7_fill_53178_10 rfl (lv_at hl 2 rfl) ?_
    refine lv_iload_n hx hb dJ7_fill_53178_11 rfl (lv_at hl 1 rfl) ?_
    refine lv_iload_n hx hb dJ7_fill_53178_12 rfl (lv_at hl 3 rfl) ?_
    obtain ⟨g_7, hf_6, hg_8⟩ := (show tp_ai cy 6 (300) (f_4 a) from hI.at ha)
    have hn_9 : vp_in v2 (300) := tl_in (by omega) (by omega)
    have hI9 : tp_I cy L K (va_up f_4 a (.inl (cy 0, 300, .inl (upd g_7 v2.toNatClampNeg p0)))) := hI.set ha (show tp_ai cy 6 (300) _ from ⟨_, rfl, tp_pi_upd hg_8 trivial⟩)
    have hfr9 : ∀ b, (K b).1 ∉ ([6] : List Nat) → va_up f_4 a (.inl (cy 0, 300, .inl (upd g_7 v2.toNatClampNeg p0))) b = f b := tp_fr hfr ha (by decide)
    refine tp_iast (cy := cy) hx hb hK hP hD hS ha.1 hf_6 hn_9 dJ7_fill_53178_13 (fun H locs hP hD hS => ?_)
    have hP : va_P D vwCl (va_pl L (va_up f_4 a (.inl (cy 0, 300, .inl (upd g_7 v2.toNatClampNeg p0))))) H := hP
    generalize hfe : va_up f_4 a (.inl (cy 0, 300, .inl (upd g_7 v2.toNatClampNeg p0))) = f_10 at hP hI9 hfr9
    have hD : va_D A (va_pl L f_10) := tp_D hL hAL
    have hf_11 : f_10 a = .inl (cy 0, 300, .inl (upd g_7 v2.toNatClampNeg p0)) := by rw [← hfe]; exact va_up_self _ _ _
    clear hfe
    have hI := hI9
    have hfr := hfr9
    clear hI9 hfr9
    obtain ⟨z_12, ez_12⟩ : ∃ y : Int32, y = v2 + 1 := ⟨_, rfl⟩
    refine lv_iinc (v := z_12) (lv' := [(2, .int z_12), (3, .int 300), (0, .ref a), (1, .int p0)]) hx hb dJ7_fill_53178_14 hl (k := 1) rfl (by rw [ez_12]; rfl) (by decide) rfl (fun ls hl => ?_)
    have iz_12 : z_12.toInt = v2.toInt + 1 := by rw [ez_12]; exact tl_addL v2 1 (by decide) (by omega) (by omega)
    refine lv_goto (tgt := 5) hx hb dJ7_fill_53178_17 (by decide) ?_
    exact ih5 (f_10, z_12) H locs ls (by show (300 - z_12.toInt).toNat < (300 - v2.toInt).toNat; omega) ⟨(show 0 ≤ z_12.toInt from (by omega)), (show z_12.toInt ≤ 300 from (by omega)), hP, hI, hfr, hS, lv_sub hl [1, 0, 2, 3] rfl⟩
set_option maxHeartbeats 4000000 in
set_option maxRecDepth 100000 in
theorem t_fill_XI8 (l : Launch) (D : va_G) (cy : Nat → ClassId) (sz : Nat) (L : List Nat) (K : Nat → Nat × Nat) (f : Nat → va_E) (a : Nat) (p0 : Int32) (ha : tp_r L K 35 (8) a) : Met l yJ7_fill_53178 (tl_w yJ7_fill_53178 cJ7_fill_53178 4 none) ({ frames := 0, cells := 0, slots := 0, locals := 0 }) (va_Pc [.ref a, .int p0] (tp_P D cy L K f sz)) (va_Qv (fun (u : Nat → va_E) => True) (tp_B D cy L K f [35]) (tp_A L sz)) 0 0 (tp_A L sz) := by
  refine Met.ofW (cc := cJ7_fill_53178) (maxL := 4) (ret := none) (by decide) rfl ?_
  intro p e s m args below meth c s₁ B hml hv
  obtain ⟨rfl, hsz, hP, hK, hL, hI, hN⟩ := hv
  have hx := B.exec
  have hb := B.bytes
  have hr := B.returns
  have hta := tl_hta (atoms_spec (ws := tl_w yJ7_fill_53178 cJ7_fill_53178 4 none) B.pre)
  have hown : s.vm.findClass RJ7 = some m.cls := findClass_of_methodNamed B.named
  have hlocks := B.notSynchronized
  subst hsz
  have hI0 := hI
  generalize hAe : tp_A L s.heap.size = A
  have hA : ∀ q : Nat, s.heap.size ≤ q → A q := fun q h => by rw [← hAe]; exact Or.inr h
  have hAL : ∀ q ∈ L, A q := fun q h => by rw [← hAe]; exact Or.inl h
  have hAf : ∀ (H : Heap), s.heap.size ≤ H.size → ∀ q, tp_A L H.size q → A q := fun H h q hq => hq.elim (hAL q) (fun h2 => hA q (Nat.le_trans h h2))
  have hS : va_S A s.heap s.heap [] := va_S.rf
  have hD : va_D A (va_pl L f) := tp_D hL hAL
  have hfr : ∀ b, (K b).1 ∉ ([35] : List Nat) → f b = f b := fun _ _ => rfl
  have hl := lv_entry ([.ref a, .int p0]) (n := 4) (Nat.le_of_ble_eq_true rfl)
  rw [lg_entry_eq]
  generalize (lg_sl ([.ref a, .int p0]) ++ List.replicate (4 - (lg_sl ([.ref a, .int p0])).length) Slot.unset).toArray = ls at hl ⊢
  have hl : lv_has ls 4 [(0, .ref a), (1, .int p0)] := hl
  refine lv_iconst (v := 0) hx hb dJ7_fill_53178_0 (by decide) ?_
  refine lv_istore_n (lv' := [(2, .int 0), (0, .ref a), (1, .int p0)]) hx hb dJ7_fill_53178_1 rfl hl (by decide) rfl (fun ls hl => ?_)
  refine lv_aload_n hx hb dJ7_fill_53178_2 rfl (lv_at hl 1 rfl) ?_
  obtain ⟨g_2, hf_1, hg_3⟩ := (show tp_ai cy 35 (8) (f a) from hI.at ha)
  refine tp_alen (cy := cy) (t0 := 0) (v := 8) hx hb hK hP ha.1 rfl hf_1 rfl dJ7_fill_53178_3 ?_
  refine lv_istore_n (lv' := [(3, .int 8), (2, .int 0), (0, .ref a), (1, .int p0)]) hx hb dJ7_fill_53178_4 rfl hl (by decide) rfl (fun ls hl => ?_)
  refine tq_start hP hS (fun H locs hP hS => ?_)
  refine tl_ind (G := fun H locs ls => W p l e ((headSpec (tl_w yJ7_fill_53178 cJ7_fill_53178 4 none) ({ frames := 0, cells := 0, slots := 0, locals := 0 })).room) s m #[.ref a, .int p0] below meth c H locs 0 0 (MQ below (va_Qv (fun (u : Nat → va_E) => True) (tp_B D cy L K f [35]) A) #[.ref a, .int p0] s 0 0 A) (F0 m 5 ls [])) (α := (Nat → va_E) × Int32) (fun aq => (8 - aq.2.toInt).toNat) (fun aq H locs ls => (0 ≤ aq.2.toInt) ∧ (aq.2.toInt ≤ 8) ∧ va_P D vwCl (va_pl L aq.1) H ∧ tp_I cy L K aq.1 ∧ (∀ b, (K b).1 ∉ ([35] : List Nat) → aq.1 b = f b) ∧ va_S A s.heap H locs ∧ lv_has ls 4 [(3, .int 8), (2, .int aq.2), (0, .ref a), (1, .int p0)]) ?_ (f, (0 : Int32)) H locs ls ⟨(show 0 ≤ (0 : Int) from (by omega)), (show (0 : Int) ≤ 8 from (by omega)), hP, hI, hfr, hS, lv_sub hl [0, 1, 2, 3] rfl⟩
  rintro ⟨f_4, v2⟩ H locs ls ⟨h0, h1, hP, hI, hfr, hS, hl⟩ ih5
  have hP : va_P D vwCl (va_pl L f_4) H := hP
  have hI : tp_I cy L K f_4 := hI
  have hfr : ∀ b, (K b).1 ∉ ([35] : List Nat) → f_4 b = f b := hfr
  have hD : va_D A (va_pl L f_4) := tp_D hL hAL
  have h0 : 0 ≤ v2.toInt := h0
  have h1 : v2.toInt ≤ 8 := h1
  have hl : lv_has ls 4 [(3, .int 8), (2, .int v2), (0, .ref a), (1, .int p0)] := hl
  refine lv_iload_n hx hb dJ7_fill_53178_5 rfl (lv_at hl 1 rfl) ?_
  refine lv_iload_n hx hb dJ7_fill_53178_6 rfl (lv_at hl 0 rfl) ?_
  refine lv_icmp_ge (tgt := 20) hx hb dJ7_fill_53178_7 (by decide) (fun c_5 => ?_) (fun c_5 => ?_)
  · have c_5 : (8 : Int) ≤ v2.toInt := tl_le c_5
    exact W.vret hx hb hr (fun t ht hW => ⟨⟨f_4, rfl, trivial, by rw [ht]; exact hP, hI, hfr⟩, hS.F ht⟩) hS.2.2 dJ7_fill_53178_20
  · have c_5 : v2.toInt < (8 : Int) := tl_nle c_5
    refine lv_aload_n hx hb dJ7_fill_53178_10 rfl (lv_at hl 2 rfl) ?_
    refine lv_iload_n hx hb dJ7_fill_53178_11 rfl (lv_at hl 1 rfl) ?_
    refine lv_iload_n hx hb dJ7_fill_53178_12 rfl (lv_at hl 3 rfl) ?_
    obtain ⟨g_7, hf_6, hg_8⟩ := (show tp_ai cy 35 (8) (f_4 a) from hI.at ha)
    have hn_9 : vp_in v2 (8) := tl_in (by omega) (by omega)
    have hI9 : tp_I cy L K (va_up f_4 a (.inl (cy 0, 8, .inl (upd g_7 v2.toNatClampNeg p0)))) := hI.set ha (show tp_ai cy 35 (8) _ from ⟨_, rfl, tp_pi_upd hg_8 trivial⟩)
    have hfr9 : ∀ b, (K b).1 ∉ ([35] : List Nat) → va_up f_4 a (.inl (cy 0, 8, .inl (upd g_7 v2.toNatClampNeg p0))) b = f b := tp_fr hfr ha (by decide)
    refine tp_iast (cy := cy) hx hb hK hP hD hS ha.1 hf_6 hn_9 dJ7_fill_53178_13 (fun H locs hP hD hS => ?_)
    have hP : va_P D vwCl (va_pl L (va_up f_4 a (.inl (cy 0, 8, .inl (upd g_7 v2.toNatClampNeg p0))))) H := hP
    generalize hfe : va_up f_4 a (.inl (cy 0, 8, .inl (upd g_7 v2.toNatClampNeg p0))) = f_10 at hP hI9 hfr9
    have hD : va_D A (va_pl L f_10) := tp_D hL hAL
    have hf_11 : f_10 a = .inl (cy 0, 8, .inl (upd g_7 v2.toNatClampNeg p0)) := by rw [← hfe]; exact va_up_self _ _ _
    clear hfe
    have hI := hI9
    have hfr := hfr9
    clear hI9 hfr9
    obtain ⟨z_12, ez_12⟩ : ∃ y : Int32, y = v2 + 1 := ⟨_, rfl⟩
    refine lv_iinc (v := z_12) (lv' := [(2, .int z_12), (3, .int 8), (0, .ref a), (1, .int p0)]) hx hb dJ7_fill_53178_14 hl (k := 1) rfl (by rw [ez_12]; rfl) (by decide) rfl (fun ls hl => ?_)
    have iz_12 : z_12.toInt = v2.toInt + 1 := by rw [ez_12]; exact tl_addL v2 1 (by decide) (by omega) (by omega)
    refine lv_goto (tgt := 5) hx hb dJ7_fill_53178_17 (by decide) ?_
    exact ih5 (f_10, z_12) H locs ls (by show (8 - z_12.toInt).toNat < (8 - v2.toInt).toNat; omega) ⟨(show 0 ≤ z_12.toInt from (by omega)), (show z_12.toInt ≤ 8 from (by omega)), hP, hI, hfr, hS, lv_sub hl [1, 0, 2, 3] rfl⟩
set_option maxHeartbeats 4000000 in
set_option maxRecDepth 100000 in
theorem t_fill_EATEN (l : Launch) (D : va_G) (cy : Nat → ClassId) (sz : Nat) (L : List Nat) (K : Nat → Nat × Nat) (f : Nat → va_E) (a : Nat) (p0 : Int32) (ha : tp_r L K 24 (300) a) : Met l yJ7_fill_53178 (tl_w yJ7_fill_53178 cJ7_fill_53178 4 none) ({ frames := 0, cells := 0, slots := 0, locals := 0 }) (va_Pc [.ref a, .int p0] (tp_P D cy L K f sz)) (va_Qv (fun (u : Nat → va_E) => True) (tp_B D cy L K f [24]) (tp_A L sz)) 0 0 (tp_A L sz) := by
  refine Met.ofW (cc := cJ7_fill_53178) (maxL := 4) (ret := none) (by decide) rfl ?_
  intro p e s m args below meth c s₁ B hml hv
  obtain ⟨rfl, hsz, hP, hK, hL, hI, hN⟩ := hv
  have hx := B.exec
  have hb := B.bytes
  have hr := B.returns
  have hta := tl_hta (atoms_spec (ws := tl_w yJ7_fill_53178 cJ7_fill_53178 4 none) B.pre)
  have hown : s.vm.findClass RJ7 = some m.cls := findClass_of_methodNamed B.named
  have hlocks := B.notSynchronized
  subst hsz
  have hI0 := hI
  generalize hAe : tp_A L s.heap.size = A
  have hA : ∀ q : Nat, s.heap.size ≤ q → A q := fun q h => by rw [← hAe]; exact Or.inr h
  have hAL : ∀ q ∈ L, A q := fun q h => by rw [← hAe]; exact Or.inl h
  have hAf : ∀ (H : Heap), s.heap.size ≤ H.size → ∀ q, tp_A L H.size q → A q := fun H h q hq => hq.elim (hAL q) (fun h2 => hA q (Nat.le_trans h h2))
  have hS : va_S A s.heap s.heap [] := va_S.rf
  have hD : va_D A (va_pl L f) := tp_D hL hAL
  have hfr : ∀ b, (K b).1 ∉ ([24] : List Nat) → f b = f b := fun _ _ => rfl
  have hl := lv_entry ([.ref a, .int p0]) (n := 4) (Nat.le_of_ble_eq_true rfl)
  rw [lg_entry_eq]
  generalize (lg_sl ([.ref a, .int p0]) ++ List.replicate (4 - (lg_sl ([.ref a, .int p0])).length) Slot.unset).toArray = ls at hl ⊢
  have hl : lv_has ls 4 [(0, .ref a), (1, .int p0)] := hl
  refine lv_iconst (v := 0) hx hb dJ7_fill_53178_0 (by decide) ?_
  refine lv_istore_n (lv' := [(2, .int 0), (0, .ref a), (1, .int p0)]) hx hb dJ7_fill_53178_1 rfl hl (by decide) rfl (fun ls hl => ?_)
  refine lv_aload_n hx hb dJ7_fill_53178_2 rfl (lv_at hl 1 rfl) ?_
  obtain ⟨g_2, hf_1, hg_3⟩ := (show tp_ai cy 24 (300) (f a) from hI.at ha)
  refine tp_alen (cy := cy) (t0 := 0) (v := 300) hx hb hK hP ha.1 rfl hf_1 rfl dJ7_fill_53178_3 ?_
  refine lv_istore_n (lv' := [(3, .int 300), (2, .int 0), (0, .ref a), (1, .int p0)]) hx hb dJ7_fill_53178_4 rfl hl (by decide) rfl (fun ls hl => ?_)
  refine tq_start hP hS (fun H locs hP hS => ?_)
  refine tl_ind (G := fun H locs ls => W p l e ((headSpec (tl_w yJ7_fill_53178 cJ7_fill_53178 4 none) ({ frames := 0, cells := 0, slots := 0, locals := 0 })).room) s m #[.ref a, .int p0] below meth c H locs 0 0 (MQ below (va_Qv (fun (u : Nat → va_E) => True) (tp_B D cy L K f [24]) A) #[.ref a, .int p0] s 0 0 A) (F0 m 5 ls [])) (α := (Nat → va_E) × Int32) (fun aq => (300 - aq.2.toInt).toNat) (fun aq H locs ls => (0 ≤ aq.2.toInt) ∧ (aq.2.toInt ≤ 300) ∧ va_P D vwCl (va_pl L aq.1) H ∧ tp_I cy L K aq.1 ∧ (∀ b, (K b).1 ∉ ([24] : List Nat) → aq.1 b = f b) ∧ va_S A s.heap H locs ∧ lv_has ls 4 [(3, .int 300), (2, .int aq.2), (0, .ref a), (1, .int p0)]) ?_ (f, (0 : Int32)) H locs ls ⟨(show 0 ≤ (0 : Int) from (by omega)), (show (0 : Int) ≤ 300 from (by omega)), hP, hI, hfr, hS, lv_sub hl [0, 1, 2, 3] rfl⟩
  rintro ⟨f_4, v2⟩ H locs ls ⟨h0, h1, hP, hI, hfr, hS, hl⟩ ih5
  have hP : va_P D vwCl (va_pl L f_4) H := hP
  have hI : tp_I cy L K f_4 := hI
  have hfr : ∀ b, (K b).1 ∉ ([24] : List Nat) → f_4 b = f b := hfr
  have hD : va_D A (va_pl L f_4) := tp_D hL hAL
  have h0 : 0 ≤ v2.toInt := h0
  have h1 : v2.toInt ≤ 300 := h1
  have hl : lv_has ls 4 [(3, .int 300), (2, .int v2), (0, .ref a), (1, .int p0)] := hl
  refine lv_iload_n hx hb dJ7_fill_53178_5 rfl (lv_at hl 1 rfl) ?_
  refine lv_iload_n hx hb dJ7_fill_53178_6 rfl (lv_at hl 0 rfl) ?_
  refine lv_icmp_ge (tgt := 20) hx hb dJ7_fill_53178_7 (by decide) (fun c_5 => ?_) (fun c_5 => ?_)
  · have c_5 : (300 : Int) ≤ v2.toInt := tl_le c_5
    exact W.vret hx hb hr (fun t ht hW => ⟨⟨f_4, rfl, trivial, by rw [ht]; exact hP, hI, hfr⟩, hS.F ht⟩) hS.2.2 dJ7_fill_53178_20
  · have c_5 : v2.toInt < (300 : Int) := tl_nle c_5
    refine lv_aload_n hx hb dJ7_fill_53178_10 rfl (lv_at hl 2 rfl) ?_
    refine lv_iload_n hx hb dJ7_fill_53178_11 rfl (lv_at hl 1 rfl) ?_
    refine lv_iload_n hx hb dJ7_fill_53178_12 rfl (lv_at hl 3 rfl) ?_
    obtain ⟨g_7, hf_6, hg_8⟩ := (show tp_ai cy 24 (300) (f_4 a) from hI.at ha)
    have hn_9 : vp_in v2 (300) := tl_in (by omega) (by omega)
    have hI9 : tp_I cy L K (va_up f_4 a (.inl (cy 0, 300, .inl (upd g_7 v2.toNatClampNeg p0)))) := hI.set ha (show tp_ai cy 24 (300) _ from ⟨_, rfl, tp_pi_upd hg_8 trivial⟩)
    have hfr9 : ∀ b, (K b).1 ∉ ([24] : List Nat) → va_up f_4 a (.inl (cy 0, 300, .inl (upd g_7 v2.toNatClampNeg p0))) b = f b := tp_fr hfr ha (by decide)
    refine tp_iast (cy := cy) hx hb hK hP hD hS ha.1 hf_6 hn_9 dJ7_fill_53178_13 (fun H locs hP hD hS => ?_)
    have hP : va_P D vwCl (va_pl L (va_up f_4 a (.inl (cy 0, 300, .inl (upd g_7 v2.toNatClampNeg p0))))) H := hP
    generalize hfe : va_up f_4 a (.inl (cy 0, 300, .inl (upd g_7 v2.toNatClampNeg p0))) = f_10 at hP hI9 hfr9
    have hD : va_D A (va_pl L f_10) := tp_D hL hAL
    have hf_11 : f_10 a = .inl (cy 0, 300, .inl (upd g_7 v2.toNatClampNeg p0)) := by rw [← hfe]; exact va_up_self _ _ _
    clear hfe
    have hI := hI9
    have hfr := hfr9
    clear hI9 hfr9
    obtain ⟨z_12, ez_12⟩ : ∃ y : Int32, y = v2 + 1 := ⟨_, rfl⟩
    refine lv_iinc (v := z_12) (lv' := [(2, .int z_12), (3, .int 300), (0, .ref a), (1, .int p0)]) hx hb dJ7_fill_53178_14 hl (k := 1) rfl (by rw [ez_12]; rfl) (by decide) rfl (fun ls hl => ?_)
    have iz_12 : z_12.toInt = v2.toInt + 1 := by rw [ez_12]; exact tl_addL v2 1 (by decide) (by omega) (by omega)
    refine lv_goto (tgt := 5) hx hb dJ7_fill_53178_17 (by decide) ?_
    exact ih5 (f_10, z_12) H locs ls (by show (300 - z_12.toInt).toNat < (300 - v2.toInt).toNat; omega) ⟨(show 0 ≤ z_12.toInt from (by omega)), (show z_12.toInt ≤ 300 from (by omega)), hP, hI, hfr, hS, lv_sub hl [1, 0, 2, 3] rfl⟩
set_option maxHeartbeats 4000000 in
set_option maxRecDepth 100000 in
theorem t_fill_RM (l : Launch) (D : va_G) (cy : Nat → ClassId) (sz : Nat) (L : List Nat) (K : Nat → Nat × Nat) (f : Nat → va_E) (a : Nat) (p0 : Int32) (ha : tp_r L K 33 (99) a) : Met l yJ7_fill_53178 (tl_w yJ7_fill_53178 cJ7_fill_53178 4 none) ({ frames := 0, cells := 0, slots := 0, locals := 0 }) (va_Pc [.ref a, .int p0] (tp_P D cy L K f sz)) (va_Qv (fun (u : Nat → va_E) => True) (tp_B D cy L K f [33]) (tp_A L sz)) 0 0 (tp_A L sz) := by
  refine Met.ofW (cc := cJ7_fill_53178) (maxL := 4) (ret := none) (by decide) rfl ?_
  intro p e s m args below meth c s₁ B hml hv
  obtain ⟨rfl, hsz, hP, hK, hL, hI, hN⟩ := hv
  have hx := B.exec
  have hb := B.bytes
  have hr := B.returns
  have hta := tl_hta (atoms_spec (ws := tl_w yJ7_fill_53178 cJ7_fill_53178 4 none) B.pre)
  have hown : s.vm.findClass RJ7 = some m.cls := findClass_of_methodNamed B.named
  have hlocks := B.notSynchronized
  subst hsz
  have hI0 := hI
  generalize hAe : tp_A L s.heap.size = A
  have hA : ∀ q : Nat, s.heap.size ≤ q → A q := fun q h => by rw [← hAe]; exact Or.inr h
  have hAL : ∀ q ∈ L, A q := fun q h => by rw [← hAe]; exact Or.inl h
  have hAf : ∀ (H : Heap), s.heap.size ≤ H.size → ∀ q, tp_A L H.size q → A q := fun H h q hq => hq.elim (hAL q) (fun h2 => hA q (Nat.le_trans h h2))
  have hS : va_S A s.heap s.heap [] := va_S.rf
  have hD : va_D A (va_pl L f) := tp_D hL hAL
  have hfr : ∀ b, (K b).1 ∉ ([33] : List Nat) → f b = f b := fun _ _ => rfl
  have hl := lv_entry ([.ref a, .int p0]) (n := 4) (Nat.le_of_ble_eq_true rfl)
  rw [lg_entry_eq]
  generalize (lg_sl ([.ref a, .int p0]) ++ List.replicate (4 - (lg_sl ([.ref a, .int p0])).length) Slot.unset).toArray = ls at hl ⊢
  have hl : lv_has ls 4 [(0, .ref a), (1, .int p0)] := hl
  refine lv_iconst (v := 0) hx hb dJ7_fill_53178_0 (by decide) ?_
  refine lv_istore_n (lv' := [(2, .int 0), (0, .ref a), (1, .int p0)]) hx hb dJ7_fill_53178_1 rfl hl (by decide) rfl (fun ls hl => ?_)
  refine lv_aload_n hx hb dJ7_fill_53178_2 rfl (lv_at hl 1 rfl) ?_
  obtain ⟨g_2, hf_1, hg_3⟩ := (show tp_ai cy 33 (99) (f a) from hI.at ha)
  refine tp_alen (cy := cy) (t0 := 0) (v := 99) hx hb hK hP ha.1 rfl hf_1 rfl dJ7_fill_53178_3 ?_
  refine lv_istore_n (lv' := [(3, .int 99), (2, .int 0), (0, .ref a), (1, .int p0)]) hx hb dJ7_fill_53178_4 rfl hl (by decide) rfl (fun ls hl => ?_)
  refine tq_start hP hS (fun H locs hP hS => ?_)
  refine tl_ind (G := fun H locs ls => W p l e ((headSpec (tl_w yJ7_fill_53178 cJ7_fill_53178 4 none) ({ frames := 0, cells := 0, slots := 0, locals := 0 })).room) s m #[.ref a, .int p0] below meth c H locs 0 0 (MQ below (va_Qv (fun (u : Nat → va_E) => True) (tp_B D cy L K f [33]) A) #[.ref a, .int p0] s 0 0 A) (F0 m 5 ls [])) (α := (Nat → va_E) × Int32) (fun aq => (99 - aq.2.toInt).toNat) (fun aq H locs ls => (0 ≤ aq.2.toInt) ∧ (aq.2.toInt ≤ 99) ∧ va_P D vwCl (va_pl L aq.1) H ∧ tp_I cy L K aq.1 ∧ (∀ b, (K b).1 ∉ ([33] : List Nat) → aq.1 b = f b) ∧ va_S A s.heap H locs ∧ lv_has ls 4 [(3, .int 99), (2, .int aq.2), (0, .ref a), (1, .int p0)]) ?_ (f, (0 : Int32)) H locs ls ⟨(show 0 ≤ (0 : Int) from (by omega)), (show (0 : Int) ≤ 99 from (by omega)), hP, hI, hfr, hS, lv_sub hl [0, 1, 2, 3] rfl⟩
  rintro ⟨f_4, v2⟩ H locs ls ⟨h0, h1, hP, hI, hfr, hS, hl⟩ ih5
  have hP : va_P D vwCl (va_pl L f_4) H := hP
  have hI : tp_I cy L K f_4 := hI
  have hfr : ∀ b, (K b).1 ∉ ([33] : List Nat) → f_4 b = f b := hfr
  have hD : va_D A (va_pl L f_4) := tp_D hL hAL
  have h0 : 0 ≤ v2.toInt := h0
  have h1 : v2.toInt ≤ 99 := h1
  have hl : lv_has ls 4 [(3, .int 99), (2, .int v2), (0, .ref a), (1, .int p0)] := hl
  refine lv_iload_n hx hb dJ7_fill_53178_5 rfl (lv_at hl 1 rfl) ?_
  refine lv_iload_n hx hb dJ7_fill_53178_6 rfl (lv_at hl 0 rfl) ?_
  refine lv_icmp_ge (tgt := 20) hx hb dJ7_fill_53178_7 (by decide) (fun c_5 => ?_) (fun c_5 => ?_)
  · have c_5 : (99 : Int) ≤ v2.toInt := tl_le c_5
    exact W.vret hx hb hr (fun t ht hW => ⟨⟨f_4, rfl, trivial, by rw [ht]; exact hP, hI, hfr⟩, hS.F ht⟩) hS.2.2 dJ7_fill_53178_20
  · have c_5 : v2.toInt < (99 : Int) := tl_nle c_5
    refine lv_aload_n hx hb dJ7_fill_53178_10 rfl (lv_at hl 2 rfl) ?_
    refine lv_iload_n hx hb dJ7_fill_53178_11 rfl (lv_at hl 1 rfl) ?_
    refine lv_iload_n hx hb dJ7_fill_53178_12 rfl (lv_at hl 3 rfl) ?_
    obtain ⟨g_7, hf_6, hg_8⟩ := (show tp_ai cy 33 (99) (f_4 a) from hI.at ha)
    have hn_9 : vp_in v2 (99) := tl_in (by omega) (by omega)
    have hI9 : tp_I cy L K (va_up f_4 a (.inl (cy 0, 99, .inl (upd g_7 v2.toNatClampNeg p0)))) := hI.set ha (show tp_ai cy 33 (99) _ from ⟨_, rfl, tp_pi_upd hg_8 trivial⟩)
    have hfr9 : ∀ b, (K b).1 ∉ ([33] : List Nat) → va_up f_4 a (.inl (cy 0, 99, .inl (upd g_7 v2.toNatClampNeg p0))) b = f b := tp_fr hfr ha (by decide)
    refine tp_iast (cy := cy) hx hb hK hP hD hS ha.1 hf_6 hn_9 dJ7_fill_53178_13 (fun H locs hP hD hS => ?_)
    have hP : va_P D vwCl (va_pl L (va_up f_4 a (.inl (cy 0, 99, .inl (upd g_7 v2.toNatClampNeg p0))))) H := hP
    generalize hfe : va_up f_4 a (.inl (cy 0, 99, .inl (upd g_7 v2.toNatClampNeg p0))) = f_10 at hP hI9 hfr9
    have hD : va_D A (va_pl L f_10) := tp_D hL hAL
    have hf_11 : f_10 a = .inl (cy 0, 99, .inl (upd g_7 v2.toNatClampNeg p0)) := by rw [← hfe]; exact va_up_self _ _ _
    clear hfe
    have hI := hI9
    have hfr := hfr9
    clear hI9 hfr9
    obtain ⟨z_12, ez_12⟩ : ∃ y : Int32, y = v2 + 1 := ⟨_, rfl⟩
    refine lv_iinc (v := z_12) (lv' := [(2, .int z_12), (3, .int 99), (0, .ref a), (1, .int p0)]) hx hb dJ7_fill_53178_14 hl (k := 1) rfl (by rw [ez_12]; rfl) (by decide) rfl (fun ls hl => ?_)
    have iz_12 : z_12.toInt = v2.toInt + 1 := by rw [ez_12]; exact tl_addL v2 1 (by decide) (by omega) (by omega)
    refine lv_goto (tgt := 5) hx hb dJ7_fill_53178_17 (by decide) ?_
    exact ih5 (f_10, z_12) H locs ls (by show (99 - z_12.toInt).toNat < (99 - v2.toInt).toNat; omega) ⟨(show 0 ≤ z_12.toInt from (by omega)), (show z_12.toInt ≤ 99 from (by omega)), hP, hI, hfr, hS, lv_sub hl [1, 0, 2, 3] rfl⟩
set_option maxHeartbeats 4000000 in
set_option maxRecDepth 100000 in
theorem t_fill_RL (l : Launch) (D : va_G) (cy : Nat → ClassId) (sz : Nat) (L : List Nat) (K : Nat → Nat × Nat) (f : Nat → va_E) (a : Nat) (p0 : Int64) (ha : tp_r L K 32 (99) a) : Met l yJ7_fill_d0a16 (tl_w yJ7_fill_d0a16 cJ7_fill_d0a16 5 none) ({ frames := 0, cells := 0, slots := 0, locals := 0 }) (va_Pc [.ref a, .long p0] (tp_P D cy L K f sz)) (va_Qv (fun (u : Nat → va_E) => True) (tp_B D cy L K f [32]) (tp_A L sz)) 0 0 (tp_A L sz) := by
  refine Met.ofW (cc := cJ7_fill_d0a16) (maxL := 5) (ret := none) (by decide) rfl ?_
  intro p e s m args below meth c s₁ B hml hv
  obtain ⟨rfl, hsz, hP, hK, hL, hI, hN⟩ := hv
  have hx := B.exec
  have hb := B.bytes
  have hr := B.returns
  have hta := tl_hta (atoms_spec (ws := tl_w yJ7_fill_d0a16 cJ7_fill_d0a16 5 none) B.pre)
  have hown : s.vm.findClass RJ7 = some m.cls := findClass_of_methodNamed B.named
  have hlocks := B.notSynchronized
  subst hsz
  have hI0 := hI
  generalize hAe : tp_A L s.heap.size = A
  have hA : ∀ q : Nat, s.heap.size ≤ q → A q := fun q h => by rw [← hAe]; exact Or.inr h
  have hAL : ∀ q ∈ L, A q := fun q h => by rw [← hAe]; exact Or.inl h
  have hAf : ∀ (H : Heap), s.heap.size ≤ H.size → ∀ q, tp_A L H.size q → A q := fun H h q hq => hq.elim (hAL q) (fun h2 => hA q (Nat.le_trans h h2))
  have hS : va_S A s.heap s.heap [] := va_S.rf
  have hD : va_D A (va_pl L f) := tp_D hL hAL
  have hfr : ∀ b, (K b).1 ∉ ([32] : List Nat) → f b = f b := fun _ _ => rfl
  have hl := lv_entry ([.ref a, .long p0]) (n := 5) (Nat.le_of_ble_eq_true rfl)
  rw [lg_entry_eq]
  generalize (lg_sl ([.ref a, .long p0]) ++ List.replicate (5 - (lg_sl ([.ref a, .long p0])).length) Slot.unset).toArray = ls at hl ⊢
  have hl : lv_has ls 5 [(0, .ref a), (1, .long p0)] := hl
  refine lv_iconst (v := 0) hx hb dJ7_fill_d0a16_0 (by decide) ?_
  refine lv_istore_n (lv' := [(3, .int 0), (0, .ref a), (1, .long p0)]) hx hb dJ7_fill_d0a16_1 rfl hl (by decide) rfl (fun ls hl => ?_)
  refine lv_aload_n hx hb dJ7_fill_d0a16_2 rfl (lv_at hl 1 rfl) ?_
  obtain ⟨g_2, hf_1⟩ := (show tp_aj cy (99) (f a) from hI.at ha)
  refine tp_alen (cy := cy) (t0 := 1) (v := 99) hx hb hK hP ha.1 rfl hf_1 rfl dJ7_fill_d0a16_3 ?_
  refine lv_istore (lv' := [(4, .int 99), (3, .int 0), (0, .ref a), (1, .long p0)]) hx hb dJ7_fill_d0a16_4 hl (by decide) rfl (fun ls hl => ?_)
  refine tq_start hP hS (fun H locs hP hS => ?_)
  refine tl_ind (G := fun H locs ls => W p l e ((headSpec (tl_w yJ7_fill_d0a16 cJ7_fill_d0a16 5 none) ({ frames := 0, cells := 0, slots := 0, locals := 0 })).room) s m #[.ref a, .long p0] below meth c H locs 0 0 (MQ below (va_Qv (fun (u : Nat → va_E) => True) (tp_B D cy L K f [32]) A) #[.ref a, .long p0] s 0 0 A) (F0 m 6 ls [])) (α := (Nat → va_E) × Int32) (fun aq => (99 - aq.2.toInt).toNat) (fun aq H locs ls => (0 ≤ aq.2.toInt) ∧ (aq.2.toInt ≤ 99) ∧ va_P D vwCl (va_pl L aq.1) H ∧ tp_I cy L K aq.1 ∧ (∀ b, (K b).1 ∉ ([32] : List Nat) → aq.1 b = f b) ∧ va_S A s.heap H locs ∧ lv_has ls 5 [(4, .int 99), (3, .int aq.2), (0, .ref a), (1, .long p0)]) ?_ (f, (0 : Int32)) H locs ls ⟨(show 0 ≤ (0 : Int) from (by omega)), (show (0 : Int) ≤ 99 from (by omega)), hP, hI, hfr, hS, lv_sub hl [0, 1, 2, 3] rfl⟩
  rintro ⟨f_4, v3⟩ H locs ls ⟨h0, h1, hP, hI, hfr, hS, hl⟩ ih6
  have hP : va_P D vwCl (va_pl L f_4) H := hP
  have hI : tp_I cy L K f_4 := hI
  have hfr : ∀ b, (K b).1 ∉ ([32] : List Nat) → f_4 b = f b := hfr
  have hD : va_D A (va_pl L f_4) := tp_D hL hAL
  have h0 : 0 ≤ v3.toInt := h0
  have h1 : v3.toInt ≤ 99 := h1
  have hl : lv_has ls 5 [(4, .int 99), (3, .int v3), (0, .ref a), (1, .long p0)] := hl
  refine lv_iload_n hx hb dJ7_fill_d0a16_6 rfl (lv_at hl 1 rfl) ?_
  refine lv_iload hx hb dJ7_fill_d0a16_7 (lv_at hl 0 rfl) ?_
  refine lv_icmp_ge (tgt := 22) hx hb dJ7_fill_d0a16_9 (by decide) (fun c_5 => ?_) (fun c_5 => ?_)
  · have c_5 : (99 : Int) ≤ v3.toInt := tl_le c_5
    exact W.vret hx hb hr (fun t ht hW => ⟨⟨f_4, rfl, trivial, by rw [ht]; exact hP, hI, hfr⟩, hS.F ht⟩) hS.2.2 dJ7_fill_d0a16_22
  · have c_5 : v3.toInt < (99 : Int) := tl_nle c_5
    refine lv_aload_n hx hb dJ7_fill_d0a16_12 rfl (lv_at hl 2 rfl) ?_
    refine lv_iload_n hx hb dJ7_fill_d0a16_13 rfl (lv_at hl 1 rfl) ?_
    refine lv_lload_n hx hb dJ7_fill_d0a16_14 rfl (lv_at hl 3 rfl) ?_
    obtain ⟨g_7, hf_6⟩ := (show tp_aj cy (99) (f_4 a) from hI.at ha)
    have hn_9 : vp_in v3 (99) := tl_in (by omega) (by omega)
    have hI9 : tp_I cy L K (va_up f_4 a (.inl (cy 1, 99, .inr (.inl (vp_updL g_7 v3.toNatClampNeg p0))))) := hI.set ha (show tp_aj cy (99) _ from ⟨_, rfl⟩)
    have hfr9 : ∀ b, (K b).1 ∉ ([32] : List Nat) → va_up f_4 a (.inl (cy 1, 99, .inr (.inl (vp_updL g_7 v3.toNatClampNeg p0)))) b = f b := tp_fr hfr ha (by decide)
    refine tp_last (cy := cy) hx hb hK hP hD hS ha.1 hf_6 hn_9 dJ7_fill_d0a16_15 (fun H locs hP hD hS => ?_)
    have hP : va_P D vwCl (va_pl L (va_up f_4 a (.inl (cy 1, 99, .inr (.inl (vp_updL g_7 v3.toNatClampNeg p0)))))) H := hP
    generalize hfe : va_up f_4 a (.inl (cy 1, 99, .inr (.inl (vp_updL g_7 v3.toNatClampNeg p0)))) = f_10 at hP hI9 hfr9
    have hD : va_D A (va_pl L f_10) := tp_D hL hAL
    have hf_11 : f_10 a = .inl (cy 1, 99, .inr (.inl (vp_updL g_7 v3.toNatClampNeg p0))) := by rw [← hfe]; exact va_up_self _ _ _
    clear hfe
    have hI := hI9
    have hfr := hfr9
    clear hI9 hfr9
    obtain ⟨z_12, ez_12⟩ : ∃ y : Int32, y = v3 + 1 := ⟨_, rfl⟩
    refine lv_iinc (v := z_12) (lv' := [(3, .int z_12), (4, .int 99), (0, .ref a), (1, .long p0)]) hx hb dJ7_fill_d0a16_16 hl (k := 1) rfl (by rw [ez_12]; rfl) (by decide) rfl (fun ls hl => ?_)
    have iz_12 : z_12.toInt = v3.toInt + 1 := by rw [ez_12]; exact tl_addL v3 1 (by decide) (by omega) (by omega)
    refine lv_goto (tgt := 6) hx hb dJ7_fill_d0a16_19 (by decide) ?_
    exact ih6 (f_10, z_12) H locs ls (by show (99 - z_12.toInt).toNat < (99 - v3.toInt).toNat; omega) ⟨(show 0 ≤ z_12.toInt from (by omega)), (show z_12.toInt ≤ 99 from (by omega)), hP, hI, hfr, hS, lv_sub hl [1, 0, 2, 3] rfl⟩
set_option maxHeartbeats 4000000 in
set_option maxRecDepth 100000 in
theorem t_X4_add (l : Launch) (D : va_G) (cy : Nat → ClassId) (sz : Nat) (L : List Nat) (K : Nat → Nat × Nat) (f : Nat → va_E) (o : Nat) (p0 : Int32) (p1 : Int32) (p2 : Int32) (ho : tp_r L K 3 (0) o) : Met l yX4_add (tl_w yX4_add cX4_add 4 (some .int)) ({ frames := 1, cells := 0, slots := 0, locals := 23 }) (va_Pc [.ref o, .int p0, .int p1, .int p2] (tp_P D cy L K f sz)) (va_Qi (fun (r : Int32) (u : Nat → va_E) => True) (tp_B D cy L K f [3, 4, 6]) (tp_A L sz)) 0 0 (tp_A L sz) := by
  refine Met.ofW (cc := cX4_add) (maxL := 4) (ret := (some .int)) (by decide) rfl ?_
  intro p e s m args below meth c s₁ B hml hv
  obtain ⟨rfl, hsz, hP, hK, hL, hI, hN⟩ := hv
  have hx := B.exec
  have hb := B.bytes
  have hr := B.returns
  have hta := tl_hta (atoms_spec (ws := tl_w yX4_add cX4_add 4 (some .int)) B.pre)
  have hown : s.vm.findClass RX4 = some m.cls := findClass_of_methodNamed B.named
  have hlocks := B.notSynchronized
  subst hsz
  have hI0 := hI
  generalize hAe : tp_A L s.heap.size = A
  have hA : ∀ q : Nat, s.heap.size ≤ q → A q := fun q h => by rw [← hAe]; exact Or.inr h
  have hAL : ∀ q ∈ L, A q := fun q h => by rw [← hAe]; exact Or.inl h
  have hAf : ∀ (H : Heap), s.heap.size ≤ H.size → ∀ q, tp_A L H.size q → A q := fun H h q hq => hq.elim (hAL q) (fun h2 => hA q (Nat.le_trans h h2))
  have hS : va_S A s.heap s.heap [] := va_S.rf
  have hD : va_D A (va_pl L f) := tp_D hL hAL
  have hfr : ∀ b, (K b).1 ∉ ([3, 4, 6] : List Nat) → f b = f b := fun _ _ => rfl
  have hl := lv_entry ([.ref o, .int p0, .int p1, .int p2]) (n := 4) (Nat.le_of_ble_eq_true rfl)
  rw [lg_entry_eq]
  generalize (lg_sl ([.ref o, .int p0, .int p1, .int p2]) ++ List.replicate (4 - (lg_sl ([.ref o, .int p0, .int p1, .int p2])).length) Slot.unset).toArray = ls at hl ⊢
  have hl : lv_has ls 4 [(0, .ref o), (1, .int p0), (2, .int p1), (3, .int p2)] := hl
  refine lv_aload_n hx hb dX4_add_0 rfl (lv_at hl 0 rfl) ?_
  obtain ⟨x_2, x_3, x_4, x_5, x_6, x_7, hf_1, hx_2, hx_4, hx_5, hx_6, hx_7⟩ := (show tp_o_ROWS L K (0) (f o) from hI.at ho)
  refine tp_get (cy := cy) (ci := 4) (v := .int x_2) (C := RX4) (T := TX4) (N := 6) hx hb hta inlX4 hown hK hP ho.1 hf_1 rfl 0 (by decide) (hta _ wk_211) (fun _ h9 => h9) rfl dX4_add_1 ?_
  refine lv_bipush (v := 24) hx hb dX4_add_4 (by decide) ?_
  refine lv_icmp_lt (tgt := 11) hx hb dX4_add_6 (by decide) (fun c_8 => ?_) (fun c_8 => ?_)
  · have c_8 : x_2.toInt < (24 : Int) := tl_lt c_8
    refine lv_aload_n hx hb dX4_add_11 rfl (lv_at hl 0 rfl) ?_
    refine tp_get (cy := cy) (ci := 4) (v := .ref x_4) (C := RX4) (T := TX4) (N := 6) hx hb hta inlX4 hown hK hP ho.1 hf_1 rfl 2 (by decide) (hta _ wk_73) (fun _ h9 => h9) rfl dX4_add_12 ?_
    refine lv_aload_n hx hb dX4_add_15 rfl (lv_at hl 0 rfl) ?_
    refine tp_get (cy := cy) (ci := 4) (v := .int x_2) (C := RX4) (T := TX4) (N := 6) hx hb hta inlX4 hown hK hP ho.1 hf_1 rfl 0 (by decide) (hta _ wk_211) (fun _ h9 => h9) rfl dX4_add_16 ?_
    refine lv_iload_n hx hb dX4_add_19 rfl (lv_at hl 1 rfl) ?_
    obtain ⟨g_10, hf_9, hg_11⟩ := (show tp_ai cy 4 (24) (f x_4) from hI.at hx_4)
    have hn_12 : vp_in x_2 (24) := tl_in (by omega) (by omega)
    have hI9 : tp_I cy L K (va_up f x_4 (.inl (cy 0, 24, .inl (upd g_10 x_2.toNatClampNeg p0)))) := hI.set hx_4 (show tp_ai cy 4 (24) _ from ⟨_, rfl, tp_pi_upd hg_11 trivial⟩)
    have hfr9 : ∀ b, (K b).1 ∉ ([3, 4, 6] : List Nat) → va_up f x_4 (.inl (cy 0, 24, .inl (upd g_10 x_2.toNatClampNeg p0))) b = f b := tp_fr hfr hx_4 (by decide)
    refine tp_iast (cy := cy) hx hb hK hP hD hS hx_4.1 hf_9 hn_12 dX4_add_20 (fun H locs hP hD hS => ?_)
    have hP : va_P D vwCl (va_pl L (va_up f x_4 (.inl (cy 0, 24, .inl (upd g_10 x_2.toNatClampNeg p0))))) H := hP
    generalize hfe : va_up f x_4 (.inl (cy 0, 24, .inl (upd g_10 x_2.toNatClampNeg p0))) = f_13 at hP hI9 hfr9
    have hD : va_D A (va_pl L f_13) := tp_D hL hAL
    have hf_14 := (show f_13 o = _ from by rw [← hfe, va_up_ne _ _ (tp_ne ho hx_4 (by decide))]).trans hf_1
    have hf_15 : f_13 x_4 = .inl (cy 0, 24, .inl (upd g_10 x_2.toNatClampNeg p0)) := by rw [← hfe]; exact va_up_self _ _ _
    clear hfe
    have hI := hI9
    have hfr := hfr9
    clear hI9 hfr9
    refine lv_aload_n hx hb dX4_add_21 rfl (lv_at hl 0 rfl) ?_
    refine tp_get (cy := cy) (ci := 4) (v := .ref x_5) (C := RX4) (T := TX4) (N := 6) hx hb hta inlX4 hown hK hP ho.1 hf_14 rfl 3 (by decide) (hta _ wk_74) (fun _ h9 => h9) rfl dX4_add_22 ?_
    refine lv_aload_n hx hb dX4_add_25 rfl (lv_at hl 0 rfl) ?_
    refine tp_get (cy := cy) (ci := 4) (v := .int x_2) (C := RX4) (T := TX4) (N := 6) hx hb hta inlX4 hown hK hP ho.1 hf_14 rfl 0 (by decide) (hta _ wk_211) (fun _ h9 => h9) rfl dX4_add_26 ?_
    refine lv_iload_n hx hb dX4_add_29 rfl (lv_at hl 2 rfl) ?_
    obtain ⟨g_17, hf_16, hg_18⟩ := (show tp_ai cy 4 (24) (f_13 x_5) from hI.at hx_5)
    have hn_19 : vp_in x_2 (24) := tl_in (by omega) (by omega)
    have hI9 : tp_I cy L K (va_up f_13 x_5 (.inl (cy 0, 24, .inl (upd g_17 x_2.toNatClampNeg p1)))) := hI.set hx_5 (show tp_ai cy 4 (24) _ from ⟨_, rfl, tp_pi_upd hg_18 trivial⟩)
    have hfr9 : ∀ b, (K b).1 ∉ ([3, 4, 6] : List Nat) → va_up f_13 x_5 (.inl (cy 0, 24, .inl (upd g_17 x_2.toNatClampNeg p1))) b = f b := tp_fr hfr hx_5 (by decide)
    refine tp_iast (cy := cy) hx hb hK hP hD hS hx_5.1 hf_16 hn_19 dX4_add_30 (fun H locs hP hD hS => ?_)
    have hP : va_P D vwCl (va_pl L (va_up f_13 x_5 (.inl (cy 0, 24, .inl (upd g_17 x_2.toNatClampNeg p1))))) H := hP
    generalize hfe : va_up f_13 x_5 (.inl (cy 0, 24, .inl (upd g_17 x_2.toNatClampNeg p1))) = f_20 at hP hI9 hfr9
    have hD : va_D A (va_pl L f_20) := tp_D hL hAL
    have hf_21 := (show f_20 o = _ from by rw [← hfe, va_up_ne _ _ (tp_ne ho hx_5 (by decide))]).trans hf_14
    have hf_22 : f_20 x_5 = .inl (cy 0, 24, .inl (upd g_17 x_2.toNatClampNeg p1)) := by rw [← hfe]; exact va_up_self _ _ _
    clear hfe
    have hI := hI9
    have hfr := hfr9
    clear hI9 hfr9
    refine lv_aload_n hx hb dX4_add_31 rfl (lv_at hl 0 rfl) ?_
    refine tp_get (cy := cy) (ci := 4) (v := .ref x_6) (C := RX4) (T := TX4) (N := 6) hx hb hta inlX4 hown hK hP ho.1 hf_21 rfl 4 (by decide) (hta _ wk_75) (fun _ h9 => h9) rfl dX4_add_32 ?_
    refine lv_aload_n hx hb dX4_add_35 rfl (lv_at hl 0 rfl) ?_
    refine tp_get (cy := cy) (ci := 4) (v := .int x_2) (C := RX4) (T := TX4) (N := 6) hx hb hta inlX4 hown hK hP ho.1 hf_21 rfl 0 (by decide) (hta _ wk_211) (fun _ h9 => h9) rfl dX4_add_36 ?_
    refine lv_iload_n hx hb dX4_add_39 rfl (lv_at hl 3 rfl) ?_
    obtain ⟨g_24, hf_23, hg_25⟩ := (show tp_ai cy 4 (24) (f_20 x_6) from hI.at hx_6)
    have hn_26 : vp_in x_2 (24) := tl_in (by omega) (by omega)
    have hI9 : tp_I cy L K (va_up f_20 x_6 (.inl (cy 0, 24, .inl (upd g_24 x_2.toNatClampNeg p2)))) := hI.set hx_6 (show tp_ai cy 4 (24) _ from ⟨_, rfl, tp_pi_upd hg_25 trivial⟩)
    have hfr9 : ∀ b, (K b).1 ∉ ([3, 4, 6] : List Nat) → va_up f_20 x_6 (.inl (cy 0, 24, .inl (upd g_24 x_2.toNatClampNeg p2))) b = f b := tp_fr hfr hx_6 (by decide)
    refine tp_iast (cy := cy) hx hb hK hP hD hS hx_6.1 hf_23 hn_26 dX4_add_40 (fun H locs hP hD hS => ?_)
    have hP : va_P D vwCl (va_pl L (va_up f_20 x_6 (.inl (cy 0, 24, .inl (upd g_24 x_2.toNatClampNeg p2))))) H := hP
    generalize hfe : va_up f_20 x_6 (.inl (cy 0, 24, .inl (upd g_24 x_2.toNatClampNeg p2))) = f_27 at hP hI9 hfr9
    have hD : va_D A (va_pl L f_27) := tp_D hL hAL
    have hf_28 := (show f_27 o = _ from by rw [← hfe, va_up_ne _ _ (tp_ne ho hx_6 (by decide))]).trans hf_21
    have hf_29 : f_27 x_6 = .inl (cy 0, 24, .inl (upd g_24 x_2.toNatClampNeg p2)) := by rw [← hfe]; exact va_up_self _ _ _
    clear hfe
    have hI := hI9
    have hfr := hfr9
    clear hI9 hfr9
    refine lv_aload_n hx hb dX4_add_41 rfl (lv_at hl 0 rfl) ?_
    refine tp_get (cy := cy) (ci := 4) (v := .ref x_7) (C := RX4) (T := TX4) (N := 6) hx hb hta inlX4 hown hK hP ho.1 hf_28 rfl 5 (by decide) (hta _ wk_77) (fun _ h9 => h9) rfl dX4_add_42 ?_
    refine lv_aload_n hx hb dX4_add_45 rfl (lv_at hl 0 rfl) ?_
    refine tp_get (cy := cy) (ci := 4) (v := .int x_2) (C := RX4) (T := TX4) (N := 6) hx hb hta inlX4 hown hK hP ho.1 hf_28 rfl 0 (by decide) (hta _ wk_211) (fun _ h9 => h9) rfl dX4_add_46 ?_
    obtain ⟨g_31, hf_30, hg_32⟩ := (show tp_aa cy L K (24) (f x_7) from hI0.at hx_7)
    have hn_33 : vp_in x_2 (24) := tl_in (by omega) (by omega)
    obtain ⟨b_34, eb_34, hb_34⟩ := hg_32 _ (tp_pin hn_33)
    refine tp_aldA (cy := cy) hx hb hK hP hx_7.1 ((tp_un hfr hx_7 (by decide)).trans hf_30) hn_33 dX4_add_49 ?_
    refine W.eq (g2 := F0 m 50 ls ([.ref b_34])) (by rw [eb_34]; rfl) ?_
    refine lv_ldc (v := (-1000000)) hx hb hown (hta _ wk_212) dX4_add_50 ?_
    refine tq_cv hS (hAf _ hS.1) (tq_rS (As := [.ref b_34, .int (-1000000)]) (rest := []) ⟨hx, hb, hml, hown, hta⟩ (tp_P.pre hK hN hL hI hP) lk_X4_31 (t_fill_RAWR l D cy H.size L K f_27 b_34 (-1000000) hb_34) rfl rfl ⟨Nat.le_of_ble_eq_true rfl, Nat.le_of_ble_eq_true rfl⟩ rfl hl.1 rfl (Nat.le_of_ble_eq_true rfl) dX4_add_52 ⟨Nat.le_of_ble_eq_true rfl, Nat.le_of_ble_eq_true rfl⟩) (fun f_37 H locs hw_35 hP hI hc_38 hS => ?_)
    have hD : va_D A (va_pl L f_37) := tp_D hL hAL
    have hfr := tp_fr2 hfr hc_38 (by decide)
    have hf_39 := (tp_un hc_38 ho (by decide)).trans hf_28
    refine lv_aload_n hx hb dX4_add_55 rfl (lv_at hl 0 rfl) ?_
    refine lv_dup hx hb dX4_add_56 rfl ?_
    refine tp_get (cy := cy) (ci := 4) (v := .int x_2) (C := RX4) (T := TX4) (N := 6) hx hb hta inlX4 hown hK hP ho.1 hf_39 rfl 0 (by decide) (hta _ wk_211) (fun _ h9 => h9) rfl dX4_add_57 ?_
    refine lv_iconst (v := 1) hx hb dX4_add_60 (by decide) ?_
    refine lv_iadd hx hb dX4_add_61 ?_
    refine lv_topi (fun z_40 ez_40 => ?_)
    try have iz_40 : z_40.toInt = x_2.toInt + (1 : Int) := by rw [ez_40]; exact tl_addN x_2 1 rfl rfl (by omega) (by omega)
    have hI9 : tp_I cy L K (va_up f_37 o (.inr (4, [.int z_40, .int x_3, .ref x_4, .ref x_5, .ref x_6, .ref x_7]))) := hI.set ho (show tp_o_ROWS L K (0) _ from ⟨z_40, x_3, x_4, x_5, x_6, x_7, rfl, (by omega), hx_4, hx_5, hx_6, hx_7⟩)
    have hfr9 : ∀ b, (K b).1 ∉ ([3, 4, 6] : List Nat) → va_up f_37 o (.inr (4, [.int z_40, .int x_3, .ref x_4, .ref x_5, .ref x_6, .ref x_7])) b = f b := tp_fr hfr ho (by decide)
    refine tp_put (cy := cy) (ci := 4) (v := .int z_40) (ty := tyX4 0) (C := RX4) (T := TX4) (N := 6) hx hb hta inlX4 tyX4 tyX4_ok nmX4 hown hK hP hD hS ho.1 hf_39 rfl 0 (by decide) (hta _ wk_211) (fun _ h9 => h9) rfl (tyX4_ok 0 (by decide)) rfl rfl (Nat.le_of_ble_eq_true rfl) dX4_add_62 (fun H locs hP hD hS => ?_)
    have hP : va_P D vwCl (va_pl L (va_up f_37 o (.inr (4, [.int z_40, .int x_3, .ref x_4, .ref x_5, .ref x_6, .ref x_7])))) H := hP
    generalize hfe : va_up f_37 o (.inr (4, [.int z_40, .int x_3, .ref x_4, .ref x_5, .ref x_6, .ref x_7])) = f_41 at hP hI9 hfr9
    have hD : va_D A (va_pl L f_41) := tp_D hL hAL
    have hf_42 : f_41 o = .inr (4, [.int z_40, .int x_3, .ref x_4, .ref x_5, .ref x_6, .ref x_7]) := by rw [← hfe]; exact va_up_self _ _ _
    clear hfe
    have hI := hI9
    have hfr := hfr9
    clear hI9 hfr9
    refine lv_aload_n hx hb dX4_add_65 rfl (lv_at hl 0 rfl) ?_
    refine tp_get (cy := cy) (ci := 4) (v := .int z_40) (C := RX4) (T := TX4) (N := 6) hx hb hta inlX4 hown hK hP ho.1 hf_42 rfl 0 (by decide) (hta _ wk_211) (fun _ h9 => h9) rfl dX4_add_66 ?_
    refine lv_iconst (v := 1) hx hb dX4_add_69 (by decide) ?_
    refine lv_isub hx hb dX4_add_70 ?_
    refine lv_topi (fun z_43 ez_43 => ?_)
    try have iz_43 : z_43.toInt = z_40.toInt - (1 : Int) := by rw [ez_43]; exact tl_subN z_40 1 rfl rfl (by omega) (by omega)
    exact W.iret (v := z_43) hx hb hr (fun t ht hW => ⟨⟨_, f_41, rfl, trivial, by rw [ht]; exact hP, hI, hfr⟩, hS.F ht⟩) hS.2.2 dX4_add_71
  · have c_8 : (24 : Int) ≤ x_2.toInt := tl_nlt c_8
    refine lv_iconst (v := (-1)) hx hb dX4_add_9 (by decide) ?_
    exact W.iret (v := (-1)) hx hb hr (fun t ht hW => ⟨⟨_, f, rfl, trivial, by rw [ht]; exact hP, hI, hfr⟩, hS.F ht⟩) hS.2.2 dX4_add_10

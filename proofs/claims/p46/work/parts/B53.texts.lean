theorem dX8_isFull_0 : decode cX8_isFull 0 = .ok (.aload_n 0, 1) := by decide +kernel
theorem dX8_isFull_1 : decode cX8_isFull 1 = .ok (.getfield 23, 3) := by decide +kernel
theorem dX8_isFull_4 : decode cX8_isFull 4 = .ok (.aload_n 0, 1) := by decide +kernel
theorem dX8_isFull_5 : decode cX8_isFull 5 = .ok (.getfield 17, 3) := by decide +kernel
theorem dX8_isFull_8 : decode cX8_isFull 8 = .ok (.arraylength, 1) := by decide +kernel
theorem dX8_isFull_9 : decode cX8_isFull 9 = .ok (.if_icmp .lt 7, 3) := by decide +kernel
theorem dX8_isFull_12 : decode cX8_isFull 12 = .ok (.iconst 1, 1) := by decide +kernel
theorem dX8_isFull_13 : decode cX8_isFull 13 = .ok (.goto 4, 3) := by decide +kernel
theorem dX8_isFull_16 : decode cX8_isFull 16 = .ok (.iconst 0, 1) := by decide +kernel
theorem dX8_isFull_17 : decode cX8_isFull 17 = .ok (.ireturn, 1) := by decide +kernel
theorem wk_92 : Cond.fieldLink RX8 17 "ThinLine$Texts" "kept" "[LThinLine$Text;" ∈ tl_L := List.mem_filter.mpr ⟨lw_m1 (i := 145) rfl, rfl⟩
theorem wk_371 : Cond.fieldLink RX8 23 "ThinLine$Texts" "size" "I" ∈ tl_L := List.mem_filter.mpr ⟨lw_m1 (i := 146) rfl, rfl⟩
theorem dX8_at_0 : decode cX8_at 0 = .ok (.iload_n 1, 1) := by decide +kernel
theorem dX8_at_1 : decode cX8_at 1 = .ok (.ifCond .lt 29, 3) := by decide +kernel
theorem dX8_at_4 : decode cX8_at 4 = .ok (.iload_n 1, 1) := by decide +kernel
theorem dX8_at_5 : decode cX8_at 5 = .ok (.aload_n 0, 1) := by decide +kernel
theorem dX8_at_6 : decode cX8_at 6 = .ok (.getfield 23, 3) := by decide +kernel
theorem dX8_at_9 : decode cX8_at 9 = .ok (.if_icmp .ge 21, 3) := by decide +kernel
theorem dX8_at_12 : decode cX8_at 12 = .ok (.iload_n 1, 1) := by decide +kernel
theorem dX8_at_13 : decode cX8_at 13 = .ok (.aload_n 0, 1) := by decide +kernel
theorem dX8_at_14 : decode cX8_at 14 = .ok (.getfield 17, 3) := by decide +kernel
theorem dX8_at_17 : decode cX8_at 17 = .ok (.arraylength, 1) := by decide +kernel
theorem dX8_at_18 : decode cX8_at 18 = .ok (.if_icmp .ge 12, 3) := by decide +kernel
theorem dX8_at_21 : decode cX8_at 21 = .ok (.aload_n 0, 1) := by decide +kernel
theorem dX8_at_22 : decode cX8_at 22 = .ok (.getfield 17, 3) := by decide +kernel
theorem dX8_at_25 : decode cX8_at 25 = .ok (.iload_n 1, 1) := by decide +kernel
theorem dX8_at_26 : decode cX8_at 26 = .ok (.aaload, 1) := by decide +kernel
theorem dX8_at_27 : decode cX8_at 27 = .ok (.goto 4, 3) := by decide +kernel
theorem dX8_at_30 : decode cX8_at 30 = .ok (.aconst_null, 1) := by decide +kernel
theorem dX8_at_31 : decode cX8_at 31 = .ok (.areturn, 1) := by decide +kernel
theorem dX7_wipe_0 : decode cX7_wipe 0 = .ok (.aload_n 0, 1) := by decide +kernel
theorem dX7_wipe_1 : decode cX7_wipe 1 = .ok (.iconst 0, 1) := by decide +kernel
theorem dX7_wipe_2 : decode cX7_wipe 2 = .ok (.putfield 33, 3) := by decide +kernel
theorem dX7_wipe_5 : decode cX7_wipe 5 = .ok (.aload_n 0, 1) := by decide +kernel
theorem dX7_wipe_6 : decode cX7_wipe 6 = .ok (.iconst 0, 1) := by decide +kernel
theorem dX7_wipe_7 : decode cX7_wipe 7 = .ok (.putfield 37, 3) := by decide +kernel
theorem dX7_wipe_10 : decode cX7_wipe 10 = .ok (.return_, 1) := by decide +kernel
theorem wk_375 : Cond.fieldLink RX7 33 "ThinLine$Text" "clauses" "I" ∈ tl_L := List.mem_filter.mpr ⟨lw_m1 (i := 188) rfl, rfl⟩
theorem wk_376 : Cond.fieldLink RX7 37 "ThinLine$Text" "length" "I" ∈ tl_L := List.mem_filter.mpr ⟨lw_m1 (i := 215) rfl, rfl⟩
theorem dX7_step_0 : decode cX7_step 0 = .ok (.aload_n 0, 1) := by decide +kernel
theorem dX7_step_1 : decode cX7_step 1 = .ok (.getfield 37, 3) := by decide +kernel
theorem dX7_step_4 : decode cX7_step 4 = .ok (.aload_n 0, 1) := by decide +kernel
theorem dX7_step_5 : decode cX7_step 5 = .ok (.getfield 30, 3) := by decide +kernel
theorem dX7_step_8 : decode cX7_step 8 = .ok (.arraylength, 1) := by decide +kernel
theorem dX7_step_9 : decode cX7_step 9 = .ok (.if_icmp .ge 28, 3) := by decide +kernel
theorem dX7_step_12 : decode cX7_step 12 = .ok (.aload_n 0, 1) := by decide +kernel
theorem dX7_step_13 : decode cX7_step 13 = .ok (.getfield 30, 3) := by decide +kernel
theorem dX7_step_16 : decode cX7_step 16 = .ok (.aload_n 0, 1) := by decide +kernel
theorem dX7_step_17 : decode cX7_step 17 = .ok (.getfield 37, 3) := by decide +kernel
theorem dX7_step_20 : decode cX7_step 20 = .ok (.iload_n 1, 1) := by decide +kernel
theorem dX7_step_21 : decode cX7_step 21 = .ok (.bipush 16, 2) := by decide +kernel
theorem dX7_step_23 : decode cX7_step 23 = .ok (.iload_n 2, 1) := by decide +kernel
theorem dX7_step_24 : decode cX7_step 24 = .ok (.imul, 1) := by decide +kernel
theorem dX7_step_25 : decode cX7_step 25 = .ok (.iadd, 1) := by decide +kernel
theorem dX7_step_26 : decode cX7_step 26 = .ok (.iastore, 1) := by decide +kernel
theorem dX7_step_27 : decode cX7_step 27 = .ok (.aload_n 0, 1) := by decide +kernel
theorem dX7_step_28 : decode cX7_step 28 = .ok (.dup, 1) := by decide +kernel
theorem dX7_step_29 : decode cX7_step 29 = .ok (.getfield 37, 3) := by decide +kernel
theorem dX7_step_32 : decode cX7_step 32 = .ok (.iconst 1, 1) := by decide +kernel
theorem dX7_step_33 : decode cX7_step 33 = .ok (.iadd, 1) := by decide +kernel
theorem dX7_step_34 : decode cX7_step 34 = .ok (.putfield 37, 3) := by decide +kernel
theorem dX7_step_37 : decode cX7_step 37 = .ok (.return_, 1) := by decide +kernel
theorem wk_117 : Cond.fieldLink RX7 30 "ThinLine$Text" "steps" "[I" ∈ tl_L := List.mem_filter.mpr ⟨lw_m1 (i := 213) rfl, rfl⟩
theorem dX7_open_0 : decode cX7_open 0 = .ok (.aload_n 0, 1) := by decide +kernel
theorem dX7_open_1 : decode cX7_open 1 = .ok (.getfield 33, 3) := by decide +kernel
theorem dX7_open_4 : decode cX7_open 4 = .ok (.bipush 12, 2) := by decide +kernel
theorem dX7_open_6 : decode cX7_open 6 = .ok (.if_icmp .ge 62, 3) := by decide +kernel
theorem dX7_open_9 : decode cX7_open 9 = .ok (.aload_n 0, 1) := by decide +kernel
theorem dX7_open_10 : decode cX7_open 10 = .ok (.getfield 9, 3) := by decide +kernel
theorem dX7_open_13 : decode cX7_open 13 = .ok (.aload_n 0, 1) := by decide +kernel
theorem dX7_open_14 : decode cX7_open 14 = .ok (.getfield 33, 3) := by decide +kernel
theorem dX7_open_17 : decode cX7_open 17 = .ok (.iload_n 1, 1) := by decide +kernel
theorem dX7_open_18 : decode cX7_open 18 = .ok (.iastore, 1) := by decide +kernel
theorem dX7_open_19 : decode cX7_open 19 = .ok (.aload_n 0, 1) := by decide +kernel
theorem dX7_open_20 : decode cX7_open 20 = .ok (.getfield 21, 3) := by decide +kernel
theorem dX7_open_23 : decode cX7_open 23 = .ok (.aload_n 0, 1) := by decide +kernel
theorem dX7_open_24 : decode cX7_open 24 = .ok (.getfield 33, 3) := by decide +kernel
theorem dX7_open_27 : decode cX7_open 27 = .ok (.aload_n 0, 1) := by decide +kernel
theorem dX7_open_28 : decode cX7_open 28 = .ok (.getfield 37, 3) := by decide +kernel
theorem dX7_open_31 : decode cX7_open 31 = .ok (.iastore, 1) := by decide +kernel
theorem dX7_open_32 : decode cX7_open 32 = .ok (.aload_n 0, 1) := by decide +kernel
theorem dX7_open_33 : decode cX7_open 33 = .ok (.getfield 24, 3) := by decide +kernel
theorem dX7_open_36 : decode cX7_open 36 = .ok (.aload_n 0, 1) := by decide +kernel
theorem dX7_open_37 : decode cX7_open 37 = .ok (.getfield 33, 3) := by decide +kernel
theorem dX7_open_40 : decode cX7_open 40 = .ok (.aload_n 0, 1) := by decide +kernel
theorem dX7_open_41 : decode cX7_open 41 = .ok (.getfield 37, 3) := by decide +kernel
theorem dX7_open_44 : decode cX7_open 44 = .ok (.iastore, 1) := by decide +kernel
theorem dX7_open_45 : decode cX7_open 45 = .ok (.aload_n 0, 1) := by decide +kernel
theorem dX7_open_46 : decode cX7_open 46 = .ok (.getfield 27, 3) := by decide +kernel
theorem dX7_open_49 : decode cX7_open 49 = .ok (.aload_n 0, 1) := by decide +kernel
theorem dX7_open_50 : decode cX7_open 50 = .ok (.getfield 33, 3) := by decide +kernel
theorem dX7_open_53 : decode cX7_open 53 = .ok (.aload_n 0, 1) := by decide +kernel
theorem dX7_open_54 : decode cX7_open 54 = .ok (.getfield 37, 3) := by decide +kernel
theorem dX7_open_57 : decode cX7_open 57 = .ok (.iastore, 1) := by decide +kernel
theorem dX7_open_58 : decode cX7_open 58 = .ok (.aload_n 0, 1) := by decide +kernel
theorem dX7_open_59 : decode cX7_open 59 = .ok (.dup, 1) := by decide +kernel
theorem dX7_open_60 : decode cX7_open 60 = .ok (.getfield 33, 3) := by decide +kernel
theorem dX7_open_63 : decode cX7_open 63 = .ok (.iconst 1, 1) := by decide +kernel
theorem dX7_open_64 : decode cX7_open 64 = .ok (.iadd, 1) := by decide +kernel
theorem dX7_open_65 : decode cX7_open 65 = .ok (.putfield 33, 3) := by decide +kernel
theorem dX7_open_68 : decode cX7_open 68 = .ok (.return_, 1) := by decide +kernel
theorem wk_111 : Cond.fieldLink RX7 9 "ThinLine$Text" "head" "[I" ∈ tl_L := List.mem_filter.mpr ⟨lw_m1 (i := 193) rfl, rfl⟩
theorem wk_114 : Cond.fieldLink RX7 21 "ThinLine$Text" "sumAt" "[I" ∈ tl_L := List.mem_filter.mpr ⟨lw_m1 (i := 203) rfl, rfl⟩
theorem wk_115 : Cond.fieldLink RX7 24 "ThinLine$Text" "testAt" "[I" ∈ tl_L := List.mem_filter.mpr ⟨lw_m1 (i := 205) rfl, rfl⟩
theorem wk_116 : Cond.fieldLink RX7 27 "ThinLine$Text" "endAt" "[I" ∈ tl_L := List.mem_filter.mpr ⟨lw_m1 (i := 209) rfl, rfl⟩
theorem dX7_clauseOf_0 : decode cX7_clauseOf 0 = .ok (.iconst 0, 1) := by decide +kernel
theorem dX7_clauseOf_1 : decode cX7_clauseOf 1 = .ok (.istore_n 2, 1) := by decide +kernel
theorem dX7_clauseOf_2 : decode cX7_clauseOf 2 = .ok (.iload_n 2, 1) := by decide +kernel
theorem dX7_clauseOf_3 : decode cX7_clauseOf 3 = .ok (.aload_n 0, 1) := by decide +kernel
theorem dX7_clauseOf_4 : decode cX7_clauseOf 4 = .ok (.getfield 33, 3) := by decide +kernel
theorem dX7_clauseOf_7 : decode cX7_clauseOf 7 = .ok (.if_icmp .ge 27, 3) := by decide +kernel
theorem dX7_clauseOf_10 : decode cX7_clauseOf 10 = .ok (.iload_n 2, 1) := by decide +kernel
theorem dX7_clauseOf_11 : decode cX7_clauseOf 11 = .ok (.bipush 12, 2) := by decide +kernel
theorem dX7_clauseOf_13 : decode cX7_clauseOf 13 = .ok (.if_icmp .ge 21, 3) := by decide +kernel
theorem dX7_clauseOf_16 : decode cX7_clauseOf 16 = .ok (.aload_n 0, 1) := by decide +kernel
theorem dX7_clauseOf_17 : decode cX7_clauseOf 17 = .ok (.getfield 9, 3) := by decide +kernel
theorem dX7_clauseOf_20 : decode cX7_clauseOf 20 = .ok (.iload_n 2, 1) := by decide +kernel
theorem dX7_clauseOf_21 : decode cX7_clauseOf 21 = .ok (.iaload, 1) := by decide +kernel
theorem dX7_clauseOf_22 : decode cX7_clauseOf 22 = .ok (.iload_n 1, 1) := by decide +kernel
theorem dX7_clauseOf_23 : decode cX7_clauseOf 23 = .ok (.if_icmp .ne 5, 3) := by decide +kernel
theorem dX7_clauseOf_26 : decode cX7_clauseOf 26 = .ok (.iload_n 2, 1) := by decide +kernel
theorem dX7_clauseOf_27 : decode cX7_clauseOf 27 = .ok (.ireturn, 1) := by decide +kernel
theorem dX7_clauseOf_28 : decode cX7_clauseOf 28 = .ok (.iinc 2 1, 3) := by decide +kernel
theorem dX7_clauseOf_31 : decode cX7_clauseOf 31 = .ok (.goto (-29), 3) := by decide +kernel
theorem dX7_clauseOf_34 : decode cX7_clauseOf 34 = .ok (.iconst (-1), 1) := by decide +kernel
theorem dX7_clauseOf_35 : decode cX7_clauseOf 35 = .ok (.ireturn, 1) := by decide +kernel
theorem dX7_firstOf_0 : decode cX7_firstOf 0 = .ok (.aload_n 0, 1) := by decide +kernel
theorem dX7_firstOf_1 : decode cX7_firstOf 1 = .ok (.iload_n 1, 1) := by decide +kernel
theorem dX7_firstOf_2 : decode cX7_firstOf 2 = .ok (.invokevirtual 40, 3) := by decide +kernel
theorem dX7_firstOf_5 : decode cX7_firstOf 5 = .ok (.istore_n 3, 1) := by decide +kernel
theorem dX7_firstOf_6 : decode cX7_firstOf 6 = .ok (.iload_n 3, 1) := by decide +kernel
theorem dX7_firstOf_7 : decode cX7_firstOf 7 = .ok (.ifCond .ge 7, 3) := by decide +kernel
theorem dX7_firstOf_10 : decode cX7_firstOf 10 = .ok (.iload_n 2, 1) := by decide +kernel
theorem dX7_firstOf_11 : decode cX7_firstOf 11 = .ok (.goto 9, 3) := by decide +kernel
theorem dX7_firstOf_14 : decode cX7_firstOf 14 = .ok (.aload_n 0, 1) := by decide +kernel
theorem dX7_firstOf_15 : decode cX7_firstOf 15 = .ok (.getfield 15, 3) := by decide +kernel
theorem dX7_firstOf_18 : decode cX7_firstOf 18 = .ok (.iload_n 3, 1) := by decide +kernel
theorem dX7_firstOf_19 : decode cX7_firstOf 19 = .ok (.iaload, 1) := by decide +kernel
theorem dX7_firstOf_20 : decode cX7_firstOf 20 = .ok (.ireturn, 1) := by decide +kernel
theorem wk_29 : Cond.initialized RX7 ∈ tl_L := List.mem_filter.mpr ⟨lw_m1 (i := 9) rfl, rfl⟩
theorem wk_112 : Cond.fieldLink RX7 15 "ThinLine$Text" "first" "[I" ∈ tl_L := List.mem_filter.mpr ⟨lw_m1 (i := 197) rfl, rfl⟩
theorem wk_482 : Cond.instanceMethod yX7_clauseOf ∈ tl_L := List.mem_filter.mpr ⟨lw_m3 (i := 198) rfl, rfl⟩
theorem wk_483 : Cond.selects RX7 yX7_clauseOf yX7_clauseOf ∈ tl_L := List.mem_filter.mpr ⟨lw_s2 (i := 6) (q := (yX7_clauseOf, 9)) rfl, rfl⟩
theorem wk_484 : Cond.code yX7_clauseOf cX7_clauseOf 3 (some .int) ∈ tl_L := List.mem_filter.mpr ⟨lw_m3 (i := 199) rfl, rfl⟩
theorem wk_709 : Cond.methodLink RX7 40 yX7_clauseOf ∈ tl_L := List.mem_filter.mpr ⟨lw_m4 (i := 32) rfl, rfl⟩
theorem lk_X7_40 : tl_kV RX7 40 RX7 yX7_clauseOf cX7_clauseOf 3 (some .int) 1 := ⟨wk_484, wk_709, wk_482, wk_483, wk_29, ⟨by decide +kernel, by decide +kernel, by decide +kernel⟩⟩
theorem dX7_secondOf_0 : decode cX7_secondOf 0 = .ok (.aload_n 0, 1) := by decide +kernel
theorem dX7_secondOf_1 : decode cX7_secondOf 1 = .ok (.iload_n 1, 1) := by decide +kernel
theorem dX7_secondOf_2 : decode cX7_secondOf 2 = .ok (.invokevirtual 40, 3) := by decide +kernel
theorem dX7_secondOf_5 : decode cX7_secondOf 5 = .ok (.istore_n 3, 1) := by decide +kernel
theorem dX7_secondOf_6 : decode cX7_secondOf 6 = .ok (.iload_n 3, 1) := by decide +kernel
theorem dX7_secondOf_7 : decode cX7_secondOf 7 = .ok (.ifCond .ge 7, 3) := by decide +kernel
theorem dX7_secondOf_10 : decode cX7_secondOf 10 = .ok (.iload_n 2, 1) := by decide +kernel
theorem dX7_secondOf_11 : decode cX7_secondOf 11 = .ok (.goto 9, 3) := by decide +kernel
theorem dX7_secondOf_14 : decode cX7_secondOf 14 = .ok (.aload_n 0, 1) := by decide +kernel
theorem dX7_secondOf_15 : decode cX7_secondOf 15 = .ok (.getfield 18, 3) := by decide +kernel
theorem dX7_secondOf_18 : decode cX7_secondOf 18 = .ok (.iload_n 3, 1) := by decide +kernel
theorem dX7_secondOf_19 : decode cX7_secondOf 19 = .ok (.iaload, 1) := by decide +kernel
theorem dX7_secondOf_20 : decode cX7_secondOf 20 = .ok (.ireturn, 1) := by decide +kernel
theorem wk_113 : Cond.fieldLink RX7 18 "ThinLine$Text" "second" "[I" ∈ tl_L := List.mem_filter.mpr ⟨lw_m1 (i := 200) rfl, rfl⟩
set_option maxHeartbeats 4000000 in
set_option maxRecDepth 100000 in
theorem t_X8_isFull (l : Launch) (D : va_G) (cy : Nat → ClassId) (sz : Nat) (L : List Nat) (K : Nat → tk_K) (Γ : tk_G) (f : Nat → va_E) (n : Nat) (o : Nat) (ho : tp_r L K 13 (n) 0 o) (hn : n ≤ 8) : Met l yX8_isFull (tl_w yX8_isFull cX8_isFull 1 (some .boolean)) ({ frames := 0, cells := 0, slots := 0, locals := 0 }) (va_Pc [.ref o] (tp_P D cy L K Γ f sz)) (vp_Si (fun r : Int32 => tl_J r (True))) 0 0 (fun _ => False) := by
  refine Met.ofW (cc := cX8_isFull) (maxL := 1) (ret := (some .boolean)) (by decide) rfl ?_
  intro p e s m args below meth c s₁ B hml hv
  obtain ⟨rfl, hsz, hP, hK, hL, hI, hN, hU⟩ := hv
  have hx := B.exec
  have hb := B.bytes
  have hr := B.returns
  have hta := tl_hta (atoms_spec (ws := tl_w yX8_isFull cX8_isFull 1 (some .boolean)) B.pre)
  have hown : s.vm.findClass RX8 = some m.cls := findClass_of_methodNamed B.named
  have hlocks := B.notSynchronized
  subst hsz
  have hI0 := hI
  have hl := lv_entry ([.ref o]) (n := 1) (Nat.le_of_ble_eq_true rfl)
  rw [lg_entry_eq]
  generalize (lg_sl ([.ref o]) ++ List.replicate (1 - (lg_sl ([.ref o])).length) Slot.unset).toArray = ls at hl ⊢
  have hl : lv_has ls 1 [(0, .ref o)] := hl
  refine lv_aload_n hx hb dX8_isFull_0 rfl (lv_at hl 0 rfl) ?_
  obtain ⟨x_2, x_3, hf_1, hx_2, hx_3⟩ := (show tp_o_TEXTS L K (n) 0 (Γ (13, n, 0)) (f o) from hI0.at ho)
  refine tp_get (cy := cy) (ci := 8) (v := .int x_3) (C := RX8) (T := TX8) (N := 2) hx hb hta inlX8 hown hK hP ho.1 hf_1 rfl 1 (by decide) (hta _ wk_371) (fun _ h9 => h9) rfl dX8_isFull_1 ?_
  refine lv_aload_n hx hb dX8_isFull_4 rfl (lv_at hl 0 rfl) ?_
  refine tp_get (cy := cy) (ci := 8) (v := .ref x_2) (C := RX8) (T := TX8) (N := 2) hx hb hta inlX8 hown hK hP ho.1 hf_1 rfl 0 (by decide) (hta _ wk_92) (fun _ h9 => h9) rfl dX8_isFull_5 ?_
  obtain ⟨g_5, hf_4, hg_6⟩ := (show tp_aq cy L K 5 18 (n) (f x_2) from hI0.at hx_2)
  refine tp_alen (cy := cy) (t0 := 5) (v := nI n) hx hb hK hP hx_2.1 rfl hf_4 rfl dX8_isFull_8 ?_
  refine lv_icmp_lt (tgt := 16) hx hb dX8_isFull_9 (by decide) (fun c_7 => ?_) (fun c_7 => ?_)
  · have c_7 : x_3.toInt < (nI n).toInt := tl_lt c_7
    refine lv_iconst (v := 0) hx hb dX8_isFull_16 (by decide) ?_
    exact W.zret (ty := .boolean) (v := 0) hx hb hr rfl (fun t ht hW => ⟨_, rfl, (Or.inr rfl), ht⟩) (fun q h => by cases h) dX8_isFull_17
  · have c_7 : (nI n).toInt ≤ x_3.toInt := tl_nlt c_7
    refine lv_iconst (v := 1) hx hb dX8_isFull_12 (by decide) ?_
    refine lv_goto (tgt := 17) hx hb dX8_isFull_13 (by decide) ?_
    exact W.zret (ty := .boolean) (v := 1) hx hb hr rfl (fun t ht hW => ⟨_, rfl, (Or.inl ⟨rfl, trivial⟩), ht⟩) (fun q h => by cases h) dX8_isFull_17
set_option maxHeartbeats 4000000 in
set_option maxRecDepth 100000 in
theorem t_X8_at (l : Launch) (D : va_G) (cy : Nat → ClassId) (sz : Nat) (L : List Nat) (K : Nat → tk_K) (Γ : tk_G) (f : Nat → va_E) (n : Nat) (o : Nat) (p0 : Int32) (ho : tp_r L K 13 (n) 0 o) (hn : n ≤ 8) : Met l yX8_at (tl_w yX8_at cX8_at 2 (some (.object "ThinLine$Text"))) ({ frames := 0, cells := 0, slots := 0, locals := 0 }) (va_Pc [.ref o, .int p0] (tp_P D cy L K Γ f sz)) (va_Sq (fun r : Option Nat => ∀ b, r = some b → tp_r L K 18 0 0 b)) 0 0 (fun _ => False) := by
  refine Met.ofW (cc := cX8_at) (maxL := 2) (ret := (some (.object "ThinLine$Text"))) (by decide) rfl ?_
  intro p e s m args below meth c s₁ B hml hv
  obtain ⟨rfl, hsz, hP, hK, hL, hI, hN, hU⟩ := hv
  have hx := B.exec
  have hb := B.bytes
  have hr := B.returns
  have hta := tl_hta (atoms_spec (ws := tl_w yX8_at cX8_at 2 (some (.object "ThinLine$Text"))) B.pre)
  have hown : s.vm.findClass RX8 = some m.cls := findClass_of_methodNamed B.named
  have hlocks := B.notSynchronized
  subst hsz
  have hI0 := hI
  have hl := lv_entry ([.ref o, .int p0]) (n := 2) (Nat.le_of_ble_eq_true rfl)
  rw [lg_entry_eq]
  generalize (lg_sl ([.ref o, .int p0]) ++ List.replicate (2 - (lg_sl ([.ref o, .int p0])).length) Slot.unset).toArray = ls at hl ⊢
  have hl : lv_has ls 2 [(0, .ref o), (1, .int p0)] := hl
  have hnn : (nI n).toInt = (n : Int) := nI_toInt (by omega)
  refine lv_iload_n hx hb dX8_at_0 rfl (lv_at hl 1 rfl) ?_
  refine lv_if_lt (tgt := 30) hx hb dX8_at_1 (by decide) (fun c_1 => ?_) (fun c_1 => ?_)
  · have c_1 : p0.toInt < (0 : Int) := tl_lt c_1
    refine lv_null hx hb dX8_at_30 ?_
    exact W.aret (v := .null) hx hb hr (Or.inl ⟨_, rfl⟩) (Or.inl rfl) (fun t ht hW => ⟨none, rfl, (fun _ h9 => by cases h9), ht⟩) (fun q h => by cases h) dX8_at_31
  · have c_1 : (0 : Int) ≤ p0.toInt := tl_nlt c_1
    refine lv_iload_n hx hb dX8_at_4 rfl (lv_at hl 1 rfl) ?_
    refine lv_aload_n hx hb dX8_at_5 rfl (lv_at hl 0 rfl) ?_
    obtain ⟨x_3, x_4, hf_2, hx_3, hx_4⟩ := (show tp_o_TEXTS L K (n) 0 (Γ (13, n, 0)) (f o) from hI0.at ho)
    refine tp_get (cy := cy) (ci := 8) (v := .int x_4) (C := RX8) (T := TX8) (N := 2) hx hb hta inlX8 hown hK hP ho.1 hf_2 rfl 1 (by decide) (hta _ wk_371) (fun _ h9 => h9) rfl dX8_at_6 ?_
    refine lv_icmp_ge (tgt := 30) hx hb dX8_at_9 (by decide) (fun c_5 => ?_) (fun c_5 => ?_)
    · have c_5 : x_4.toInt ≤ p0.toInt := tl_le c_5
      refine lv_null hx hb dX8_at_30 ?_
      exact W.aret (v := .null) hx hb hr (Or.inl ⟨_, rfl⟩) (Or.inl rfl) (fun t ht hW => ⟨none, rfl, (fun _ h9 => by cases h9), ht⟩) (fun q h => by cases h) dX8_at_31
    · have c_5 : p0.toInt < x_4.toInt := tl_nle c_5
      refine lv_iload_n hx hb dX8_at_12 rfl (lv_at hl 1 rfl) ?_
      refine lv_aload_n hx hb dX8_at_13 rfl (lv_at hl 0 rfl) ?_
      refine tp_get (cy := cy) (ci := 8) (v := .ref x_3) (C := RX8) (T := TX8) (N := 2) hx hb hta inlX8 hown hK hP ho.1 hf_2 rfl 0 (by decide) (hta _ wk_92) (fun _ h9 => h9) rfl dX8_at_14 ?_
      obtain ⟨g_7, hf_6, hg_8⟩ := (show tp_aq cy L K 5 18 (n) (f x_3) from hI0.at hx_3)
      refine tp_alen (cy := cy) (t0 := 5) (v := nI n) hx hb hK hP hx_3.1 rfl hf_6 rfl dX8_at_17 ?_
      refine lv_icmp_ge (tgt := 30) hx hb dX8_at_18 (by decide) (fun c_9 => ?_) (fun c_9 => ?_)
      · have c_9 : (nI n).toInt ≤ p0.toInt := tl_le c_9
        refine lv_null hx hb dX8_at_30 ?_
        exact W.aret (v := .null) hx hb hr (Or.inl ⟨_, rfl⟩) (Or.inl rfl) (fun t ht hW => ⟨none, rfl, (fun _ h9 => by cases h9), ht⟩) (fun q h => by cases h) dX8_at_31
      · have c_9 : p0.toInt < (nI n).toInt := tl_nle c_9
        refine lv_aload_n hx hb dX8_at_21 rfl (lv_at hl 0 rfl) ?_
        refine tp_get (cy := cy) (ci := 8) (v := .ref x_3) (C := RX8) (T := TX8) (N := 2) hx hb hta inlX8 hown hK hP ho.1 hf_2 rfl 0 (by decide) (hta _ wk_92) (fun _ h9 => h9) rfl dX8_at_22 ?_
        refine lv_iload_n hx hb dX8_at_25 rfl (lv_at hl 1 rfl) ?_
        have hn_10 : vp_in p0 (n) := tl_in (by omega) (by omega)
        refine tp_aldq (cy := cy) (t0 := 5) rfl hx hb hK hP hx_3.1 hf_6 hn_10 dX8_at_26 ?_
        cases q_11 : g_7 p0.toNatClampNeg with
        | none =>
          refine W.eq (g2 := F0 m 27 ls ([.null])) (by rfl) ?_
          refine lv_goto (tgt := 31) hx hb dX8_at_27 (by decide) ?_
          exact W.aret (v := .null) hx hb hr (Or.inl ⟨_, rfl⟩) (Or.inl rfl) (fun t ht hW => ⟨none, rfl, (fun _ h9 => by cases h9), ht⟩) (fun q h => by cases h) dX8_at_31
        | some b_12 =>
          have hb_12 := hg_8 _ (tp_pin hn_10) _ q_11
          refine W.eq (g2 := F0 m 27 ls ([.ref b_12])) (by rfl) ?_
          refine lv_goto (tgt := 31) hx hb dX8_at_27 (by decide) ?_
          exact W.aret (v := .ref b_12) hx hb hr (Or.inl ⟨_, rfl⟩) (Or.inr ⟨_, rfl⟩) (fun t ht hW => ⟨some b_12, rfl, (fun _ h9 => by cases h9; exact hb_12), ht⟩) (fun q h => by cases h) dX8_at_31
set_option maxHeartbeats 4000000 in
set_option maxRecDepth 100000 in
theorem t_X7_wipe (l : Launch) (D : va_G) (cy : Nat → ClassId) (sz : Nat) (L : List Nat) (K : Nat → tk_K) (Γ : tk_G) (f : Nat → va_E) (o : Nat) (ho : tp_r L K 18 (0) 0 o) : Met l yX7_wipe (tl_w yX7_wipe cX7_wipe 1 none) ({ frames := 0, cells := 0, slots := 0, locals := 0 }) (va_Pc [.ref o] (tp_P D cy L K Γ f sz)) (va_Qv (fun (u : Nat → va_E) => True) (tp_B D cy L K Γ f [18]) (tp_A L sz)) 0 0 (tp_A L sz) := by
  refine Met.ofW (cc := cX7_wipe) (maxL := 1) (ret := none) (by decide) rfl ?_
  intro p e s m args below meth c s₁ B hml hv
  obtain ⟨rfl, hsz, hP, hK, hL, hI, hN, hU⟩ := hv
  have hx := B.exec
  have hb := B.bytes
  have hr := B.returns
  have hta := tl_hta (atoms_spec (ws := tl_w yX7_wipe cX7_wipe 1 none) B.pre)
  have hown : s.vm.findClass RX7 = some m.cls := findClass_of_methodNamed B.named
  have hlocks := B.notSynchronized
  subst hsz
  have hI0 := hI
  generalize hAe : tp_A L s.heap.size = A
  have hA : ∀ q : Nat, s.heap.size ≤ q → A q := fun q h => by rw [← hAe]; exact Or.inr h
  have hAL : ∀ q ∈ L, A q := fun q h => by rw [← hAe]; exact Or.inl h
  have hAf : ∀ (H : Heap), s.heap.size ≤ H.size → ∀ q, tp_A L H.size q → A q := fun H h q hq => hq.elim (hAL q) (fun h2 => hA q (Nat.le_trans h h2))
  have hS : va_S A s.heap s.heap [] := va_S.rf
  have hD : va_D A (va_pl L f) := tp_D hL hAL
  have hfr : ∀ b, (K b).1 ∉ ([18] : List Nat) → f b = f b := fun _ _ => rfl
  have hl := lv_entry ([.ref o]) (n := 1) (Nat.le_of_ble_eq_true rfl)
  rw [lg_entry_eq]
  generalize (lg_sl ([.ref o]) ++ List.replicate (1 - (lg_sl ([.ref o])).length) Slot.unset).toArray = ls at hl ⊢
  have hl : lv_has ls 1 [(0, .ref o)] := hl
  refine lv_aload_n hx hb dX7_wipe_0 rfl (lv_at hl 0 rfl) ?_
  refine lv_iconst (v := 0) hx hb dX7_wipe_1 (by decide) ?_
  obtain ⟨x_2, x_3, x_4, x_5, x_6, x_7, x_8, x_9, x_10, hf_1, hx_2, hx_3, hx_4, hx_5, hx_6, hx_7, hx_8, hx_9, hx_10⟩ := (show tp_o_TEXT L K (0) 0 (Γ (18, 0, 0)) (f o) from hI.at ho)
  have hI9 : tp_I cy L K Γ (va_up f o (.inr (7, [.int 0, .ref x_3, .ref x_4, .ref x_5, .ref x_6, .ref x_7, .ref x_8, .ref x_9, .int x_10]))) := hI.set ho (show tp_o_TEXT L K (0) 0 (Γ (18, 0, 0)) _ from ⟨0, x_3, x_4, x_5, x_6, x_7, x_8, x_9, x_10, rfl, (show 0 ≤ (0 : Int) ∧ (0 : Int) ≤ 12 from by omega), hx_3, hx_4, hx_5, hx_6, hx_7, hx_8, hx_9, (show 0 ≤ x_10.toInt ∧ x_10.toInt ≤ 400 from by omega)⟩)
  have hfr9 : ∀ b, (K b).1 ∉ ([18] : List Nat) → va_up f o (.inr (7, [.int 0, .ref x_3, .ref x_4, .ref x_5, .ref x_6, .ref x_7, .ref x_8, .ref x_9, .int x_10])) b = f b := tp_fr hfr ho (by decide)
  refine tp_put (cy := cy) (ci := 7) (v := .int 0) (ty := tyX7 0) (C := RX7) (T := TX7) (N := 9) hx hb hta inlX7 tyX7 tyX7_ok nmX7 hown hK hP hD hS ho.1 hf_1 rfl 0 (by decide) (hta _ wk_375) (fun _ h9 => h9) rfl (tyX7_ok 0 (by decide)) rfl rfl (Nat.le_of_ble_eq_true rfl) dX7_wipe_2 (fun H locs hP hD hS => ?_)
  have hP : va_P D vwCl (va_pl L (va_up f o (.inr (7, [.int 0, .ref x_3, .ref x_4, .ref x_5, .ref x_6, .ref x_7, .ref x_8, .ref x_9, .int x_10])))) H := hP
  generalize hfe : va_up f o (.inr (7, [.int 0, .ref x_3, .ref x_4, .ref x_5, .ref x_6, .ref x_7, .ref x_8, .ref x_9, .int x_10])) = f_11 at hP hI9 hfr9
  have hD : va_D A (va_pl L f_11) := tp_D hL hAL
  have hf_12 : f_11 o = .inr (7, [.int 0, .ref x_3, .ref x_4, .ref x_5, .ref x_6, .ref x_7, .ref x_8, .ref x_9, .int x_10]) := by rw [← hfe]; exact va_up_self _ _ _
  clear hfe
  have hI := hI9
  have hfr := hfr9
  clear hI9 hfr9
  refine lv_aload_n hx hb dX7_wipe_5 rfl (lv_at hl 0 rfl) ?_
  refine lv_iconst (v := 0) hx hb dX7_wipe_6 (by decide) ?_
  have hI9 : tp_I cy L K Γ (va_up f_11 o (.inr (7, [.int 0, .ref x_3, .ref x_4, .ref x_5, .ref x_6, .ref x_7, .ref x_8, .ref x_9, .int 0]))) := hI.set ho (show tp_o_TEXT L K (0) 0 (Γ (18, 0, 0)) _ from ⟨0, x_3, x_4, x_5, x_6, x_7, x_8, x_9, 0, rfl, (show 0 ≤ (0 : Int) ∧ (0 : Int) ≤ 12 from by omega), hx_3, hx_4, hx_5, hx_6, hx_7, hx_8, hx_9, (show 0 ≤ (0 : Int) ∧ (0 : Int) ≤ 400 from by omega)⟩)
  have hfr9 : ∀ b, (K b).1 ∉ ([18] : List Nat) → va_up f_11 o (.inr (7, [.int 0, .ref x_3, .ref x_4, .ref x_5, .ref x_6, .ref x_7, .ref x_8, .ref x_9, .int 0])) b = f b := tp_fr hfr ho (by decide)
  refine tp_put (cy := cy) (ci := 7) (v := .int 0) (ty := tyX7 8) (C := RX7) (T := TX7) (N := 9) hx hb hta inlX7 tyX7 tyX7_ok nmX7 hown hK hP hD hS ho.1 hf_12 rfl 8 (by decide) (hta _ wk_376) (fun _ h9 => h9) rfl (tyX7_ok 8 (by decide)) rfl rfl (Nat.le_of_ble_eq_true rfl) dX7_wipe_7 (fun H locs hP hD hS => ?_)
  have hP : va_P D vwCl (va_pl L (va_up f_11 o (.inr (7, [.int 0, .ref x_3, .ref x_4, .ref x_5, .ref x_6, .ref x_7, .ref x_8, .ref x_9, .int 0])))) H := hP
  generalize hfe : va_up f_11 o (.inr (7, [.int 0, .ref x_3, .ref x_4, .ref x_5, .ref x_6, .ref x_7, .ref x_8, .ref x_9, .int 0])) = f_13 at hP hI9 hfr9
  have hD : va_D A (va_pl L f_13) := tp_D hL hAL
  have hf_14 : f_13 o = .inr (7, [.int 0, .ref x_3, .ref x_4, .ref x_5, .ref x_6, .ref x_7, .ref x_8, .ref x_9, .int 0]) := by rw [← hfe]; exact va_up_self _ _ _
  clear hfe
  have hI := hI9
  have hfr := hfr9
  clear hI9 hfr9
  exact W.vret hx hb hr (fun t ht hW => ⟨⟨f_13, rfl, trivial, by rw [ht]; exact hP, hI, hfr⟩, hS.F ht⟩) hS.2.2 dX7_wipe_10
set_option maxHeartbeats 4000000 in
set_option maxRecDepth 100000 in
theorem t_X7_step (l : Launch) (D : va_G) (cy : Nat → ClassId) (sz : Nat) (L : List Nat) (K : Nat → tk_K) (Γ : tk_G) (f : Nat → va_E) (o : Nat) (p0 : Int32) (p1 : Int32) (ho : tp_r L K 18 (0) 0 o) : Met l yX7_step (tl_w yX7_step cX7_step 3 none) ({ frames := 0, cells := 0, slots := 0, locals := 0 }) (va_Pc [.ref o, .int p0, .int p1] (tp_P D cy L K Γ f sz)) (va_Qv (fun (u : Nat → va_E) => True) (tp_B D cy L K Γ f [18, 21]) (tp_A L sz)) 0 0 (tp_A L sz) := by
  refine Met.ofW (cc := cX7_step) (maxL := 3) (ret := none) (by decide) rfl ?_
  intro p e s m args below meth c s₁ B hml hv
  obtain ⟨rfl, hsz, hP, hK, hL, hI, hN, hU⟩ := hv
  have hx := B.exec
  have hb := B.bytes
  have hr := B.returns
  have hta := tl_hta (atoms_spec (ws := tl_w yX7_step cX7_step 3 none) B.pre)
  have hown : s.vm.findClass RX7 = some m.cls := findClass_of_methodNamed B.named
  have hlocks := B.notSynchronized
  subst hsz
  have hI0 := hI
  generalize hAe : tp_A L s.heap.size = A
  have hA : ∀ q : Nat, s.heap.size ≤ q → A q := fun q h => by rw [← hAe]; exact Or.inr h
  have hAL : ∀ q ∈ L, A q := fun q h => by rw [← hAe]; exact Or.inl h
  have hAf : ∀ (H : Heap), s.heap.size ≤ H.size → ∀ q, tp_A L H.size q → A q := fun H h q hq => hq.elim (hAL q) (fun h2 => hA q (Nat.le_trans h h2))
  have hS : va_S A s.heap s.heap [] := va_S.rf
  have hD : va_D A (va_pl L f) := tp_D hL hAL
  have hfr : ∀ b, (K b).1 ∉ ([18, 21] : List Nat) → f b = f b := fun _ _ => rfl
  have hl := lv_entry ([.ref o, .int p0, .int p1]) (n := 3) (Nat.le_of_ble_eq_true rfl)
  rw [lg_entry_eq]
  generalize (lg_sl ([.ref o, .int p0, .int p1]) ++ List.replicate (3 - (lg_sl ([.ref o, .int p0, .int p1])).length) Slot.unset).toArray = ls at hl ⊢
  have hl : lv_has ls 3 [(0, .ref o), (1, .int p0), (2, .int p1)] := hl
  refine lv_aload_n hx hb dX7_step_0 rfl (lv_at hl 0 rfl) ?_
  obtain ⟨x_2, x_3, x_4, x_5, x_6, x_7, x_8, x_9, x_10, hf_1, hx_2, hx_3, hx_4, hx_5, hx_6, hx_7, hx_8, hx_9, hx_10⟩ := (show tp_o_TEXT L K (0) 0 (Γ (18, 0, 0)) (f o) from hI.at ho)
  refine tp_get (cy := cy) (ci := 7) (v := .int x_10) (C := RX7) (T := TX7) (N := 9) hx hb hta inlX7 hown hK hP ho.1 hf_1 rfl 8 (by decide) (hta _ wk_376) (fun _ h9 => h9) rfl dX7_step_1 ?_
  refine lv_aload_n hx hb dX7_step_4 rfl (lv_at hl 0 rfl) ?_
  refine tp_get (cy := cy) (ci := 7) (v := .ref x_9) (C := RX7) (T := TX7) (N := 9) hx hb hta inlX7 hown hK hP ho.1 hf_1 rfl 7 (by decide) (hta _ wk_117) (fun _ h9 => h9) rfl dX7_step_5 ?_
  obtain ⟨g_12, hf_11, hg_13⟩ := (show tp_ai cy 21 (400) (f x_9) from hI.at hx_9)
  refine tp_alen (cy := cy) (t0 := 0) (v := 400) hx hb hK hP hx_9.1 rfl hf_11 rfl dX7_step_8 ?_
  refine lv_icmp_ge (tgt := 37) hx hb dX7_step_9 (by decide) (fun c_14 => ?_) (fun c_14 => ?_)
  · have c_14 : (400 : Int) ≤ x_10.toInt := tl_le c_14
    exact W.vret hx hb hr (fun t ht hW => ⟨⟨f, rfl, trivial, by rw [ht]; exact hP, hI, hfr⟩, hS.F ht⟩) hS.2.2 dX7_step_37
  · have c_14 : x_10.toInt < (400 : Int) := tl_nle c_14
    refine lv_aload_n hx hb dX7_step_12 rfl (lv_at hl 0 rfl) ?_
    refine tp_get (cy := cy) (ci := 7) (v := .ref x_9) (C := RX7) (T := TX7) (N := 9) hx hb hta inlX7 hown hK hP ho.1 hf_1 rfl 7 (by decide) (hta _ wk_117) (fun _ h9 => h9) rfl dX7_step_13 ?_
    refine lv_aload_n hx hb dX7_step_16 rfl (lv_at hl 0 rfl) ?_
    refine tp_get (cy := cy) (ci := 7) (v := .int x_10) (C := RX7) (T := TX7) (N := 9) hx hb hta inlX7 hown hK hP ho.1 hf_1 rfl 8 (by decide) (hta _ wk_376) (fun _ h9 => h9) rfl dX7_step_17 ?_
    refine lv_iload_n hx hb dX7_step_20 rfl (lv_at hl 1 rfl) ?_
    refine lv_bipush (v := 16) hx hb dX7_step_21 (by decide) ?_
    refine lv_iload_n hx hb dX7_step_23 rfl (lv_at hl 2 rfl) ?_
    refine lv_imul hx hb dX7_step_24 ?_
    refine lv_topi (fun z_15 ez_15 => ?_)
    try have iz_15 : z_15.toInt = (16 : Int) * p1.toInt := by rw [ez_15]; exact tl_mulN 16 p1 rfl rfl (by omega) (by omega)
    refine lv_iadd hx hb dX7_step_25 ?_
    refine lv_topi (fun z_16 ez_16 => ?_)
    try have iz_16 : z_16.toInt = p0.toInt + z_15.toInt := by rw [ez_16]; exact tl_addN p0 z_15 rfl rfl (by omega) (by omega)
    have hn_17 : vp_in x_10 (400) := tl_in (by omega) (by omega)
    have hI9 : tp_I cy L K Γ (va_up f x_9 (.inl (cy 0, 400, .inl (upd g_12 x_10.toNatClampNeg z_16)))) := hI.set hx_9 (show tp_ai cy 21 (400) _ from ⟨_, rfl, tp_pi_upd hg_13 trivial⟩)
    have hfr9 : ∀ b, (K b).1 ∉ ([18, 21] : List Nat) → va_up f x_9 (.inl (cy 0, 400, .inl (upd g_12 x_10.toNatClampNeg z_16))) b = f b := tp_fr hfr hx_9 (by decide)
    refine tp_iast (cy := cy) hx hb hK hP hD hS hx_9.1 hf_11 hn_17 dX7_step_26 (fun H locs hP hD hS => ?_)
    have hP : va_P D vwCl (va_pl L (va_up f x_9 (.inl (cy 0, 400, .inl (upd g_12 x_10.toNatClampNeg z_16))))) H := hP
    generalize hfe : va_up f x_9 (.inl (cy 0, 400, .inl (upd g_12 x_10.toNatClampNeg z_16))) = f_18 at hP hI9 hfr9
    have hD : va_D A (va_pl L f_18) := tp_D hL hAL
    have hf_19 := (show f_18 o = _ from by rw [← hfe, va_up_ne _ _ (tp_ne ho hx_9 (by decide))]).trans hf_1
    have hf_20 : f_18 x_9 = .inl (cy 0, 400, .inl (upd g_12 x_10.toNatClampNeg z_16)) := by rw [← hfe]; exact va_up_self _ _ _
    clear hfe
    have hI := hI9
    have hfr := hfr9
    clear hI9 hfr9
    refine lv_aload_n hx hb dX7_step_27 rfl (lv_at hl 0 rfl) ?_
    refine lv_dup hx hb dX7_step_28 rfl ?_
    refine tp_get (cy := cy) (ci := 7) (v := .int x_10) (C := RX7) (T := TX7) (N := 9) hx hb hta inlX7 hown hK hP ho.1 hf_19 rfl 8 (by decide) (hta _ wk_376) (fun _ h9 => h9) rfl dX7_step_29 ?_
    refine lv_iconst (v := 1) hx hb dX7_step_32 (by decide) ?_
    refine lv_iadd hx hb dX7_step_33 ?_
    refine lv_topi (fun z_21 ez_21 => ?_)
    try have iz_21 : z_21.toInt = x_10.toInt + (1 : Int) := by rw [ez_21]; exact tl_addN x_10 1 rfl rfl (by omega) (by omega)
    have hI9 : tp_I cy L K Γ (va_up f_18 o (.inr (7, [.int x_2, .ref x_3, .ref x_4, .ref x_5, .ref x_6, .ref x_7, .ref x_8, .ref x_9, .int z_21]))) := hI.set ho (show tp_o_TEXT L K (0) 0 (Γ (18, 0, 0)) _ from ⟨x_2, x_3, x_4, x_5, x_6, x_7, x_8, x_9, z_21, rfl, (show 0 ≤ x_2.toInt ∧ x_2.toInt ≤ 12 from by omega), hx_3, hx_4, hx_5, hx_6, hx_7, hx_8, hx_9, (show 0 ≤ z_21.toInt ∧ z_21.toInt ≤ 400 from by omega)⟩)
    have hfr9 : ∀ b, (K b).1 ∉ ([18, 21] : List Nat) → va_up f_18 o (.inr (7, [.int x_2, .ref x_3, .ref x_4, .ref x_5, .ref x_6, .ref x_7, .ref x_8, .ref x_9, .int z_21])) b = f b := tp_fr hfr ho (by decide)
    refine tp_put (cy := cy) (ci := 7) (v := .int z_21) (ty := tyX7 8) (C := RX7) (T := TX7) (N := 9) hx hb hta inlX7 tyX7 tyX7_ok nmX7 hown hK hP hD hS ho.1 hf_19 rfl 8 (by decide) (hta _ wk_376) (fun _ h9 => h9) rfl (tyX7_ok 8 (by decide)) rfl rfl (Nat.le_of_ble_eq_true rfl) dX7_step_34 (fun H locs hP hD hS => ?_)
    have hP : va_P D vwCl (va_pl L (va_up f_18 o (.inr (7, [.int x_2, .ref x_3, .ref x_4, .ref x_5, .ref x_6, .ref x_7, .ref x_8, .ref x_9, .int z_21])))) H := hP
    generalize hfe : va_up f_18 o (.inr (7, [.int x_2, .ref x_3, .ref x_4, .ref x_5, .ref x_6, .ref x_7, .ref x_8, .ref x_9, .int z_21])) = f_22 at hP hI9 hfr9
    have hD : va_D A (va_pl L f_22) := tp_D hL hAL
    have hf_23 : f_22 o = .inr (7, [.int x_2, .ref x_3, .ref x_4, .ref x_5, .ref x_6, .ref x_7, .ref x_8, .ref x_9, .int z_21]) := by rw [← hfe]; exact va_up_self _ _ _
    clear hfe
    have hI := hI9
    have hfr := hfr9
    clear hI9 hfr9
    exact W.vret hx hb hr (fun t ht hW => ⟨⟨f_22, rfl, trivial, by rw [ht]; exact hP, hI, hfr⟩, hS.F ht⟩) hS.2.2 dX7_step_37
set_option maxHeartbeats 4000000 in
set_option maxRecDepth 100000 in
theorem t_X7_open (l : Launch) (D : va_G) (cy : Nat → ClassId) (sz : Nat) (L : List Nat) (K : Nat → tk_K) (Γ : tk_G) (f : Nat → va_E) (o : Nat) (p0 : Int32) (ho : tp_r L K 18 (0) 0 o) : Met l yX7_open (tl_w yX7_open cX7_open 2 none) ({ frames := 0, cells := 0, slots := 0, locals := 0 }) (va_Pc [.ref o, .int p0] (tp_P D cy L K Γ f sz)) (va_Qv (fun (u : Nat → va_E) => True) (tp_B D cy L K Γ f [18, 20]) (tp_A L sz)) 0 0 (tp_A L sz) := by
  refine Met.ofW (cc := cX7_open) (maxL := 2) (ret := none) (by decide) rfl ?_
  intro p e s m args below meth c s₁ B hml hv
  obtain ⟨rfl, hsz, hP, hK, hL, hI, hN, hU⟩ := hv
  have hx := B.exec
  have hb := B.bytes
  have hr := B.returns
  have hta := tl_hta (atoms_spec (ws := tl_w yX7_open cX7_open 2 none) B.pre)
  have hown : s.vm.findClass RX7 = some m.cls := findClass_of_methodNamed B.named
  have hlocks := B.notSynchronized
  subst hsz
  have hI0 := hI
  generalize hAe : tp_A L s.heap.size = A
  have hA : ∀ q : Nat, s.heap.size ≤ q → A q := fun q h => by rw [← hAe]; exact Or.inr h
  have hAL : ∀ q ∈ L, A q := fun q h => by rw [← hAe]; exact Or.inl h
  have hAf : ∀ (H : Heap), s.heap.size ≤ H.size → ∀ q, tp_A L H.size q → A q := fun H h q hq => hq.elim (hAL q) (fun h2 => hA q (Nat.le_trans h h2))
  have hS : va_S A s.heap s.heap [] := va_S.rf
  have hD : va_D A (va_pl L f) := tp_D hL hAL
  have hfr : ∀ b, (K b).1 ∉ ([18, 20] : List Nat) → f b = f b := fun _ _ => rfl
  have hl := lv_entry ([.ref o, .int p0]) (n := 2) (Nat.le_of_ble_eq_true rfl)
  rw [lg_entry_eq]
  generalize (lg_sl ([.ref o, .int p0]) ++ List.replicate (2 - (lg_sl ([.ref o, .int p0])).length) Slot.unset).toArray = ls at hl ⊢
  have hl : lv_has ls 2 [(0, .ref o), (1, .int p0)] := hl
  refine lv_aload_n hx hb dX7_open_0 rfl (lv_at hl 0 rfl) ?_
  obtain ⟨x_2, x_3, x_4, x_5, x_6, x_7, x_8, x_9, x_10, hf_1, hx_2, hx_3, hx_4, hx_5, hx_6, hx_7, hx_8, hx_9, hx_10⟩ := (show tp_o_TEXT L K (0) 0 (Γ (18, 0, 0)) (f o) from hI.at ho)
  refine tp_get (cy := cy) (ci := 7) (v := .int x_2) (C := RX7) (T := TX7) (N := 9) hx hb hta inlX7 hown hK hP ho.1 hf_1 rfl 0 (by decide) (hta _ wk_375) (fun _ h9 => h9) rfl dX7_open_1 ?_
  refine lv_bipush (v := 12) hx hb dX7_open_4 (by decide) ?_
  refine lv_icmp_ge (tgt := 68) hx hb dX7_open_6 (by decide) (fun c_11 => ?_) (fun c_11 => ?_)
  · have c_11 : (12 : Int) ≤ x_2.toInt := tl_le c_11
    exact W.vret hx hb hr (fun t ht hW => ⟨⟨f, rfl, trivial, by rw [ht]; exact hP, hI, hfr⟩, hS.F ht⟩) hS.2.2 dX7_open_68
  · have c_11 : x_2.toInt < (12 : Int) := tl_nle c_11
    refine lv_aload_n hx hb dX7_open_9 rfl (lv_at hl 0 rfl) ?_
    refine tp_get (cy := cy) (ci := 7) (v := .ref x_3) (C := RX7) (T := TX7) (N := 9) hx hb hta inlX7 hown hK hP ho.1 hf_1 rfl 1 (by decide) (hta _ wk_111) (fun _ h9 => h9) rfl dX7_open_10 ?_
    refine lv_aload_n hx hb dX7_open_13 rfl (lv_at hl 0 rfl) ?_
    refine tp_get (cy := cy) (ci := 7) (v := .int x_2) (C := RX7) (T := TX7) (N := 9) hx hb hta inlX7 hown hK hP ho.1 hf_1 rfl 0 (by decide) (hta _ wk_375) (fun _ h9 => h9) rfl dX7_open_14 ?_
    refine lv_iload_n hx hb dX7_open_17 rfl (lv_at hl 1 rfl) ?_
    obtain ⟨g_13, hf_12, hg_14⟩ := (show tp_ai cy 20 (12) (f x_3) from hI.at hx_3)
    have hn_15 : vp_in x_2 (12) := tl_in (by omega) (by omega)
    have hI9 : tp_I cy L K Γ (va_up f x_3 (.inl (cy 0, 12, .inl (upd g_13 x_2.toNatClampNeg p0)))) := hI.set hx_3 (show tp_ai cy 20 (12) _ from ⟨_, rfl, tp_pi_upd hg_14 trivial⟩)
    have hfr9 : ∀ b, (K b).1 ∉ ([18, 20] : List Nat) → va_up f x_3 (.inl (cy 0, 12, .inl (upd g_13 x_2.toNatClampNeg p0))) b = f b := tp_fr hfr hx_3 (by decide)
    refine tp_iast (cy := cy) hx hb hK hP hD hS hx_3.1 hf_12 hn_15 dX7_open_18 (fun H locs hP hD hS => ?_)
    have hP : va_P D vwCl (va_pl L (va_up f x_3 (.inl (cy 0, 12, .inl (upd g_13 x_2.toNatClampNeg p0))))) H := hP
    generalize hfe : va_up f x_3 (.inl (cy 0, 12, .inl (upd g_13 x_2.toNatClampNeg p0))) = f_16 at hP hI9 hfr9
    have hD : va_D A (va_pl L f_16) := tp_D hL hAL
    have hf_17 := (show f_16 o = _ from by rw [← hfe, va_up_ne _ _ (tp_ne ho hx_3 (by decide))]).trans hf_1
    have hf_18 : f_16 x_3 = .inl (cy 0, 12, .inl (upd g_13 x_2.toNatClampNeg p0)) := by rw [← hfe]; exact va_up_self _ _ _
    clear hfe
    have hI := hI9
    have hfr := hfr9
    clear hI9 hfr9
    refine lv_aload_n hx hb dX7_open_19 rfl (lv_at hl 0 rfl) ?_
    refine tp_get (cy := cy) (ci := 7) (v := .ref x_6) (C := RX7) (T := TX7) (N := 9) hx hb hta inlX7 hown hK hP ho.1 hf_17 rfl 4 (by decide) (hta _ wk_114) (fun _ h9 => h9) rfl dX7_open_20 ?_
    refine lv_aload_n hx hb dX7_open_23 rfl (lv_at hl 0 rfl) ?_
    refine tp_get (cy := cy) (ci := 7) (v := .int x_2) (C := RX7) (T := TX7) (N := 9) hx hb hta inlX7 hown hK hP ho.1 hf_17 rfl 0 (by decide) (hta _ wk_375) (fun _ h9 => h9) rfl dX7_open_24 ?_
    refine lv_aload_n hx hb dX7_open_27 rfl (lv_at hl 0 rfl) ?_
    refine tp_get (cy := cy) (ci := 7) (v := .int x_10) (C := RX7) (T := TX7) (N := 9) hx hb hta inlX7 hown hK hP ho.1 hf_17 rfl 8 (by decide) (hta _ wk_376) (fun _ h9 => h9) rfl dX7_open_28 ?_
    obtain ⟨g_20, hf_19, hg_21⟩ := (show tp_ai cy 20 (12) (f_16 x_6) from hI.at hx_6)
    have hn_22 : vp_in x_2 (12) := tl_in (by omega) (by omega)
    have hI9 : tp_I cy L K Γ (va_up f_16 x_6 (.inl (cy 0, 12, .inl (upd g_20 x_2.toNatClampNeg x_10)))) := hI.set hx_6 (show tp_ai cy 20 (12) _ from ⟨_, rfl, tp_pi_upd hg_21 trivial⟩)
    have hfr9 : ∀ b, (K b).1 ∉ ([18, 20] : List Nat) → va_up f_16 x_6 (.inl (cy 0, 12, .inl (upd g_20 x_2.toNatClampNeg x_10))) b = f b := tp_fr hfr hx_6 (by decide)
    refine tp_iast (cy := cy) hx hb hK hP hD hS hx_6.1 hf_19 hn_22 dX7_open_31 (fun H locs hP hD hS => ?_)
    have hP : va_P D vwCl (va_pl L (va_up f_16 x_6 (.inl (cy 0, 12, .inl (upd g_20 x_2.toNatClampNeg x_10))))) H := hP
    generalize hfe : va_up f_16 x_6 (.inl (cy 0, 12, .inl (upd g_20 x_2.toNatClampNeg x_10))) = f_23 at hP hI9 hfr9
    have hD : va_D A (va_pl L f_23) := tp_D hL hAL
    have hf_24 := (show f_23 o = _ from by rw [← hfe, va_up_ne _ _ (tp_ne ho hx_6 (by decide))]).trans hf_17
    have hf_25 : f_23 x_6 = .inl (cy 0, 12, .inl (upd g_20 x_2.toNatClampNeg x_10)) := by rw [← hfe]; exact va_up_self _ _ _
    clear hfe
    have hI := hI9
    have hfr := hfr9
    clear hI9 hfr9
    refine lv_aload_n hx hb dX7_open_32 rfl (lv_at hl 0 rfl) ?_
    refine tp_get (cy := cy) (ci := 7) (v := .ref x_7) (C := RX7) (T := TX7) (N := 9) hx hb hta inlX7 hown hK hP ho.1 hf_24 rfl 5 (by decide) (hta _ wk_115) (fun _ h9 => h9) rfl dX7_open_33 ?_
    refine lv_aload_n hx hb dX7_open_36 rfl (lv_at hl 0 rfl) ?_
    refine tp_get (cy := cy) (ci := 7) (v := .int x_2) (C := RX7) (T := TX7) (N := 9) hx hb hta inlX7 hown hK hP ho.1 hf_24 rfl 0 (by decide) (hta _ wk_375) (fun _ h9 => h9) rfl dX7_open_37 ?_
    refine lv_aload_n hx hb dX7_open_40 rfl (lv_at hl 0 rfl) ?_
    refine tp_get (cy := cy) (ci := 7) (v := .int x_10) (C := RX7) (T := TX7) (N := 9) hx hb hta inlX7 hown hK hP ho.1 hf_24 rfl 8 (by decide) (hta _ wk_376) (fun _ h9 => h9) rfl dX7_open_41 ?_
    obtain ⟨g_27, hf_26, hg_28⟩ := (show tp_ai cy 20 (12) (f_23 x_7) from hI.at hx_7)
    have hn_29 : vp_in x_2 (12) := tl_in (by omega) (by omega)
    have hI9 : tp_I cy L K Γ (va_up f_23 x_7 (.inl (cy 0, 12, .inl (upd g_27 x_2.toNatClampNeg x_10)))) := hI.set hx_7 (show tp_ai cy 20 (12) _ from ⟨_, rfl, tp_pi_upd hg_28 trivial⟩)
    have hfr9 : ∀ b, (K b).1 ∉ ([18, 20] : List Nat) → va_up f_23 x_7 (.inl (cy 0, 12, .inl (upd g_27 x_2.toNatClampNeg x_10))) b = f b := tp_fr hfr hx_7 (by decide)
    refine tp_iast (cy := cy) hx hb hK hP hD hS hx_7.1 hf_26 hn_29 dX7_open_44 (fun H locs hP hD hS => ?_)
    have hP : va_P D vwCl (va_pl L (va_up f_23 x_7 (.inl (cy 0, 12, .inl (upd g_27 x_2.toNatClampNeg x_10))))) H := hP
    generalize hfe : va_up f_23 x_7 (.inl (cy 0, 12, .inl (upd g_27 x_2.toNatClampNeg x_10))) = f_30 at hP hI9 hfr9
    have hD : va_D A (va_pl L f_30) := tp_D hL hAL
    have hf_31 := (show f_30 o = _ from by rw [← hfe, va_up_ne _ _ (tp_ne ho hx_7 (by decide))]).trans hf_24
    have hf_32 : f_30 x_7 = .inl (cy 0, 12, .inl (upd g_27 x_2.toNatClampNeg x_10)) := by rw [← hfe]; exact va_up_self _ _ _
    clear hfe
    have hI := hI9
    have hfr := hfr9
    clear hI9 hfr9
    refine lv_aload_n hx hb dX7_open_45 rfl (lv_at hl 0 rfl) ?_
    refine tp_get (cy := cy) (ci := 7) (v := .ref x_8) (C := RX7) (T := TX7) (N := 9) hx hb hta inlX7 hown hK hP ho.1 hf_31 rfl 6 (by decide) (hta _ wk_116) (fun _ h9 => h9) rfl dX7_open_46 ?_
    refine lv_aload_n hx hb dX7_open_49 rfl (lv_at hl 0 rfl) ?_
    refine tp_get (cy := cy) (ci := 7) (v := .int x_2) (C := RX7) (T := TX7) (N := 9) hx hb hta inlX7 hown hK hP ho.1 hf_31 rfl 0 (by decide) (hta _ wk_375) (fun _ h9 => h9) rfl dX7_open_50 ?_
    refine lv_aload_n hx hb dX7_open_53 rfl (lv_at hl 0 rfl) ?_
    refine tp_get (cy := cy) (ci := 7) (v := .int x_10) (C := RX7) (T := TX7) (N := 9) hx hb hta inlX7 hown hK hP ho.1 hf_31 rfl 8 (by decide) (hta _ wk_376) (fun _ h9 => h9) rfl dX7_open_54 ?_
    obtain ⟨g_34, hf_33, hg_35⟩ := (show tp_ai cy 20 (12) (f_30 x_8) from hI.at hx_8)
    have hn_36 : vp_in x_2 (12) := tl_in (by omega) (by omega)
    have hI9 : tp_I cy L K Γ (va_up f_30 x_8 (.inl (cy 0, 12, .inl (upd g_34 x_2.toNatClampNeg x_10)))) := hI.set hx_8 (show tp_ai cy 20 (12) _ from ⟨_, rfl, tp_pi_upd hg_35 trivial⟩)
    have hfr9 : ∀ b, (K b).1 ∉ ([18, 20] : List Nat) → va_up f_30 x_8 (.inl (cy 0, 12, .inl (upd g_34 x_2.toNatClampNeg x_10))) b = f b := tp_fr hfr hx_8 (by decide)
    refine tp_iast (cy := cy) hx hb hK hP hD hS hx_8.1 hf_33 hn_36 dX7_open_57 (fun H locs hP hD hS => ?_)
    have hP : va_P D vwCl (va_pl L (va_up f_30 x_8 (.inl (cy 0, 12, .inl (upd g_34 x_2.toNatClampNeg x_10))))) H := hP
    generalize hfe : va_up f_30 x_8 (.inl (cy 0, 12, .inl (upd g_34 x_2.toNatClampNeg x_10))) = f_37 at hP hI9 hfr9
    have hD : va_D A (va_pl L f_37) := tp_D hL hAL
    have hf_38 := (show f_37 o = _ from by rw [← hfe, va_up_ne _ _ (tp_ne ho hx_8 (by decide))]).trans hf_31
    have hf_39 : f_37 x_8 = .inl (cy 0, 12, .inl (upd g_34 x_2.toNatClampNeg x_10)) := by rw [← hfe]; exact va_up_self _ _ _
    clear hfe
    have hI := hI9
    have hfr := hfr9
    clear hI9 hfr9
    refine lv_aload_n hx hb dX7_open_58 rfl (lv_at hl 0 rfl) ?_
    refine lv_dup hx hb dX7_open_59 rfl ?_
    refine tp_get (cy := cy) (ci := 7) (v := .int x_2) (C := RX7) (T := TX7) (N := 9) hx hb hta inlX7 hown hK hP ho.1 hf_38 rfl 0 (by decide) (hta _ wk_375) (fun _ h9 => h9) rfl dX7_open_60 ?_
    refine lv_iconst (v := 1) hx hb dX7_open_63 (by decide) ?_
    refine lv_iadd hx hb dX7_open_64 ?_
    refine lv_topi (fun z_40 ez_40 => ?_)
    try have iz_40 : z_40.toInt = x_2.toInt + (1 : Int) := by rw [ez_40]; exact tl_addN x_2 1 rfl rfl (by omega) (by omega)
    have hI9 : tp_I cy L K Γ (va_up f_37 o (.inr (7, [.int z_40, .ref x_3, .ref x_4, .ref x_5, .ref x_6, .ref x_7, .ref x_8, .ref x_9, .int x_10]))) := hI.set ho (show tp_o_TEXT L K (0) 0 (Γ (18, 0, 0)) _ from ⟨z_40, x_3, x_4, x_5, x_6, x_7, x_8, x_9, x_10, rfl, (show 0 ≤ z_40.toInt ∧ z_40.toInt ≤ 12 from by omega), hx_3, hx_4, hx_5, hx_6, hx_7, hx_8, hx_9, (show 0 ≤ x_10.toInt ∧ x_10.toInt ≤ 400 from by omega)⟩)
    have hfr9 : ∀ b, (K b).1 ∉ ([18, 20] : List Nat) → va_up f_37 o (.inr (7, [.int z_40, .ref x_3, .ref x_4, .ref x_5, .ref x_6, .ref x_7, .ref x_8, .ref x_9, .int x_10])) b = f b := tp_fr hfr ho (by decide)
    refine tp_put (cy := cy) (ci := 7) (v := .int z_40) (ty := tyX7 0) (C := RX7) (T := TX7) (N := 9) hx hb hta inlX7 tyX7 tyX7_ok nmX7 hown hK hP hD hS ho.1 hf_38 rfl 0 (by decide) (hta _ wk_375) (fun _ h9 => h9) rfl (tyX7_ok 0 (by decide)) rfl rfl (Nat.le_of_ble_eq_true rfl) dX7_open_65 (fun H locs hP hD hS => ?_)
    have hP : va_P D vwCl (va_pl L (va_up f_37 o (.inr (7, [.int z_40, .ref x_3, .ref x_4, .ref x_5, .ref x_6, .ref x_7, .ref x_8, .ref x_9, .int x_10])))) H := hP
    generalize hfe : va_up f_37 o (.inr (7, [.int z_40, .ref x_3, .ref x_4, .ref x_5, .ref x_6, .ref x_7, .ref x_8, .ref x_9, .int x_10])) = f_41 at hP hI9 hfr9
    have hD : va_D A (va_pl L f_41) := tp_D hL hAL
    have hf_42 : f_41 o = .inr (7, [.int z_40, .ref x_3, .ref x_4, .ref x_5, .ref x_6, .ref x_7, .ref x_8, .ref x_9, .int x_10]) := by rw [← hfe]; exact va_up_self _ _ _
    clear hfe
    have hI := hI9
    have hfr := hfr9
    clear hI9 hfr9
    exact W.vret hx hb hr (fun t ht hW => ⟨⟨f_41, rfl, trivial, by rw [ht]; exact hP, hI, hfr⟩, hS.F ht⟩) hS.2.2 dX7_open_68
set_option maxHeartbeats 4000000 in
set_option maxRecDepth 100000 in
theorem t_X7_clauseOf (l : Launch) (D : va_G) (cy : Nat → ClassId) (sz : Nat) (L : List Nat) (K : Nat → tk_K) (Γ : tk_G) (f : Nat → va_E) (o : Nat) (p0 : Int32) (ho : tp_r L K 18 (0) 0 o) : Met l yX7_clauseOf (tl_w yX7_clauseOf cX7_clauseOf 3 (some .int)) ({ frames := 0, cells := 0, slots := 0, locals := 0 }) (va_Pc [.ref o, .int p0] (tp_P D cy L K Γ f sz)) (vp_Si (fun r : Int32 => -1 ≤ r.toInt ∧ r.toInt ≤ 11)) 0 0 (fun _ => False) := by
  refine Met.ofW (cc := cX7_clauseOf) (maxL := 3) (ret := (some .int)) (by decide) rfl ?_
  intro p e s m args below meth c s₁ B hml hv
  obtain ⟨rfl, hsz, hP, hK, hL, hI, hN, hU⟩ := hv
  have hx := B.exec
  have hb := B.bytes
  have hr := B.returns
  have hta := tl_hta (atoms_spec (ws := tl_w yX7_clauseOf cX7_clauseOf 3 (some .int)) B.pre)
  have hown : s.vm.findClass RX7 = some m.cls := findClass_of_methodNamed B.named
  have hlocks := B.notSynchronized
  subst hsz
  have hI0 := hI
  have hl := lv_entry ([.ref o, .int p0]) (n := 3) (Nat.le_of_ble_eq_true rfl)
  rw [lg_entry_eq]
  generalize (lg_sl ([.ref o, .int p0]) ++ List.replicate (3 - (lg_sl ([.ref o, .int p0])).length) Slot.unset).toArray = ls at hl ⊢
  have hl : lv_has ls 3 [(0, .ref o), (1, .int p0)] := hl
  refine lv_iconst (v := 0) hx hb dX7_clauseOf_0 (by decide) ?_
  refine lv_istore_n (lv' := [(2, .int 0), (0, .ref o), (1, .int p0)]) hx hb dX7_clauseOf_1 rfl hl (by decide) rfl (fun ls hl => ?_)
  refine tl_indR (G := fun ls => W p l e ((headSpec (tl_w yX7_clauseOf cX7_clauseOf 3 (some .int)) ({ frames := 0, cells := 0, slots := 0, locals := 0 })).room) s m #[.ref o, .int p0] below meth c s.heap [] 0 0 (MQ below (vp_Si (fun r : Int32 => -1 ≤ r.toInt ∧ r.toInt ≤ 11)) #[.ref o, .int p0] s 0 0 (fun _ => False)) (F0 m 2 ls [])) (α := Int32) (fun aq => (12 - aq.toInt).toNat) (fun aq ls => (0 ≤ aq.toInt) ∧ (aq.toInt ≤ 12) ∧ lv_has ls 3 [(2, .int aq), (0, .ref o), (1, .int p0)]) ?_ (0 : Int32) ls ⟨(show 0 ≤ (0 : Int) from (by omega)), (show (0 : Int) ≤ 12 from (by omega)), lv_sub hl [0, 1, 2] rfl⟩
  rintro v2 ls ⟨h0, h1, hl⟩ ih2
  have h0 : 0 ≤ v2.toInt := h0
  have h1 : v2.toInt ≤ 12 := h1
  have hl : lv_has ls 3 [(2, .int v2), (0, .ref o), (1, .int p0)] := hl
  refine lv_iload_n hx hb dX7_clauseOf_2 rfl (lv_at hl 0 rfl) ?_
  refine lv_aload_n hx hb dX7_clauseOf_3 rfl (lv_at hl 1 rfl) ?_
  obtain ⟨x_2, x_3, x_4, x_5, x_6, x_7, x_8, x_9, x_10, hf_1, hx_2, hx_3, hx_4, hx_5, hx_6, hx_7, hx_8, hx_9, hx_10⟩ := (show tp_o_TEXT L K (0) 0 (Γ (18, 0, 0)) (f o) from hI0.at ho)
  refine tp_get (cy := cy) (ci := 7) (v := .int x_2) (C := RX7) (T := TX7) (N := 9) hx hb hta inlX7 hown hK hP ho.1 hf_1 rfl 0 (by decide) (hta _ wk_375) (fun _ h9 => h9) rfl dX7_clauseOf_4 ?_
  refine lv_icmp_ge (tgt := 34) hx hb dX7_clauseOf_7 (by decide) (fun c_11 => ?_) (fun c_11 => ?_)
  · have c_11 : x_2.toInt ≤ v2.toInt := tl_le c_11
    refine lv_iconst (v := (-1)) hx hb dX7_clauseOf_34 (by decide) ?_
    exact W.iret (v := (-1)) hx hb hr (fun t ht hW => ⟨_, rfl, (by first | trivial | omega | exact Or.inr rfl | exact Or.inl (by omega) | decide), ht⟩) (fun q h => by cases h) dX7_clauseOf_35
  · have c_11 : v2.toInt < x_2.toInt := tl_nle c_11
    refine lv_iload_n hx hb dX7_clauseOf_10 rfl (lv_at hl 0 rfl) ?_
    refine lv_bipush (v := 12) hx hb dX7_clauseOf_11 (by decide) ?_
    refine lv_icmp_ge (tgt := 34) hx hb dX7_clauseOf_13 (by decide) (fun c_12 => ?_) (fun c_12 => ?_)
    · have c_12 : (12 : Int) ≤ v2.toInt := tl_le c_12
      refine lv_iconst (v := (-1)) hx hb dX7_clauseOf_34 (by decide) ?_
      exact W.iret (v := (-1)) hx hb hr (fun t ht hW => ⟨_, rfl, (by first | trivial | omega | exact Or.inr rfl | exact Or.inl (by omega) | decide), ht⟩) (fun q h => by cases h) dX7_clauseOf_35
    · have c_12 : v2.toInt < (12 : Int) := tl_nle c_12
      refine lv_aload_n hx hb dX7_clauseOf_16 rfl (lv_at hl 1 rfl) ?_
      refine tp_get (cy := cy) (ci := 7) (v := .ref x_3) (C := RX7) (T := TX7) (N := 9) hx hb hta inlX7 hown hK hP ho.1 hf_1 rfl 1 (by decide) (hta _ wk_111) (fun _ h9 => h9) rfl dX7_clauseOf_17 ?_
      refine lv_iload_n hx hb dX7_clauseOf_20 rfl (lv_at hl 0 rfl) ?_
      obtain ⟨g_14, hf_13, hg_15⟩ := (show tp_ai cy 20 (12) (f x_3) from hI0.at hx_3)
      have hn_16 : vp_in v2 (12) := tl_in (by omega) (by omega)
      refine tp_iald (cy := cy) hx hb hK hP hx_3.1 hf_13 hn_16 dX7_clauseOf_21 ?_
      refine lv_topi (fun z_17 ez_17 => ?_)
      refine lv_iload_n hx hb dX7_clauseOf_22 rfl (lv_at hl 2 rfl) ?_
      refine lv_icmp_ne (tgt := 28) hx hb dX7_clauseOf_23 (by decide) (fun c_18 => ?_) (fun c_18 => ?_)
      · have c_18 : ¬ z_17.toInt = p0.toInt := tl_neq c_18
        obtain ⟨z_19, ez_19⟩ : ∃ y : Int32, y = v2 + 1 := ⟨_, rfl⟩
        refine lv_iinc (v := z_19) (lv' := [(2, .int z_19), (0, .ref o), (1, .int p0)]) hx hb dX7_clauseOf_28 hl (k := 0) rfl (by rw [ez_19]; rfl) (by decide) rfl (fun ls hl => ?_)
        try have iz_19 : z_19.toInt = v2.toInt + 1 := by rw [ez_19]; exact tl_addL v2 1 (by decide) (by omega) (by omega)
        refine lv_goto (tgt := 2) hx hb dX7_clauseOf_31 (by decide) ?_
        exact ih2 z_19 ls (by show (12 - z_19.toInt).toNat < (12 - v2.toInt).toNat; omega) ⟨(show 0 ≤ z_19.toInt from (by omega)), (show z_19.toInt ≤ 12 from (by omega)), lv_sub hl [0, 1, 2] rfl⟩
      · have c_18 : z_17.toInt = p0.toInt := tl_eq c_18
        refine lv_iload_n hx hb dX7_clauseOf_26 rfl (lv_at hl 0 rfl) ?_
        exact W.iret (v := v2) hx hb hr (fun t ht hW => ⟨_, rfl, (by first | trivial | omega | exact Or.inr rfl | exact Or.inl (by omega) | decide), ht⟩) (fun q h => by cases h) dX7_clauseOf_27
set_option maxHeartbeats 4000000 in
set_option maxRecDepth 100000 in
theorem t_X7_firstOf (l : Launch) (D : va_G) (cy : Nat → ClassId) (sz : Nat) (L : List Nat) (K : Nat → tk_K) (Γ : tk_G) (f : Nat → va_E) (o : Nat) (p0 : Int32) (p1 : Int32) (ho : tp_r L K 18 (0) 0 o) : Met l yX7_firstOf (tl_w yX7_firstOf cX7_firstOf 4 (some .int)) ({ frames := 1, cells := 0, slots := 0, locals := 22 }) (va_Pc [.ref o, .int p0, .int p1] (tp_P D cy L K Γ f sz)) (vp_Si (fun r : Int32 => (0 ≤ r.toInt ∧ r.toInt ≤ 9999) ∨ r.toInt = p1.toInt)) 0 0 (fun _ => False) := by
  refine Met.ofW (cc := cX7_firstOf) (maxL := 4) (ret := (some .int)) (by decide) rfl ?_
  intro p e s m args below meth c s₁ B hml hv
  obtain ⟨rfl, hsz, hP, hK, hL, hI, hN, hU⟩ := hv
  have hx := B.exec
  have hb := B.bytes
  have hr := B.returns
  have hta := tl_hta (atoms_spec (ws := tl_w yX7_firstOf cX7_firstOf 4 (some .int)) B.pre)
  have hown : s.vm.findClass RX7 = some m.cls := findClass_of_methodNamed B.named
  have hlocks := B.notSynchronized
  subst hsz
  have hI0 := hI
  have hl := lv_entry ([.ref o, .int p0, .int p1]) (n := 4) (Nat.le_of_ble_eq_true rfl)
  rw [lg_entry_eq]
  generalize (lg_sl ([.ref o, .int p0, .int p1]) ++ List.replicate (4 - (lg_sl ([.ref o, .int p0, .int p1])).length) Slot.unset).toArray = ls at hl ⊢
  have hl : lv_has ls 4 [(0, .ref o), (1, .int p0), (2, .int p1)] := hl
  refine lv_aload_n hx hb dX7_firstOf_0 rfl (lv_at hl 0 rfl) ?_
  refine lv_iload_n hx hb dX7_firstOf_1 rfl (lv_at hl 1 rfl) ?_
  obtain ⟨x_2, x_3, x_4, x_5, x_6, x_7, x_8, x_9, x_10, hf_1, hx_2, hx_3, hx_4, hx_5, hx_6, hx_7, hx_8, hx_9, hx_10⟩ := (show tp_o_TEXT L K (0) 0 (Γ (18, 0, 0)) (f o) from hI0.at ho)
  refine tl_si (tq_rV (As := [.int p0]) (rest := []) ⟨hx, hb, hml, hown, hta⟩ (tp_P.pre hK hN hL hU hI hP) (tp_recv hK hP ho.1 hf_1 rfl) lk_X7_40 (t_X7_clauseOf l D cy s.heap.size L K Γ f o p0 ho) rfl rfl ⟨Nat.le_of_ble_eq_true rfl, Nat.le_of_ble_eq_true rfl⟩ rfl hl.1 rfl (Nat.le_of_ble_eq_true rfl) dX7_firstOf_2 ⟨Nat.le_of_ble_eq_true rfl, Nat.le_of_ble_eq_true rfl⟩) (fun r_12 hw_11 => ?_)
  have hw_11 : -1 ≤ r_12.toInt ∧ r_12.toInt ≤ 11 := hw_11
  refine lv_istore_n (lv' := [(3, .int r_12), (0, .ref o), (1, .int p0), (2, .int p1)]) hx hb dX7_firstOf_5 rfl hl (by decide) rfl (fun ls hl => ?_)
  refine lv_iload_n hx hb dX7_firstOf_6 rfl (lv_at hl 0 rfl) ?_
  refine lv_if_ge (tgt := 14) hx hb dX7_firstOf_7 (by decide) (fun c_13 => ?_) (fun c_13 => ?_)
  · have c_13 : (0 : Int) ≤ r_12.toInt := tl_le c_13
    refine lv_aload_n hx hb dX7_firstOf_14 rfl (lv_at hl 1 rfl) ?_
    refine tp_get (cy := cy) (ci := 7) (v := .ref x_4) (C := RX7) (T := TX7) (N := 9) hx hb hta inlX7 hown hK hP ho.1 hf_1 rfl 2 (by decide) (hta _ wk_112) (fun _ h9 => h9) rfl dX7_firstOf_15 ?_
    refine lv_iload_n hx hb dX7_firstOf_18 rfl (lv_at hl 0 rfl) ?_
    obtain ⟨g_15, hf_14, hg_16⟩ := (show tp_ai cy 19 (12) (f x_4) from hI0.at hx_4)
    have hn_17 : vp_in r_12 (12) := tl_in (by omega) (by omega)
    refine tp_iald (cy := cy) hx hb hK hP hx_4.1 hf_14 hn_17 dX7_firstOf_19 ?_
    refine lv_topi (fun z_18 ez_18 => ?_)
    have iz_18 : 0 ≤ z_18.toInt ∧ z_18.toInt ≤ 9999 := by rw [ez_18]; exact hg_16 _ (tp_pin hn_17)
    exact W.iret (v := z_18) hx hb hr (fun t ht hW => ⟨_, rfl, (by first | trivial | omega | exact Or.inr rfl | exact Or.inl (by omega) | decide), ht⟩) (fun q h => by cases h) dX7_firstOf_20
  · have c_13 : r_12.toInt < (0 : Int) := tl_nle c_13
    refine lv_iload_n hx hb dX7_firstOf_10 rfl (lv_at hl 3 rfl) ?_
    refine lv_goto (tgt := 20) hx hb dX7_firstOf_11 (by decide) ?_
    exact W.iret (v := p1) hx hb hr (fun t ht hW => ⟨_, rfl, (by first | trivial | omega | exact Or.inr rfl | exact Or.inl (by omega) | decide), ht⟩) (fun q h => by cases h) dX7_firstOf_20
set_option maxHeartbeats 4000000 in
set_option maxRecDepth 100000 in
theorem t_X7_secondOf (l : Launch) (D : va_G) (cy : Nat → ClassId) (sz : Nat) (L : List Nat) (K : Nat → tk_K) (Γ : tk_G) (f : Nat → va_E) (o : Nat) (p0 : Int32) (p1 : Int32) (ho : tp_r L K 18 (0) 0 o) : Met l yX7_secondOf (tl_w yX7_secondOf cX7_secondOf 4 (some .int)) ({ frames := 1, cells := 0, slots := 0, locals := 22 }) (va_Pc [.ref o, .int p0, .int p1] (tp_P D cy L K Γ f sz)) (vp_Si (fun r : Int32 => (0 ≤ r.toInt ∧ r.toInt ≤ 9999) ∨ r.toInt = p1.toInt)) 0 0 (fun _ => False) := by
  refine Met.ofW (cc := cX7_secondOf) (maxL := 4) (ret := (some .int)) (by decide) rfl ?_
  intro p e s m args below meth c s₁ B hml hv
  obtain ⟨rfl, hsz, hP, hK, hL, hI, hN, hU⟩ := hv
  have hx := B.exec
  have hb := B.bytes
  have hr := B.returns
  have hta := tl_hta (atoms_spec (ws := tl_w yX7_secondOf cX7_secondOf 4 (some .int)) B.pre)
  have hown : s.vm.findClass RX7 = some m.cls := findClass_of_methodNamed B.named
  have hlocks := B.notSynchronized
  subst hsz
  have hI0 := hI
  have hl := lv_entry ([.ref o, .int p0, .int p1]) (n := 4) (Nat.le_of_ble_eq_true rfl)
  rw [lg_entry_eq]
  generalize (lg_sl ([.ref o, .int p0, .int p1]) ++ List.replicate (4 - (lg_sl ([.ref o, .int p0, .int p1])).length) Slot.unset).toArray = ls at hl ⊢
  have hl : lv_has ls 4 [(0, .ref o), (1, .int p0), (2, .int p1)] := hl
  refine lv_aload_n hx hb dX7_secondOf_0 rfl (lv_at hl 0 rfl) ?_
  refine lv_iload_n hx hb dX7_secondOf_1 rfl (lv_at hl 1 rfl) ?_
  obtain ⟨x_2, x_3, x_4, x_5, x_6, x_7, x_8, x_9, x_10, hf_1, hx_2, hx_3, hx_4, hx_5, hx_6, hx_7, hx_8, hx_9, hx_10⟩ := (show tp_o_TEXT L K (0) 0 (Γ (18, 0, 0)) (f o) from hI0.at ho)
  refine tl_si (tq_rV (As := [.int p0]) (rest := []) ⟨hx, hb, hml, hown, hta⟩ (tp_P.pre hK hN hL hU hI hP) (tp_recv hK hP ho.1 hf_1 rfl) lk_X7_40 (t_X7_clauseOf l D cy s.heap.size L K Γ f o p0 ho) rfl rfl ⟨Nat.le_of_ble_eq_true rfl, Nat.le_of_ble_eq_true rfl⟩ rfl hl.1 rfl (Nat.le_of_ble_eq_true rfl) dX7_secondOf_2 ⟨Nat.le_of_ble_eq_true rfl, Nat.le_of_ble_eq_true rfl⟩) (fun r_12 hw_11 => ?_)
  have hw_11 : -1 ≤ r_12.toInt ∧ r_12.toInt ≤ 11 := hw_11
  refine lv_istore_n (lv' := [(3, .int r_12), (0, .ref o), (1, .int p0), (2, .int p1)]) hx hb dX7_secondOf_5 rfl hl (by decide) rfl (fun ls hl => ?_)
  refine lv_iload_n hx hb dX7_secondOf_6 rfl (lv_at hl 0 rfl) ?_
  refine lv_if_ge (tgt := 14) hx hb dX7_secondOf_7 (by decide) (fun c_13 => ?_) (fun c_13 => ?_)
  · have c_13 : (0 : Int) ≤ r_12.toInt := tl_le c_13
    refine lv_aload_n hx hb dX7_secondOf_14 rfl (lv_at hl 1 rfl) ?_
    refine tp_get (cy := cy) (ci := 7) (v := .ref x_5) (C := RX7) (T := TX7) (N := 9) hx hb hta inlX7 hown hK hP ho.1 hf_1 rfl 3 (by decide) (hta _ wk_113) (fun _ h9 => h9) rfl dX7_secondOf_15 ?_
    refine lv_iload_n hx hb dX7_secondOf_18 rfl (lv_at hl 0 rfl) ?_
    obtain ⟨g_15, hf_14, hg_16⟩ := (show tp_ai cy 19 (12) (f x_5) from hI0.at hx_5)
    have hn_17 : vp_in r_12 (12) := tl_in (by omega) (by omega)
    refine tp_iald (cy := cy) hx hb hK hP hx_5.1 hf_14 hn_17 dX7_secondOf_19 ?_
    refine lv_topi (fun z_18 ez_18 => ?_)
    have iz_18 : 0 ≤ z_18.toInt ∧ z_18.toInt ≤ 9999 := by rw [ez_18]; exact hg_16 _ (tp_pin hn_17)
    exact W.iret (v := z_18) hx hb hr (fun t ht hW => ⟨_, rfl, (by first | trivial | omega | exact Or.inr rfl | exact Or.inl (by omega) | decide), ht⟩) (fun q h => by cases h) dX7_secondOf_20
  · have c_13 : r_12.toInt < (0 : Int) := tl_nle c_13
    refine lv_iload_n hx hb dX7_secondOf_10 rfl (lv_at hl 3 rfl) ?_
    refine lv_goto (tgt := 20) hx hb dX7_secondOf_11 (by decide) ?_
    exact W.iret (v := p1) hx hb hr (fun t ht hW => ⟨_, rfl, (by first | trivial | omega | exact Or.inr rfl | exact Or.inl (by omega) | decide), ht⟩) (fun q h => by cases h) dX7_secondOf_20

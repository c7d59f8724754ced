theorem dX12_sets_0 : decode cX12_sets 0 = .ok (.aload_n 1, 1) := by decide +kernel
theorem dX12_sets_1 : decode cX12_sets 1 = .ok (.aload_n 0, 1) := by decide +kernel
theorem dX12_sets_2 : decode cX12_sets 2 = .ok (.getfield 191, 3) := by decide +kernel
theorem dX12_sets_5 : decode cX12_sets 5 = .ok (.iaload, 1) := by decide +kernel
theorem dX12_sets_6 : decode cX12_sets 6 = .ok (.ifCond .lt 11, 3) := by decide +kernel
theorem dX12_sets_9 : decode cX12_sets 9 = .ok (.aload_n 0, 1) := by decide +kernel
theorem dX12_sets_10 : decode cX12_sets 10 = .ok (.iconst 4, 1) := by decide +kernel
theorem dX12_sets_11 : decode cX12_sets 11 = .ok (.iload 4, 2) := by decide +kernel
theorem dX12_sets_13 : decode cX12_sets 13 = .ok (.invokevirtual 184, 3) := by decide +kernel
theorem dX12_sets_16 : decode cX12_sets 16 = .ok (.ireturn, 1) := by decide +kernel
theorem dX12_sets_17 : decode cX12_sets 17 = .ok (.aload_n 0, 1) := by decide +kernel
theorem dX12_sets_18 : decode cX12_sets 18 = .ok (.invokevirtual 178, 3) := by decide +kernel
theorem dX12_sets_21 : decode cX12_sets 21 = .ok (.aload_n 0, 1) := by decide +kernel
theorem dX12_sets_22 : decode cX12_sets 22 = .ok (.iload_n 2, 1) := by decide +kernel
theorem dX12_sets_23 : decode cX12_sets 23 = .ok (.iload_n 3, 1) := by decide +kernel
theorem dX12_sets_24 : decode cX12_sets 24 = .ok (.invokevirtual 233, 3) := by decide +kernel
theorem dX12_sets_27 : decode cX12_sets 27 = .ok (.ifCond .ne 5, 3) := by decide +kernel
theorem dX12_sets_30 : decode cX12_sets 30 = .ok (.iconst 0, 1) := by decide +kernel
theorem dX12_sets_31 : decode cX12_sets 31 = .ok (.ireturn, 1) := by decide +kernel
theorem dX12_sets_32 : decode cX12_sets 32 = .ok (.aload_n 1, 1) := by decide +kernel
theorem dX12_sets_33 : decode cX12_sets 33 = .ok (.aload_n 0, 1) := by decide +kernel
theorem dX12_sets_34 : decode cX12_sets 34 = .ok (.getfield 191, 3) := by decide +kernel
theorem dX12_sets_37 : decode cX12_sets 37 = .ok (.aload_n 0, 1) := by decide +kernel
theorem dX12_sets_38 : decode cX12_sets 38 = .ok (.getfield 188, 3) := by decide +kernel
theorem dX12_sets_41 : decode cX12_sets 41 = .ok (.iastore, 1) := by decide +kernel
theorem dX12_sets_42 : decode cX12_sets 42 = .ok (.iconst 1, 1) := by decide +kernel
theorem dX12_sets_43 : decode cX12_sets 43 = .ok (.ireturn, 1) := by decide +kernel
theorem dX12_rippled_0 : decode cX12_rippled 0 = .ok (.aload_n 0, 1) := by decide +kernel
theorem dX12_rippled_1 : decode cX12_rippled 1 = .ok (.aload_n 0, 1) := by decide +kernel
theorem dX12_rippled_2 : decode cX12_rippled 2 = .ok (.getfield 38, 3) := by decide +kernel
theorem dX12_rippled_5 : decode cX12_rippled 5 = .ok (.iconst 2, 1) := by decide +kernel
theorem dX12_rippled_6 : decode cX12_rippled 6 = .ok (.bipush 99, 2) := by decide +kernel
theorem dX12_rippled_8 : decode cX12_rippled 8 = .ok (.iload_n 1, 1) := by decide +kernel
theorem dX12_rippled_9 : decode cX12_rippled 9 = .ok (.invokevirtual 284, 3) := by decide +kernel
theorem dX12_rippled_12 : decode cX12_rippled 12 = .ok (.ifCond .eq 14, 3) := by decide +kernel
theorem dX12_rippled_15 : decode cX12_rippled 15 = .ok (.aload_n 0, 1) := by decide +kernel
theorem dX12_rippled_16 : decode cX12_rippled 16 = .ok (.iconst 0, 1) := by decide +kernel
theorem dX12_rippled_17 : decode cX12_rippled 17 = .ok (.sipush 9999, 3) := by decide +kernel
theorem dX12_rippled_20 : decode cX12_rippled 20 = .ok (.invokevirtual 233, 3) := by decide +kernel
theorem dX12_rippled_23 : decode cX12_rippled 23 = .ok (.ifCond .ne 5, 3) := by decide +kernel
theorem dX12_rippled_26 : decode cX12_rippled 26 = .ok (.iconst 0, 1) := by decide +kernel
theorem dX12_rippled_27 : decode cX12_rippled 27 = .ok (.ireturn, 1) := by decide +kernel
theorem dX12_rippled_28 : decode cX12_rippled 28 = .ok (.aload_n 0, 1) := by decide +kernel
theorem dX12_rippled_29 : decode cX12_rippled 29 = .ok (.getfield 41, 3) := by decide +kernel
theorem dX12_rippled_32 : decode cX12_rippled 32 = .ok (.aload_n 0, 1) := by decide +kernel
theorem dX12_rippled_33 : decode cX12_rippled 33 = .ok (.getfield 191, 3) := by decide +kernel
theorem dX12_rippled_36 : decode cX12_rippled 36 = .ok (.aload_n 0, 1) := by decide +kernel
theorem dX12_rippled_37 : decode cX12_rippled 37 = .ok (.getfield 188, 3) := by decide +kernel
theorem dX12_rippled_40 : decode cX12_rippled 40 = .ok (.iastore, 1) := by decide +kernel
theorem dX12_rippled_41 : decode cX12_rippled 41 = .ok (.iconst 1, 1) := by decide +kernel
theorem dX12_rippled_42 : decode cX12_rippled 42 = .ok (.ireturn, 1) := by decide +kernel
theorem wk_159 : Cond.fieldLink RX12 38 "ThinLineModel" "beat" "[I" ∈ tl_L := List.mem_filter.mpr ⟨lw_m6 (i := 75) rfl, rfl⟩
theorem wk_160 : Cond.fieldLink RX12 41 "ThinLineModel" "high" "[I" ∈ tl_L := List.mem_filter.mpr ⟨lw_m6 (i := 76) rfl, rfl⟩
theorem wk_586 : Cond.methodLink RX12 284 yX12_sets ∈ tl_L := List.mem_filter.mpr ⟨lw_m7 (i := 97) rfl, rfl⟩
theorem wk_587 : Cond.instanceMethod yX12_sets ∈ tl_L := List.mem_filter.mpr ⟨lw_m7 (i := 99) rfl, rfl⟩
theorem wk_588 : Cond.selects RX12 yX12_sets yX12_sets ∈ tl_L := List.mem_filter.mpr ⟨lw_s8 (i := 5) (q := (yX12_sets, 49)) rfl, rfl⟩
theorem wk_589 : Cond.code yX12_sets cX12_sets 5 (some .boolean) ∈ tl_L := List.mem_filter.mpr ⟨lw_m7 (i := 100) rfl, rfl⟩
theorem lk_X12_284 : tl_kV RX12 284 RX12 yX12_sets cX12_sets 5 (some .boolean) 4 := ⟨wk_589, wk_586, wk_587, wk_588, wk_5, ⟨by decide +kernel, by decide +kernel, by decide +kernel⟩⟩
theorem dX12_gapped_0 : decode cX12_gapped 0 = .ok (.aload_n 0, 1) := by decide +kernel
theorem dX12_gapped_1 : decode cX12_gapped 1 = .ok (.aload_n 0, 1) := by decide +kernel
theorem dX12_gapped_2 : decode cX12_gapped 2 = .ok (.getfield 50, 3) := by decide +kernel
theorem dX12_gapped_5 : decode cX12_gapped 5 = .ok (.iconst 0, 1) := by decide +kernel
theorem dX12_gapped_6 : decode cX12_gapped 6 = .ok (.sipush 299, 3) := by decide +kernel
theorem dX12_gapped_9 : decode cX12_gapped 9 = .ok (.iload_n 1, 1) := by decide +kernel
theorem dX12_gapped_10 : decode cX12_gapped 10 = .ok (.invokevirtual 284, 3) := by decide +kernel
theorem dX12_gapped_13 : decode cX12_gapped 13 = .ok (.ifCond .eq 17, 3) := by decide +kernel
theorem dX12_gapped_16 : decode cX12_gapped 16 = .ok (.aload_n 0, 1) := by decide +kernel
theorem dX12_gapped_17 : decode cX12_gapped 17 = .ok (.aload_n 0, 1) := by decide +kernel
theorem dX12_gapped_18 : decode cX12_gapped 18 = .ok (.getfield 188, 3) := by decide +kernel
theorem dX12_gapped_21 : decode cX12_gapped 21 = .ok (.sipush 299, 3) := by decide +kernel
theorem dX12_gapped_24 : decode cX12_gapped 24 = .ok (.invokevirtual 233, 3) := by decide +kernel
theorem dX12_gapped_27 : decode cX12_gapped 27 = .ok (.ifCond .ne 5, 3) := by decide +kernel
theorem dX12_gapped_30 : decode cX12_gapped 30 = .ok (.iconst 0, 1) := by decide +kernel
theorem dX12_gapped_31 : decode cX12_gapped 31 = .ok (.ireturn, 1) := by decide +kernel
theorem dX12_gapped_32 : decode cX12_gapped 32 = .ok (.aload_n 0, 1) := by decide +kernel
theorem dX12_gapped_33 : decode cX12_gapped 33 = .ok (.getfield 53, 3) := by decide +kernel
theorem dX12_gapped_36 : decode cX12_gapped 36 = .ok (.aload_n 0, 1) := by decide +kernel
theorem dX12_gapped_37 : decode cX12_gapped 37 = .ok (.getfield 191, 3) := by decide +kernel
theorem dX12_gapped_40 : decode cX12_gapped 40 = .ok (.aload_n 0, 1) := by decide +kernel
theorem dX12_gapped_41 : decode cX12_gapped 41 = .ok (.getfield 188, 3) := by decide +kernel
theorem dX12_gapped_44 : decode cX12_gapped 44 = .ok (.iastore, 1) := by decide +kernel
theorem dX12_gapped_45 : decode cX12_gapped 45 = .ok (.iconst 1, 1) := by decide +kernel
theorem dX12_gapped_46 : decode cX12_gapped 46 = .ok (.ireturn, 1) := by decide +kernel
theorem wk_163 : Cond.fieldLink RX12 50 "ThinLineModel" "gapFrom" "[I" ∈ tl_L := List.mem_filter.mpr ⟨lw_m6 (i := 79) rfl, rfl⟩
theorem wk_164 : Cond.fieldLink RX12 53 "ThinLineModel" "gapTo" "[I" ∈ tl_L := List.mem_filter.mpr ⟨lw_m6 (i := 80) rfl, rfl⟩
theorem dX12_eaten_0 : decode cX12_eaten 0 = .ok (.aload_n 0, 1) := by decide +kernel
theorem dX12_eaten_1 : decode cX12_eaten 1 = .ok (.invokevirtual 178, 3) := by decide +kernel
theorem dX12_eaten_4 : decode cX12_eaten 4 = .ok (.bipush 24, 2) := by decide +kernel
theorem dX12_eaten_6 : decode cX12_eaten 6 = .ok (.aload_n 0, 1) := by decide +kernel
theorem dX12_eaten_7 : decode cX12_eaten 7 = .ok (.getfield 191, 3) := by decide +kernel
theorem dX12_eaten_10 : decode cX12_eaten 10 = .ok (.imul, 1) := by decide +kernel
theorem dX12_eaten_11 : decode cX12_eaten 11 = .ok (.iconst 2, 1) := by decide +kernel
theorem dX12_eaten_12 : decode cX12_eaten 12 = .ok (.aload_n 0, 1) := by decide +kernel
theorem dX12_eaten_13 : decode cX12_eaten 13 = .ok (.getfield 35, 3) := by decide +kernel
theorem dX12_eaten_16 : decode cX12_eaten 16 = .ok (.aload_n 0, 1) := by decide +kernel
theorem dX12_eaten_17 : decode cX12_eaten 17 = .ok (.getfield 191, 3) := by decide +kernel
theorem dX12_eaten_20 : decode cX12_eaten 20 = .ok (.iaload, 1) := by decide +kernel
theorem dX12_eaten_21 : decode cX12_eaten 21 = .ok (.imul, 1) := by decide +kernel
theorem dX12_eaten_22 : decode cX12_eaten 22 = .ok (.iadd, 1) := by decide +kernel
theorem dX12_eaten_23 : decode cX12_eaten 23 = .ok (.istore_n 1, 1) := by decide +kernel
theorem dX12_eaten_24 : decode cX12_eaten 24 = .ok (.aload_n 0, 1) := by decide +kernel
theorem dX12_eaten_25 : decode cX12_eaten 25 = .ok (.iconst 0, 1) := by decide +kernel
theorem dX12_eaten_26 : decode cX12_eaten 26 = .ok (.bipush 11, 2) := by decide +kernel
theorem dX12_eaten_28 : decode cX12_eaten 28 = .ok (.invokevirtual 233, 3) := by decide +kernel
theorem dX12_eaten_31 : decode cX12_eaten 31 = .ok (.ifCond .ne 5, 3) := by decide +kernel
theorem dX12_eaten_34 : decode cX12_eaten 34 = .ok (.iconst 0, 1) := by decide +kernel
theorem dX12_eaten_35 : decode cX12_eaten 35 = .ok (.ireturn, 1) := by decide +kernel
theorem dX12_eaten_36 : decode cX12_eaten 36 = .ok (.aload_n 0, 1) := by decide +kernel
theorem dX12_eaten_37 : decode cX12_eaten 37 = .ok (.getfield 32, 3) := by decide +kernel
theorem dX12_eaten_40 : decode cX12_eaten 40 = .ok (.iload_n 1, 1) := by decide +kernel
theorem dX12_eaten_41 : decode cX12_eaten 41 = .ok (.aload_n 0, 1) := by decide +kernel
theorem dX12_eaten_42 : decode cX12_eaten 42 = .ok (.getfield 188, 3) := by decide +kernel
theorem dX12_eaten_45 : decode cX12_eaten 45 = .ok (.iastore, 1) := by decide +kernel
theorem dX12_eaten_46 : decode cX12_eaten 46 = .ok (.aload_n 0, 1) := by decide +kernel
theorem dX12_eaten_47 : decode cX12_eaten 47 = .ok (.iconst 0, 1) := by decide +kernel
theorem dX12_eaten_48 : decode cX12_eaten 48 = .ok (.sipush 9999, 3) := by decide +kernel
theorem dX12_eaten_51 : decode cX12_eaten 51 = .ok (.invokevirtual 233, 3) := by decide +kernel
theorem dX12_eaten_54 : decode cX12_eaten 54 = .ok (.ifCond .ne 5, 3) := by decide +kernel
theorem dX12_eaten_57 : decode cX12_eaten 57 = .ok (.iconst 0, 1) := by decide +kernel
theorem dX12_eaten_58 : decode cX12_eaten 58 = .ok (.ireturn, 1) := by decide +kernel
theorem dX12_eaten_59 : decode cX12_eaten 59 = .ok (.aload_n 0, 1) := by decide +kernel
theorem dX12_eaten_60 : decode cX12_eaten 60 = .ok (.getfield 32, 3) := by decide +kernel
theorem dX12_eaten_63 : decode cX12_eaten 63 = .ok (.iload_n 1, 1) := by decide +kernel
theorem dX12_eaten_64 : decode cX12_eaten 64 = .ok (.iconst 1, 1) := by decide +kernel
theorem dX12_eaten_65 : decode cX12_eaten 65 = .ok (.iadd, 1) := by decide +kernel
theorem dX12_eaten_66 : decode cX12_eaten 66 = .ok (.aload_n 0, 1) := by decide +kernel
theorem dX12_eaten_67 : decode cX12_eaten 67 = .ok (.getfield 188, 3) := by decide +kernel
theorem dX12_eaten_70 : decode cX12_eaten 70 = .ok (.iastore, 1) := by decide +kernel
theorem dX12_eaten_71 : decode cX12_eaten 71 = .ok (.aload_n 0, 1) := by decide +kernel
theorem dX12_eaten_72 : decode cX12_eaten 72 = .ok (.getfield 35, 3) := by decide +kernel
theorem dX12_eaten_75 : decode cX12_eaten 75 = .ok (.aload_n 0, 1) := by decide +kernel
theorem dX12_eaten_76 : decode cX12_eaten 76 = .ok (.getfield 191, 3) := by decide +kernel
theorem dX12_eaten_79 : decode cX12_eaten 79 = .ok (.dup2, 1) := by decide +kernel
theorem dX12_eaten_80 : decode cX12_eaten 80 = .ok (.iaload, 1) := by decide +kernel
theorem dX12_eaten_81 : decode cX12_eaten 81 = .ok (.iconst 1, 1) := by decide +kernel
theorem dX12_eaten_82 : decode cX12_eaten 82 = .ok (.iadd, 1) := by decide +kernel
theorem dX12_eaten_83 : decode cX12_eaten 83 = .ok (.iastore, 1) := by decide +kernel
theorem dX12_eaten_84 : decode cX12_eaten 84 = .ok (.iconst 1, 1) := by decide +kernel
theorem dX12_eaten_85 : decode cX12_eaten 85 = .ok (.ireturn, 1) := by decide +kernel
theorem wk_157 : Cond.fieldLink RX12 32 "ThinLineModel" "eats" "[I" ∈ tl_L := List.mem_filter.mpr ⟨lw_m6 (i := 73) rfl, rfl⟩
theorem wk_158 : Cond.fieldLink RX12 35 "ThinLineModel" "eaters" "[I" ∈ tl_L := List.mem_filter.mpr ⟨lw_m6 (i := 74) rfl, rfl⟩
set_option maxHeartbeats 4000000 in
set_option maxRecDepth 100000 in
theorem r_sets_BEAT (l : Launch) (D : va_G) (cy : Nat → ClassId) (sz : Nat) (L : List Nat) (K : Nat → tk_K) (Γ : tk_G) (f : Nat → va_E) (o : Nat) (q : Nat) (p0 : Int32) (p1 : Int32) (p2 : Int32) (τ : Nat → Int) (T0 : Int) (t0 : Int) (ho : tp_r L K 39 (0) 0 o) (hq : tp_r L K 54 (22) 0 q) (ht : Γ (41, 400, 0) = τ) (hT : Γ (39, 0, 0) 0 = T0) (hb0 : 0 ≤ Γ (39, 0, 0) 1 ∧ Γ (39, 0, 0) 1 ≤ T0 ∧ T0 ≤ 400) (h4 : Γ (39, 0, 0) 4 = t0 ∧ 0 ≤ t0 ∧ t0 ≤ 21) : Met l yX12_sets (tl_w yX12_sets cX12_sets 5 (some .boolean)) ({ frames := 2, cells := 0, slots := 0, locals := 49 }) (va_Pc [.ref o, .ref q, .int p0, .int p1, .int p2] (tp_P D cy L K Γ f sz)) (va_Qi (fun (r : Int32) (u : (Nat → va_E) × tk_G) => tl_J r ((p0.toInt ≤ u.2 (39, 0, 0) 3 ∧ u.2 (39, 0, 0) 3 ≤ p1.toInt) ∧ Γ (39, 0, 0) 1 + 1 ≤ u.2 (39, 0, 0) 1) ∧ u.2 (39, 0, 0) 0 = Γ (39, 0, 0) 0 ∧ u.2 (39, 0, 0) 4 = Γ (39, 0, 0) 4 ∧ u.2 (39, 0, 0) 5 = Γ (39, 0, 0) 5 ∧ u.2 (39, 0, 0) 6 = Γ (39, 0, 0) 6 ∧ u.2 (39, 0, 0) 7 = Γ (39, 0, 0) 7 ∧ u.2 (39, 0, 0) 8 = Γ (39, 0, 0) 8 ∧ Γ (39, 0, 0) 1 ≤ u.2 (39, 0, 0) 1 ∧ u.2 (39, 0, 0) 1 ≤ T0) (tp_BG D cy L K Γ f [39, 54]) (tp_A L sz)) 0 0 (tp_A L sz) := by
  refine Met.ofW (cc := cX12_sets) (maxL := 5) (ret := (some .boolean)) (by decide) rfl ?_
  intro p e s m args below meth c s₁ B hml hv
  obtain ⟨rfl, hsz, hP, hK, hL, hI, hN, hU⟩ := hv
  have hx := B.exec
  have hb := B.bytes
  have hr := B.returns
  have hta := tl_hta (atoms_spec (ws := tl_w yX12_sets cX12_sets 5 (some .boolean)) B.pre)
  have hown : s.vm.findClass RX12 = some m.cls := findClass_of_methodNamed B.named
  have hlocks := B.notSynchronized
  subst hsz
  have hI0 := hI
  generalize hAe : tp_A L s.heap.size = A
  have hA : ∀ q : Nat, s.heap.size ≤ q → A q := fun q h => by rw [← hAe]; exact Or.inr h
  have hAL : ∀ q ∈ L, A q := fun q h => by rw [← hAe]; exact Or.inl h
  have hAf : ∀ (H : Heap), s.heap.size ≤ H.size → ∀ q, tp_A L H.size q → A q := fun H h q hq => hq.elim (hAL q) (fun h2 => hA q (Nat.le_trans h h2))
  have hS : va_S A s.heap s.heap [] := va_S.rf
  have hD : va_D A (va_pl L f) := tp_D hL hAL
  have hfr : ∀ b, (K b).1 ∉ ([39, 54] : List Nat) → f b = f b := fun _ _ => rfl
  have hgr : ∀ κ : tk_K, κ.1 ∉ ([39, 54] : List Nat) → Γ κ = Γ κ := fun _ _ => rfl
  have hl := lv_entry ([.ref o, .ref q, .int p0, .int p1, .int p2]) (n := 5) (Nat.le_of_ble_eq_true rfl)
  rw [lg_entry_eq]
  generalize (lg_sl ([.ref o, .ref q, .int p0, .int p1, .int p2]) ++ List.replicate (5 - (lg_sl ([.ref o, .ref q, .int p0, .int p1, .int p2])).length) Slot.unset).toArray = ls at hl ⊢
  have hl : lv_has ls 5 [(0, .ref o), (1, .ref q), (2, .int p0), (3, .int p1), (4, .int p2)] := hl
  refine lv_aload_n hx hb dX12_sets_0 rfl (lv_at hl 1 rfl) ?_
  refine lv_aload_n hx hb dX12_sets_1 rfl (lv_at hl 0 rfl) ?_
  obtain ⟨r_2, v_3, q_4, hf_1, hr_5, hv_6⟩ := (show tp_o_M L K 0 0 (Γ (39, 0, 0)) (f o) from hI.at ho)
  have hx_10 : (v_3 4).toInt = Γ (39, 0, 0) 4 := hv_6 4 (by decide)
  refine tp_get (cy := cy) (ci := 12) (v := .int (v_3 4)) (C := RX12) (T := TX12) (N := 49) hx hb hta inlX12 hown hK hP ho.1 hf_1 rfl 20 (by decide) (hta _ wk_537) (fun _ h9 => h9) rfl dX12_sets_2 ?_
  obtain ⟨g_16, hf_15, hg_17⟩ := (show tp_ai cy 54 (22) (f q) from hI.at hq)
  have hn_18 : vp_in (v_3 4) (22) := tl_in (by omega) (by omega)
  refine tp_iald (cy := cy) hx hb hK hP hq.1 hf_15 hn_18 dX12_sets_5 ?_
  refine lv_topi (fun z_19 ez_19 => ?_)
  refine lv_if_lt (tgt := 17) hx hb dX12_sets_6 (by decide) (fun c_20 => ?_) (fun c_20 => ?_)
  · have c_20 : z_19.toInt < (0 : Int) := tl_lt c_20
    refine lv_aload_n hx hb dX12_sets_17 rfl (lv_at hl 0 rfl) ?_
    refine tq_cvR hS (hAf _ hS.1) (tq_rV (As := []) (rest := []) ⟨hx, hb, hml, hown, hta⟩ (tp_P.pre hK hN hL hU hI hP) (tp_recv hK hP ho.1 hf_1 rfl) lk_X12_178 (r_X12_passWord l D cy s.heap.size L K Γ f o τ T0 ho ht (by first | omega | (simp only [Int32.toInt_toInt64]; omega) | decide | assumption) (by first | omega | (simp only [Int32.toInt_toInt64]; omega) | decide | assumption)) rfl rfl ⟨Nat.le_of_ble_eq_true rfl, Nat.le_of_ble_eq_true rfl⟩ rfl hl.1 rfl (Nat.le_of_ble_eq_true rfl) dX12_sets_18 ⟨Nat.le_of_ble_eq_true rfl, Nat.le_of_ble_eq_true rfl⟩) (fun f_23 Γ_25 H locs hw_21 hP hI hc_24 hcg_26 hS => ?_)
    have hD : va_D A (va_pl L f_23) := tp_D hL hAL
    have hfr := tp_fr2 hfr hc_24 (by decide)
    have hgr : ∀ κ : tk_K, κ.1 ∉ ([39, 54] : List Nat) → Γ_25 κ = Γ κ := tg_fr2 hgr hcg_26 (by decide)
    have hf_27 := (tp_un hc_24 hq (by decide)).trans hf_15
    have hw_21 : Γ_25 (39, 0, 0) 0 = Γ (39, 0, 0) 0 ∧ Γ_25 (39, 0, 0) 3 = Γ (39, 0, 0) 3 ∧ Γ_25 (39, 0, 0) 4 = Γ (39, 0, 0) 4 ∧ Γ_25 (39, 0, 0) 5 = Γ (39, 0, 0) 5 ∧ Γ_25 (39, 0, 0) 6 = Γ (39, 0, 0) 6 ∧ Γ_25 (39, 0, 0) 7 = Γ (39, 0, 0) 7 ∧ Γ_25 (39, 0, 0) 8 = Γ (39, 0, 0) 8 ∧ Γ (39, 0, 0) 1 ≤ Γ_25 (39, 0, 0) 1 ∧ Γ_25 (39, 0, 0) 1 ≤ T0 ∧ (tr_L τ T0 (Γ (39, 0, 0) 1) → Γ (39, 0, 0) 1 + 1 ≤ Γ_25 (39, 0, 0) 1) := hw_21
    refine lv_aload_n hx hb dX12_sets_21 rfl (lv_at hl 0 rfl) ?_
    refine lv_iload_n hx hb dX12_sets_22 rfl (lv_at hl 2 rfl) ?_
    refine lv_iload_n hx hb dX12_sets_23 rfl (lv_at hl 3 rfl) ?_
    obtain ⟨r_29, v_30, q_31, hf_28, hr_32, hv_33⟩ := (show tp_o_M L K 0 0 (Γ_25 (39, 0, 0)) (f_23 o) from hI.at ho)
    refine tq_ciR hS (hAf _ hS.1) (tq_rV (As := [.int p0, .int p1]) (rest := []) ⟨hx, hb, hml, hown, hta⟩ (tp_P.pre hK hN hL hU hI hP) (tp_recv hK hP ho.1 hf_28 rfl) lk_X12_233 (r_X12_numberHere l D cy H.size L K Γ_25 f_23 o p0 p1 τ T0 ho ((hgr _ (by decide)).trans ht) (by first | omega | (simp only [Int32.toInt_toInt64]; omega) | decide | assumption) (by first | omega | (simp only [Int32.toInt_toInt64]; omega) | decide | assumption)) rfl rfl ⟨Nat.le_of_ble_eq_true rfl, Nat.le_of_ble_eq_true rfl⟩ rfl hl.1 rfl (Nat.le_of_ble_eq_true rfl) dX12_sets_24 ⟨Nat.le_of_ble_eq_true rfl, Nat.le_of_ble_eq_true rfl⟩) (fun r_43 f_44 Γ_46 H locs hw_42 hP hI hc_45 hcg_47 hS => ?_)
    have hD : va_D A (va_pl L f_44) := tp_D hL hAL
    have hfr := tp_fr2 hfr hc_45 (by decide)
    have hgr : ∀ κ : tk_K, κ.1 ∉ ([39, 54] : List Nat) → Γ_46 κ = Γ κ := tg_fr2 hgr hcg_47 (by decide)
    have hf_48 := (tp_un hc_45 hq (by decide)).trans hf_27
    obtain ⟨hE_49, hw_42⟩ := hw_42
    have hE_49 : tl_J r_43 (p0.toInt ≤ Γ_46 (39, 0, 0) 3 ∧ Γ_46 (39, 0, 0) 3 ≤ p1.toInt ∧ Γ_25 (39, 0, 0) 1 + 1 ≤ Γ_46 (39, 0, 0) 1) := hE_49
    have hw_42 : Γ_46 (39, 0, 0) 0 = Γ_25 (39, 0, 0) 0 ∧ Γ_46 (39, 0, 0) 4 = Γ_25 (39, 0, 0) 4 ∧ Γ_46 (39, 0, 0) 5 = Γ_25 (39, 0, 0) 5 ∧ Γ_46 (39, 0, 0) 6 = Γ_25 (39, 0, 0) 6 ∧ Γ_46 (39, 0, 0) 7 = Γ_25 (39, 0, 0) 7 ∧ Γ_46 (39, 0, 0) 8 = Γ_25 (39, 0, 0) 8 ∧ Γ_25 (39, 0, 0) 1 ≤ Γ_46 (39, 0, 0) 1 ∧ Γ_46 (39, 0, 0) 1 ≤ T0 := hw_42
    refine lv_if_ne (tgt := 32) hx hb dX12_sets_27 (by decide) (fun c_50 => ?_) (fun c_50 => ?_)
    · have c_50 := hE_49.t c_50
      refine lv_aload_n hx hb dX12_sets_32 rfl (lv_at hl 1 rfl) ?_
      refine lv_aload_n hx hb dX12_sets_33 rfl (lv_at hl 0 rfl) ?_
      obtain ⟨r_52, v_53, q_54, hf_51, hr_55, hv_56⟩ := (show tp_o_M L K 0 0 (Γ_46 (39, 0, 0)) (f_44 o) from hI.at ho)
      have hx_59 : (v_53 3).toInt = Γ_46 (39, 0, 0) 3 := hv_56 3 (by decide)
      have hx_60 : (v_53 4).toInt = Γ_46 (39, 0, 0) 4 := hv_56 4 (by decide)
      refine tp_get (cy := cy) (ci := 12) (v := .int (v_53 4)) (C := RX12) (T := TX12) (N := 49) hx hb hta inlX12 hown hK hP ho.1 hf_51 rfl 20 (by decide) (hta _ wk_537) (fun _ h9 => h9) rfl dX12_sets_34 ?_
      refine lv_aload_n hx hb dX12_sets_37 rfl (lv_at hl 0 rfl) ?_
      refine tp_get (cy := cy) (ci := 12) (v := .int (v_53 3)) (C := RX12) (T := TX12) (N := 49) hx hb hta inlX12 hown hK hP ho.1 hf_51 rfl 19 (by decide) (hta _ wk_585) (fun _ h9 => h9) rfl dX12_sets_38 ?_
      have hn_65 : vp_in (v_53 4) (22) := tl_in (by omega) (by omega)
      have hI9 : tp_I cy L K Γ_46 (va_up f_44 q (.inl (cy 0, 22, .inl (upd g_16 (v_53 4).toNatClampNeg (v_53 3))))) := hI.set hq (show tp_ai cy 54 (22) _ from ⟨_, rfl, tp_pi_upd hg_17 trivial⟩)
      have hfr9 : ∀ b, (K b).1 ∉ ([39, 54] : List Nat) → va_up f_44 q (.inl (cy 0, 22, .inl (upd g_16 (v_53 4).toNatClampNeg (v_53 3)))) b = f b := tp_fr hfr hq (by decide)
      refine tp_iast (cy := cy) hx hb hK hP hD hS hq.1 hf_48 hn_65 dX12_sets_41 (fun H locs hP hD hS => ?_)
      have hP : va_P D vwCl (va_pl L (va_up f_44 q (.inl (cy 0, 22, .inl (upd g_16 (v_53 4).toNatClampNeg (v_53 3)))))) H := hP
      generalize hfe : va_up f_44 q (.inl (cy 0, 22, .inl (upd g_16 (v_53 4).toNatClampNeg (v_53 3)))) = f_66 at hP hI9 hfr9
      have hD : va_D A (va_pl L f_66) := tp_D hL hAL
      have hf_67 : f_66 q = .inl (cy 0, 22, .inl (upd g_16 (v_53 4).toNatClampNeg (v_53 3))) := by rw [← hfe]; exact va_up_self _ _ _
      have hf_68 := (show f_66 o = _ from by rw [← hfe, va_up_ne _ _ (tp_ne ho hq (by decide))]).trans hf_51
      clear hfe
      have hI := hI9
      have hfr := hfr9
      clear hI9 hfr9
      refine lv_iconst (v := 1) hx hb dX12_sets_42 (by decide) ?_
      have hpo9 : tl_J (1 : Int32) ((p0.toInt ≤ Γ_46 (39, 0, 0) 3 ∧ Γ_46 (39, 0, 0) 3 ≤ p1.toInt) ∧ Γ (39, 0, 0) 1 + 1 ≤ Γ_46 (39, 0, 0) 1) ∧ Γ_46 (39, 0, 0) 0 = Γ (39, 0, 0) 0 ∧ Γ_46 (39, 0, 0) 4 = Γ (39, 0, 0) 4 ∧ Γ_46 (39, 0, 0) 5 = Γ (39, 0, 0) 5 ∧ Γ_46 (39, 0, 0) 6 = Γ (39, 0, 0) 6 ∧ Γ_46 (39, 0, 0) 7 = Γ (39, 0, 0) 7 ∧ Γ_46 (39, 0, 0) 8 = Γ (39, 0, 0) 8 ∧ Γ (39, 0, 0) 1 ≤ Γ_46 (39, 0, 0) 1 ∧ Γ_46 (39, 0, 0) 1 ≤ T0 := ⟨(Or.inl ⟨rfl, ⟨(by omega), (by omega)⟩⟩), ⟨(by omega), (by omega), (by omega), (by omega), (by omega), (by omega), (by omega), (by omega)⟩⟩
      exact W.zret (ty := .boolean) (v := 1) hx hb hr rfl (fun t ht hW => ⟨⟨_, (f_66, Γ_46), rfl, hpo9, by rw [ht]; exact hP, hI, hfr, hgr⟩, hS.F ht⟩) hS.2.2 dX12_sets_43
    · have c_50 := c_50
      refine lv_iconst (v := 0) hx hb dX12_sets_30 (by decide) ?_
      have hpo9 : tl_J (0 : Int32) ((p0.toInt ≤ Γ_46 (39, 0, 0) 3 ∧ Γ_46 (39, 0, 0) 3 ≤ p1.toInt) ∧ Γ (39, 0, 0) 1 + 1 ≤ Γ_46 (39, 0, 0) 1) ∧ Γ_46 (39, 0, 0) 0 = Γ (39, 0, 0) 0 ∧ Γ_46 (39, 0, 0) 4 = Γ (39, 0, 0) 4 ∧ Γ_46 (39, 0, 0) 5 = Γ (39, 0, 0) 5 ∧ Γ_46 (39, 0, 0) 6 = Γ (39, 0, 0) 6 ∧ Γ_46 (39, 0, 0) 7 = Γ (39, 0, 0) 7 ∧ Γ_46 (39, 0, 0) 8 = Γ (39, 0, 0) 8 ∧ Γ (39, 0, 0) 1 ≤ Γ_46 (39, 0, 0) 1 ∧ Γ_46 (39, 0, 0) 1 ≤ T0 := ⟨(Or.inr rfl), ⟨(by omega), (by omega), (by omega), (by omega), (by omega), (by omega), (by omega), (by omega)⟩⟩
      exact W.zret (ty := .boolean) (v := 0) hx hb hr rfl (fun t ht hW => ⟨⟨_, (f_44, Γ_46), rfl, hpo9, by rw [ht]; exact hP, hI, hfr, hgr⟩, hS.F ht⟩) hS.2.2 dX12_sets_31
  · have c_20 : (0 : Int) ≤ z_19.toInt := tl_nlt c_20
    refine lv_aload_n hx hb dX12_sets_9 rfl (lv_at hl 0 rfl) ?_
    refine lv_iconst (v := 4) hx hb dX12_sets_10 (by decide) ?_
    refine lv_iload hx hb dX12_sets_11 (lv_at hl 4 rfl) ?_
    refine tq_ciR hS (hAf _ hS.1) (tq_rV (As := [.int 4, .int p2]) (rest := []) ⟨hx, hb, hml, hown, hta⟩ (tp_P.pre hK hN hL hU hI hP) (tp_recv hK hP ho.1 hf_1 rfl) lk_X12_184 (r_X12_fails l D cy s.heap.size L K Γ f o 4 p2 ho) rfl rfl ⟨Nat.le_of_ble_eq_true rfl, Nat.le_of_ble_eq_true rfl⟩ rfl hl.1 rfl (Nat.le_of_ble_eq_true rfl) dX12_sets_13 ⟨Nat.le_of_ble_eq_true rfl, Nat.le_of_ble_eq_true rfl⟩) (fun r_70 f_71 Γ_73 H locs hw_69 hP hI hc_72 hcg_74 hS => ?_)
    have hD : va_D A (va_pl L f_71) := tp_D hL hAL
    have hfr := tp_fr2 hfr hc_72 (by decide)
    have hgr : ∀ κ : tk_K, κ.1 ∉ ([39, 54] : List Nat) → Γ_73 κ = Γ κ := tg_fr2 hgr hcg_74 (by decide)
    have hf_75 := (tp_un hc_72 hq (by decide)).trans hf_15
    obtain ⟨rfl, hw_69⟩ := hw_69
    have hw_69 : Γ_73 (39, 0, 0) 0 = Γ (39, 0, 0) 0 ∧ Γ_73 (39, 0, 0) 1 = Γ (39, 0, 0) 1 ∧ Γ_73 (39, 0, 0) 3 = Γ (39, 0, 0) 3 ∧ Γ_73 (39, 0, 0) 4 = Γ (39, 0, 0) 4 ∧ Γ_73 (39, 0, 0) 5 = Γ (39, 0, 0) 5 ∧ Γ_73 (39, 0, 0) 6 = Γ (39, 0, 0) 6 ∧ Γ_73 (39, 0, 0) 7 = Γ (39, 0, 0) 7 ∧ Γ_73 (39, 0, 0) 8 = Γ (39, 0, 0) 8 := hw_69
    have hpo9 : tl_J (0 : Int32) ((p0.toInt ≤ Γ_73 (39, 0, 0) 3 ∧ Γ_73 (39, 0, 0) 3 ≤ p1.toInt) ∧ Γ (39, 0, 0) 1 + 1 ≤ Γ_73 (39, 0, 0) 1) ∧ Γ_73 (39, 0, 0) 0 = Γ (39, 0, 0) 0 ∧ Γ_73 (39, 0, 0) 4 = Γ (39, 0, 0) 4 ∧ Γ_73 (39, 0, 0) 5 = Γ (39, 0, 0) 5 ∧ Γ_73 (39, 0, 0) 6 = Γ (39, 0, 0) 6 ∧ Γ_73 (39, 0, 0) 7 = Γ (39, 0, 0) 7 ∧ Γ_73 (39, 0, 0) 8 = Γ (39, 0, 0) 8 ∧ Γ (39, 0, 0) 1 ≤ Γ_73 (39, 0, 0) 1 ∧ Γ_73 (39, 0, 0) 1 ≤ T0 := ⟨(Or.inr rfl), ⟨(by omega), (by omega), (by omega), (by omega), (by omega), (by omega), (by omega), (by omega)⟩⟩
    exact W.zret (ty := .boolean) (v := 0) hx hb hr rfl (fun t ht hW => ⟨⟨_, (f_71, Γ_73), rfl, hpo9, by rw [ht]; exact hP, hI, hfr, hgr⟩, hS.F ht⟩) hS.2.2 dX12_sets_16
set_option maxHeartbeats 4000000 in
set_option maxRecDepth 100000 in
theorem r_sets_MNOISE (l : Launch) (D : va_G) (cy : Nat → ClassId) (sz : Nat) (L : List Nat) (K : Nat → tk_K) (Γ : tk_G) (f : Nat → va_E) (o : Nat) (q : Nat) (p0 : Int32) (p1 : Int32) (p2 : Int32) (τ : Nat → Int) (T0 : Int) (t0 : Int) (ho : tp_r L K 39 (0) 0 o) (hq : tp_r L K 56 (22) 0 q) (ht : Γ (41, 400, 0) = τ) (hT : Γ (39, 0, 0) 0 = T0) (hb0 : 0 ≤ Γ (39, 0, 0) 1 ∧ Γ (39, 0, 0) 1 ≤ T0 ∧ T0 ≤ 400) (h4 : Γ (39, 0, 0) 4 = t0 ∧ 0 ≤ t0 ∧ t0 ≤ 21) : Met l yX12_sets (tl_w yX12_sets cX12_sets 5 (some .boolean)) ({ frames := 2, cells := 0, slots := 0, locals := 49 }) (va_Pc [.ref o, .ref q, .int p0, .int p1, .int p2] (tp_P D cy L K Γ f sz)) (va_Qi (fun (r : Int32) (u : (Nat → va_E) × tk_G) => tl_J r ((p0.toInt ≤ u.2 (39, 0, 0) 3 ∧ u.2 (39, 0, 0) 3 ≤ p1.toInt) ∧ Γ (39, 0, 0) 1 + 1 ≤ u.2 (39, 0, 0) 1) ∧ u.2 (39, 0, 0) 0 = Γ (39, 0, 0) 0 ∧ u.2 (39, 0, 0) 4 = Γ (39, 0, 0) 4 ∧ u.2 (39, 0, 0) 5 = Γ (39, 0, 0) 5 ∧ u.2 (39, 0, 0) 6 = Γ (39, 0, 0) 6 ∧ u.2 (39, 0, 0) 7 = Γ (39, 0, 0) 7 ∧ u.2 (39, 0, 0) 8 = Γ (39, 0, 0) 8 ∧ Γ (39, 0, 0) 1 ≤ u.2 (39, 0, 0) 1 ∧ u.2 (39, 0, 0) 1 ≤ T0) (tp_BG D cy L K Γ f [39, 56]) (tp_A L sz)) 0 0 (tp_A L sz) := by
  refine Met.ofW (cc := cX12_sets) (maxL := 5) (ret := (some .boolean)) (by decide) rfl ?_
  intro p e s m args below meth c s₁ B hml hv
  obtain ⟨rfl, hsz, hP, hK, hL, hI, hN, hU⟩ := hv
  have hx := B.exec
  have hb := B.bytes
  have hr := B.returns
  have hta := tl_hta (atoms_spec (ws := tl_w yX12_sets cX12_sets 5 (some .boolean)) B.pre)
  have hown : s.vm.findClass RX12 = some m.cls := findClass_of_methodNamed B.named
  have hlocks := B.notSynchronized
  subst hsz
  have hI0 := hI
  generalize hAe : tp_A L s.heap.size = A
  have hA : ∀ q : Nat, s.heap.size ≤ q → A q := fun q h => by rw [← hAe]; exact Or.inr h
  have hAL : ∀ q ∈ L, A q := fun q h => by rw [← hAe]; exact Or.inl h
  have hAf : ∀ (H : Heap), s.heap.size ≤ H.size → ∀ q, tp_A L H.size q → A q := fun H h q hq => hq.elim (hAL q) (fun h2 => hA q (Nat.le_trans h h2))
  have hS : va_S A s.heap s.heap [] := va_S.rf
  have hD : va_D A (va_pl L f) := tp_D hL hAL
  have hfr : ∀ b, (K b).1 ∉ ([39, 56] : List Nat) → f b = f b := fun _ _ => rfl
  have hgr : ∀ κ : tk_K, κ.1 ∉ ([39, 56] : List Nat) → Γ κ = Γ κ := fun _ _ => rfl
  have hl := lv_entry ([.ref o, .ref q, .int p0, .int p1, .int p2]) (n := 5) (Nat.le_of_ble_eq_true rfl)
  rw [lg_entry_eq]
  generalize (lg_sl ([.ref o, .ref q, .int p0, .int p1, .int p2]) ++ List.replicate (5 - (lg_sl ([.ref o, .ref q, .int p0, .int p1, .int p2])).length) Slot.unset).toArray = ls at hl ⊢
  have hl : lv_has ls 5 [(0, .ref o), (1, .ref q), (2, .int p0), (3, .int p1), (4, .int p2)] := hl
  refine lv_aload_n hx hb dX12_sets_0 rfl (lv_at hl 1 rfl) ?_
  refine lv_aload_n hx hb dX12_sets_1 rfl (lv_at hl 0 rfl) ?_
  obtain ⟨r_2, v_3, q_4, hf_1, hr_5, hv_6⟩ := (show tp_o_M L K 0 0 (Γ (39, 0, 0)) (f o) from hI.at ho)
  have hx_10 : (v_3 4).toInt = Γ (39, 0, 0) 4 := hv_6 4 (by decide)
  refine tp_get (cy := cy) (ci := 12) (v := .int (v_3 4)) (C := RX12) (T := TX12) (N := 49) hx hb hta inlX12 hown hK hP ho.1 hf_1 rfl 20 (by decide) (hta _ wk_537) (fun _ h9 => h9) rfl dX12_sets_2 ?_
  obtain ⟨g_16, hf_15, hg_17⟩ := (show tp_ai cy 56 (22) (f q) from hI.at hq)
  have hn_18 : vp_in (v_3 4) (22) := tl_in (by omega) (by omega)
  refine tp_iald (cy := cy) hx hb hK hP hq.1 hf_15 hn_18 dX12_sets_5 ?_
  refine lv_topi (fun z_19 ez_19 => ?_)
  refine lv_if_lt (tgt := 17) hx hb dX12_sets_6 (by decide) (fun c_20 => ?_) (fun c_20 => ?_)
  · have c_20 : z_19.toInt < (0 : Int) := tl_lt c_20
    refine lv_aload_n hx hb dX12_sets_17 rfl (lv_at hl 0 rfl) ?_
    refine tq_cvR hS (hAf _ hS.1) (tq_rV (As := []) (rest := []) ⟨hx, hb, hml, hown, hta⟩ (tp_P.pre hK hN hL hU hI hP) (tp_recv hK hP ho.1 hf_1 rfl) lk_X12_178 (r_X12_passWord l D cy s.heap.size L K Γ f o τ T0 ho ht (by first | omega | (simp only [Int32.toInt_toInt64]; omega) | decide | assumption) (by first | omega | (simp only [Int32.toInt_toInt64]; omega) | decide | assumption)) rfl rfl ⟨Nat.le_of_ble_eq_true rfl, Nat.le_of_ble_eq_true rfl⟩ rfl hl.1 rfl (Nat.le_of_ble_eq_true rfl) dX12_sets_18 ⟨Nat.le_of_ble_eq_true rfl, Nat.le_of_ble_eq_true rfl⟩) (fun f_23 Γ_25 H locs hw_21 hP hI hc_24 hcg_26 hS => ?_)
    have hD : va_D A (va_pl L f_23) := tp_D hL hAL
    have hfr := tp_fr2 hfr hc_24 (by decide)
    have hgr : ∀ κ : tk_K, κ.1 ∉ ([39, 56] : List Nat) → Γ_25 κ = Γ κ := tg_fr2 hgr hcg_26 (by decide)
    have hf_27 := (tp_un hc_24 hq (by decide)).trans hf_15
    have hw_21 : Γ_25 (39, 0, 0) 0 = Γ (39, 0, 0) 0 ∧ Γ_25 (39, 0, 0) 3 = Γ (39, 0, 0) 3 ∧ Γ_25 (39, 0, 0) 4 = Γ (39, 0, 0) 4 ∧ Γ_25 (39, 0, 0) 5 = Γ (39, 0, 0) 5 ∧ Γ_25 (39, 0, 0) 6 = Γ (39, 0, 0) 6 ∧ Γ_25 (39, 0, 0) 7 = Γ (39, 0, 0) 7 ∧ Γ_25 (39, 0, 0) 8 = Γ (39, 0, 0) 8 ∧ Γ (39, 0, 0) 1 ≤ Γ_25 (39, 0, 0) 1 ∧ Γ_25 (39, 0, 0) 1 ≤ T0 ∧ (tr_L τ T0 (Γ (39, 0, 0) 1) → Γ (39, 0, 0) 1 + 1 ≤ Γ_25 (39, 0, 0) 1) := hw_21
    refine lv_aload_n hx hb dX12_sets_21 rfl (lv_at hl 0 rfl) ?_
    refine lv_iload_n hx hb dX12_sets_22 rfl (lv_at hl 2 rfl) ?_
    refine lv_iload_n hx hb dX12_sets_23 rfl (lv_at hl 3 rfl) ?_
    obtain ⟨r_29, v_30, q_31, hf_28, hr_32, hv_33⟩ := (show tp_o_M L K 0 0 (Γ_25 (39, 0, 0)) (f_23 o) from hI.at ho)
    refine tq_ciR hS (hAf _ hS.1) (tq_rV (As := [.int p0, .int p1]) (rest := []) ⟨hx, hb, hml, hown, hta⟩ (tp_P.pre hK hN hL hU hI hP) (tp_recv hK hP ho.1 hf_28 rfl) lk_X12_233 (r_X12_numberHere l D cy H.size L K Γ_25 f_23 o p0 p1 τ T0 ho ((hgr _ (by decide)).trans ht) (by first | omega | (simp only [Int32.toInt_toInt64]; omega) | decide | assumption) (by first | omega | (simp only [Int32.toInt_toInt64]; omega) | decide | assumption)) rfl rfl ⟨Nat.le_of_ble_eq_true rfl, Nat.le_of_ble_eq_true rfl⟩ rfl hl.1 rfl (Nat.le_of_ble_eq_true rfl) dX12_sets_24 ⟨Nat.le_of_ble_eq_true rfl, Nat.le_of_ble_eq_true rfl⟩) (fun r_43 f_44 Γ_46 H locs hw_42 hP hI hc_45 hcg_47 hS => ?_)
    have hD : va_D A (va_pl L f_44) := tp_D hL hAL
    have hfr := tp_fr2 hfr hc_45 (by decide)
    have hgr : ∀ κ : tk_K, κ.1 ∉ ([39, 56] : List Nat) → Γ_46 κ = Γ κ := tg_fr2 hgr hcg_47 (by decide)
    have hf_48 := (tp_un hc_45 hq (by decide)).trans hf_27
    obtain ⟨hE_49, hw_42⟩ := hw_42
    have hE_49 : tl_J r_43 (p0.toInt ≤ Γ_46 (39, 0, 0) 3 ∧ Γ_46 (39, 0, 0) 3 ≤ p1.toInt ∧ Γ_25 (39, 0, 0) 1 + 1 ≤ Γ_46 (39, 0, 0) 1) := hE_49
    have hw_42 : Γ_46 (39, 0, 0) 0 = Γ_25 (39, 0, 0) 0 ∧ Γ_46 (39, 0, 0) 4 = Γ_25 (39, 0, 0) 4 ∧ Γ_46 (39, 0, 0) 5 = Γ_25 (39, 0, 0) 5 ∧ Γ_46 (39, 0, 0) 6 = Γ_25 (39, 0, 0) 6 ∧ Γ_46 (39, 0, 0) 7 = Γ_25 (39, 0, 0) 7 ∧ Γ_46 (39, 0, 0) 8 = Γ_25 (39, 0, 0) 8 ∧ Γ_25 (39, 0, 0) 1 ≤ Γ_46 (39, 0, 0) 1 ∧ Γ_46 (39, 0, 0) 1 ≤ T0 := hw_42
    refine lv_if_ne (tgt := 32) hx hb dX12_sets_27 (by decide) (fun c_50 => ?_) (fun c_50 => ?_)
    · have c_50 := hE_49.t c_50
      refine lv_aload_n hx hb dX12_sets_32 rfl (lv_at hl 1 rfl) ?_
      refine lv_aload_n hx hb dX12_sets_33 rfl (lv_at hl 0 rfl) ?_
      obtain ⟨r_52, v_53, q_54, hf_51, hr_55, hv_56⟩ := (show tp_o_M L K 0 0 (Γ_46 (39, 0, 0)) (f_44 o) from hI.at ho)
      have hx_59 : (v_53 3).toInt = Γ_46 (39, 0, 0) 3 := hv_56 3 (by decide)
      have hx_60 : (v_53 4).toInt = Γ_46 (39, 0, 0) 4 := hv_56 4 (by decide)
      refine tp_get (cy := cy) (ci := 12) (v := .int (v_53 4)) (C := RX12) (T := TX12) (N := 49) hx hb hta inlX12 hown hK hP ho.1 hf_51 rfl 20 (by decide) (hta _ wk_537) (fun _ h9 => h9) rfl dX12_sets_34 ?_
      refine lv_aload_n hx hb dX12_sets_37 rfl (lv_at hl 0 rfl) ?_
      refine tp_get (cy := cy) (ci := 12) (v := .int (v_53 3)) (C := RX12) (T := TX12) (N := 49) hx hb hta inlX12 hown hK hP ho.1 hf_51 rfl 19 (by decide) (hta _ wk_585) (fun _ h9 => h9) rfl dX12_sets_38 ?_
      have hn_65 : vp_in (v_53 4) (22) := tl_in (by omega) (by omega)
      have hI9 : tp_I cy L K Γ_46 (va_up f_44 q (.inl (cy 0, 22, .inl (upd g_16 (v_53 4).toNatClampNeg (v_53 3))))) := hI.set hq (show tp_ai cy 56 (22) _ from ⟨_, rfl, tp_pi_upd hg_17 trivial⟩)
      have hfr9 : ∀ b, (K b).1 ∉ ([39, 56] : List Nat) → va_up f_44 q (.inl (cy 0, 22, .inl (upd g_16 (v_53 4).toNatClampNeg (v_53 3)))) b = f b := tp_fr hfr hq (by decide)
      refine tp_iast (cy := cy) hx hb hK hP hD hS hq.1 hf_48 hn_65 dX12_sets_41 (fun H locs hP hD hS => ?_)
      have hP : va_P D vwCl (va_pl L (va_up f_44 q (.inl (cy 0, 22, .inl (upd g_16 (v_53 4).toNatClampNeg (v_53 3)))))) H := hP
      generalize hfe : va_up f_44 q (.inl (cy 0, 22, .inl (upd g_16 (v_53 4).toNatClampNeg (v_53 3)))) = f_66 at hP hI9 hfr9
      have hD : va_D A (va_pl L f_66) := tp_D hL hAL
      have hf_67 : f_66 q = .inl (cy 0, 22, .inl (upd g_16 (v_53 4).toNatClampNeg (v_53 3))) := by rw [← hfe]; exact va_up_self _ _ _
      have hf_68 := (show f_66 o = _ from by rw [← hfe, va_up_ne _ _ (tp_ne ho hq (by decide))]).trans hf_51
      clear hfe
      have hI := hI9
      have hfr := hfr9
      clear hI9 hfr9
      refine lv_iconst (v := 1) hx hb dX12_sets_42 (by decide) ?_
      have hpo9 : tl_J (1 : Int32) ((p0.toInt ≤ Γ_46 (39, 0, 0) 3 ∧ Γ_46 (39, 0, 0) 3 ≤ p1.toInt) ∧ Γ (39, 0, 0) 1 + 1 ≤ Γ_46 (39, 0, 0) 1) ∧ Γ_46 (39, 0, 0) 0 = Γ (39, 0, 0) 0 ∧ Γ_46 (39, 0, 0) 4 = Γ (39, 0, 0) 4 ∧ Γ_46 (39, 0, 0) 5 = Γ (39, 0, 0) 5 ∧ Γ_46 (39, 0, 0) 6 = Γ (39, 0, 0) 6 ∧ Γ_46 (39, 0, 0) 7 = Γ (39, 0, 0) 7 ∧ Γ_46 (39, 0, 0) 8 = Γ (39, 0, 0) 8 ∧ Γ (39, 0, 0) 1 ≤ Γ_46 (39, 0, 0) 1 ∧ Γ_46 (39, 0, 0) 1 ≤ T0 := ⟨(Or.inl ⟨rfl, ⟨(by omega), (by omega)⟩⟩), ⟨(by omega), (by omega), (by omega), (by omega), (by omega), (by omega), (by omega), (by omega)⟩⟩
      exact W.zret (ty := .boolean) (v := 1) hx hb hr rfl (fun t ht hW => ⟨⟨_, (f_66, Γ_46), rfl, hpo9, by rw [ht]; exact hP, hI, hfr, hgr⟩, hS.F ht⟩) hS.2.2 dX12_sets_43
    · have c_50 := c_50
      refine lv_iconst (v := 0) hx hb dX12_sets_30 (by decide) ?_
      have hpo9 : tl_J (0 : Int32) ((p0.toInt ≤ Γ_46 (39, 0, 0) 3 ∧ Γ_46 (39, 0, 0) 3 ≤ p1.toInt) ∧ Γ (39, 0, 0) 1 + 1 ≤ Γ_46 (39, 0, 0) 1) ∧ Γ_46 (39, 0, 0) 0 = Γ (39, 0, 0) 0 ∧ Γ_46 (39, 0, 0) 4 = Γ (39, 0, 0) 4 ∧ Γ_46 (39, 0, 0) 5 = Γ (39, 0, 0) 5 ∧ Γ_46 (39, 0, 0) 6 = Γ (39, 0, 0) 6 ∧ Γ_46 (39, 0, 0) 7 = Γ (39, 0, 0) 7 ∧ Γ_46 (39, 0, 0) 8 = Γ (39, 0, 0) 8 ∧ Γ (39, 0, 0) 1 ≤ Γ_46 (39, 0, 0) 1 ∧ Γ_46 (39, 0, 0) 1 ≤ T0 := ⟨(Or.inr rfl), ⟨(by omega), (by omega), (by omega), (by omega), (by omega), (by omega), (by omega), (by omega)⟩⟩
      exact W.zret (ty := .boolean) (v := 0) hx hb hr rfl (fun t ht hW => ⟨⟨_, (f_44, Γ_46), rfl, hpo9, by rw [ht]; exact hP, hI, hfr, hgr⟩, hS.F ht⟩) hS.2.2 dX12_sets_31
  · have c_20 : (0 : Int) ≤ z_19.toInt := tl_nlt c_20
    refine lv_aload_n hx hb dX12_sets_9 rfl (lv_at hl 0 rfl) ?_
    refine lv_iconst (v := 4) hx hb dX12_sets_10 (by decide) ?_
    refine lv_iload hx hb dX12_sets_11 (lv_at hl 4 rfl) ?_
    refine tq_ciR hS (hAf _ hS.1) (tq_rV (As := [.int 4, .int p2]) (rest := []) ⟨hx, hb, hml, hown, hta⟩ (tp_P.pre hK hN hL hU hI hP) (tp_recv hK hP ho.1 hf_1 rfl) lk_X12_184 (r_X12_fails l D cy s.heap.size L K Γ f o 4 p2 ho) rfl rfl ⟨Nat.le_of_ble_eq_true rfl, Nat.le_of_ble_eq_true rfl⟩ rfl hl.1 rfl (Nat.le_of_ble_eq_true rfl) dX12_sets_13 ⟨Nat.le_of_ble_eq_true rfl, Nat.le_of_ble_eq_true rfl⟩) (fun r_70 f_71 Γ_73 H locs hw_69 hP hI hc_72 hcg_74 hS => ?_)
    have hD : va_D A (va_pl L f_71) := tp_D hL hAL
    have hfr := tp_fr2 hfr hc_72 (by decide)
    have hgr : ∀ κ : tk_K, κ.1 ∉ ([39, 56] : List Nat) → Γ_73 κ = Γ κ := tg_fr2 hgr hcg_74 (by decide)
    have hf_75 := (tp_un hc_72 hq (by decide)).trans hf_15
    obtain ⟨rfl, hw_69⟩ := hw_69
    have hw_69 : Γ_73 (39, 0, 0) 0 = Γ (39, 0, 0) 0 ∧ Γ_73 (39, 0, 0) 1 = Γ (39, 0, 0) 1 ∧ Γ_73 (39, 0, 0) 3 = Γ (39, 0, 0) 3 ∧ Γ_73 (39, 0, 0) 4 = Γ (39, 0, 0) 4 ∧ Γ_73 (39, 0, 0) 5 = Γ (39, 0, 0) 5 ∧ Γ_73 (39, 0, 0) 6 = Γ (39, 0, 0) 6 ∧ Γ_73 (39, 0, 0) 7 = Γ (39, 0, 0) 7 ∧ Γ_73 (39, 0, 0) 8 = Γ (39, 0, 0) 8 := hw_69
    have hpo9 : tl_J (0 : Int32) ((p0.toInt ≤ Γ_73 (39, 0, 0) 3 ∧ Γ_73 (39, 0, 0) 3 ≤ p1.toInt) ∧ Γ (39, 0, 0) 1 + 1 ≤ Γ_73 (39, 0, 0) 1) ∧ Γ_73 (39, 0, 0) 0 = Γ (39, 0, 0) 0 ∧ Γ_73 (39, 0, 0) 4 = Γ (39, 0, 0) 4 ∧ Γ_73 (39, 0, 0) 5 = Γ (39, 0, 0) 5 ∧ Γ_73 (39, 0, 0) 6 = Γ (39, 0, 0) 6 ∧ Γ_73 (39, 0, 0) 7 = Γ (39, 0, 0) 7 ∧ Γ_73 (39, 0, 0) 8 = Γ (39, 0, 0) 8 ∧ Γ (39, 0, 0) 1 ≤ Γ_73 (39, 0, 0) 1 ∧ Γ_73 (39, 0, 0) 1 ≤ T0 := ⟨(Or.inr rfl), ⟨(by omega), (by omega), (by omega), (by omega), (by omega), (by omega), (by omega), (by omega)⟩⟩
    exact W.zret (ty := .boolean) (v := 0) hx hb hr rfl (fun t ht hW => ⟨⟨_, (f_71, Γ_73), rfl, hpo9, by rw [ht]; exact hP, hI, hfr, hgr⟩, hS.F ht⟩) hS.2.2 dX12_sets_16
set_option maxHeartbeats 4000000 in
set_option maxRecDepth 100000 in
theorem r_sets_MBENDS (l : Launch) (D : va_G) (cy : Nat → ClassId) (sz : Nat) (L : List Nat) (K : Nat → tk_K) (Γ : tk_G) (f : Nat → va_E) (o : Nat) (q : Nat) (p0 : Int32) (p1 : Int32) (p2 : Int32) (τ : Nat → Int) (T0 : Int) (t0 : Int) (ho : tp_r L K 39 (0) 0 o) (hq : tp_r L K 48 (22) 0 q) (ht : Γ (41, 400, 0) = τ) (hT : Γ (39, 0, 0) 0 = T0) (hb0 : 0 ≤ Γ (39, 0, 0) 1 ∧ Γ (39, 0, 0) 1 ≤ T0 ∧ T0 ≤ 400) (h4 : Γ (39, 0, 0) 4 = t0 ∧ 0 ≤ t0 ∧ t0 ≤ 21) : Met l yX12_sets (tl_w yX12_sets cX12_sets 5 (some .boolean)) ({ frames := 2, cells := 0, slots := 0, locals := 49 }) (va_Pc [.ref o, .ref q, .int p0, .int p1, .int p2] (tp_P D cy L K Γ f sz)) (va_Qi (fun (r : Int32) (u : (Nat → va_E) × tk_G) => tl_J r ((p0.toInt ≤ u.2 (39, 0, 0) 3 ∧ u.2 (39, 0, 0) 3 ≤ p1.toInt) ∧ Γ (39, 0, 0) 1 + 1 ≤ u.2 (39, 0, 0) 1 ∧ u.2 (48, 22, 0) = tgu (Γ (48, 22, 0)) t0.toNat (u.2 (39, 0, 0) 3)) ∧ u.2 (39, 0, 0) 0 = Γ (39, 0, 0) 0 ∧ u.2 (39, 0, 0) 4 = Γ (39, 0, 0) 4 ∧ u.2 (39, 0, 0) 5 = Γ (39, 0, 0) 5 ∧ u.2 (39, 0, 0) 6 = Γ (39, 0, 0) 6 ∧ u.2 (39, 0, 0) 7 = Γ (39, 0, 0) 7 ∧ u.2 (39, 0, 0) 8 = Γ (39, 0, 0) 8 ∧ Γ (39, 0, 0) 1 ≤ u.2 (39, 0, 0) 1 ∧ u.2 (39, 0, 0) 1 ≤ T0 ∧ (∀ j : Nat, ¬ j = t0.toNat → u.2 (48, 22, 0) j = Γ (48, 22, 0) j) ∧ (u.2 (48, 22, 0) t0.toNat = Γ (48, 22, 0) t0.toNat ∨ (p0.toInt ≤ u.2 (48, 22, 0) t0.toNat ∧ u.2 (48, 22, 0) t0.toNat ≤ p1.toInt))) (tp_BG D cy L K Γ f [39, 48]) (tp_A L sz)) 0 0 (tp_A L sz) := by
  refine Met.ofW (cc := cX12_sets) (maxL := 5) (ret := (some .boolean)) (by decide) rfl ?_
  intro p e s m args below meth c s₁ B hml hv
  obtain ⟨rfl, hsz, hP, hK, hL, hI, hN, hU⟩ := hv
  have hx := B.exec
  have hb := B.bytes
  have hr := B.returns
  have hta := tl_hta (atoms_spec (ws := tl_w yX12_sets cX12_sets 5 (some .boolean)) B.pre)
  have hown : s.vm.findClass RX12 = some m.cls := findClass_of_methodNamed B.named
  have hlocks := B.notSynchronized
  subst hsz
  have hI0 := hI
  generalize hAe : tp_A L s.heap.size = A
  have hA : ∀ q : Nat, s.heap.size ≤ q → A q := fun q h => by rw [← hAe]; exact Or.inr h
  have hAL : ∀ q ∈ L, A q := fun q h => by rw [← hAe]; exact Or.inl h
  have hAf : ∀ (H : Heap), s.heap.size ≤ H.size → ∀ q, tp_A L H.size q → A q := fun H h q hq => hq.elim (hAL q) (fun h2 => hA q (Nat.le_trans h h2))
  have hS : va_S A s.heap s.heap [] := va_S.rf
  have hD : va_D A (va_pl L f) := tp_D hL hAL
  have hfr : ∀ b, (K b).1 ∉ ([39, 48] : List Nat) → f b = f b := fun _ _ => rfl
  have hgr : ∀ κ : tk_K, κ.1 ∉ ([39, 48] : List Nat) → Γ κ = Γ κ := fun _ _ => rfl
  have hl := lv_entry ([.ref o, .ref q, .int p0, .int p1, .int p2]) (n := 5) (Nat.le_of_ble_eq_true rfl)
  rw [lg_entry_eq]
  generalize (lg_sl ([.ref o, .ref q, .int p0, .int p1, .int p2]) ++ List.replicate (5 - (lg_sl ([.ref o, .ref q, .int p0, .int p1, .int p2])).length) Slot.unset).toArray = ls at hl ⊢
  have hl : lv_has ls 5 [(0, .ref o), (1, .ref q), (2, .int p0), (3, .int p1), (4, .int p2)] := hl
  have hO : Γ (48, 22, 0) = Γ (48, 22, 0) := rfl
  refine lv_aload_n hx hb dX12_sets_0 rfl (lv_at hl 1 rfl) ?_
  refine lv_aload_n hx hb dX12_sets_1 rfl (lv_at hl 0 rfl) ?_
  obtain ⟨r_2, v_3, q_4, hf_1, hr_5, hv_6⟩ := (show tp_o_M L K 0 0 (Γ (39, 0, 0)) (f o) from hI.at ho)
  have hx_10 : (v_3 4).toInt = Γ (39, 0, 0) 4 := hv_6 4 (by decide)
  refine tp_get (cy := cy) (ci := 12) (v := .int (v_3 4)) (C := RX12) (T := TX12) (N := 49) hx hb hta inlX12 hown hK hP ho.1 hf_1 rfl 20 (by decide) (hta _ wk_537) (fun _ h9 => h9) rfl dX12_sets_2 ?_
  obtain ⟨g_16, hf_15, hg_17⟩ := (show tp_gi cy (22) (Γ (48, 22, 0)) (f q) from hI.at hq)
  have hn_18 : vp_in (v_3 4) (22) := tl_in (by omega) (by omega)
  refine tp_iald (cy := cy) hx hb hK hP hq.1 hf_15 hn_18 dX12_sets_5 ?_
  refine lv_topi (fun z_19 ez_19 => ?_)
  have iz_19 : z_19.toInt = Γ (48, 22, 0) (v_3 4).toInt.toNat := by rw [ez_19]; exact hg_17 _ (tp_pin hn_18)
  have jz_19 : z_19.toInt = Γ (48, 22, 0) t0.toNat := by rw [show t0 = (v_3 4).toInt from by omega]; exact iz_19
  refine lv_if_lt (tgt := 17) hx hb dX12_sets_6 (by decide) (fun c_20 => ?_) (fun c_20 => ?_)
  · have c_20 : z_19.toInt < (0 : Int) := tl_lt c_20
    refine lv_aload_n hx hb dX12_sets_17 rfl (lv_at hl 0 rfl) ?_
    refine tq_cvR hS (hAf _ hS.1) (tq_rV (As := []) (rest := []) ⟨hx, hb, hml, hown, hta⟩ (tp_P.pre hK hN hL hU hI hP) (tp_recv hK hP ho.1 hf_1 rfl) lk_X12_178 (r_X12_passWord l D cy s.heap.size L K Γ f o τ T0 ho ht (by first | omega | (simp only [Int32.toInt_toInt64]; omega) | decide | assumption) (by first | omega | (simp only [Int32.toInt_toInt64]; omega) | decide | assumption)) rfl rfl ⟨Nat.le_of_ble_eq_true rfl, Nat.le_of_ble_eq_true rfl⟩ rfl hl.1 rfl (Nat.le_of_ble_eq_true rfl) dX12_sets_18 ⟨Nat.le_of_ble_eq_true rfl, Nat.le_of_ble_eq_true rfl⟩) (fun f_23 Γ_25 H locs hw_21 hP hI hc_24 hcg_26 hS => ?_)
    have hD : va_D A (va_pl L f_23) := tp_D hL hAL
    have hfr := tp_fr2 hfr hc_24 (by decide)
    have hgr : ∀ κ : tk_K, κ.1 ∉ ([39, 48] : List Nat) → Γ_25 κ = Γ κ := tg_fr2 hgr hcg_26 (by decide)
    have hf_27 := (tp_un hc_24 hq (by decide)).trans hf_15
    have hg_28 : ∀ j : Nat, j < 22 → (g_16 j).toInt = Γ_25 (48, 22, 0) j := fun j hj => by rw [hcg_26 _ (by decide)]; exact hg_17 j hj
    have hw_21 : Γ_25 (39, 0, 0) 0 = Γ (39, 0, 0) 0 ∧ Γ_25 (39, 0, 0) 3 = Γ (39, 0, 0) 3 ∧ Γ_25 (39, 0, 0) 4 = Γ (39, 0, 0) 4 ∧ Γ_25 (39, 0, 0) 5 = Γ (39, 0, 0) 5 ∧ Γ_25 (39, 0, 0) 6 = Γ (39, 0, 0) 6 ∧ Γ_25 (39, 0, 0) 7 = Γ (39, 0, 0) 7 ∧ Γ_25 (39, 0, 0) 8 = Γ (39, 0, 0) 8 ∧ Γ (39, 0, 0) 1 ≤ Γ_25 (39, 0, 0) 1 ∧ Γ_25 (39, 0, 0) 1 ≤ T0 ∧ (tr_L τ T0 (Γ (39, 0, 0) 1) → Γ (39, 0, 0) 1 + 1 ≤ Γ_25 (39, 0, 0) 1) := hw_21
    have hO : Γ_25 (48, 22, 0) = Γ (48, 22, 0) := (hcg_26 (48, 22, 0) (by decide)).trans hO
    refine lv_aload_n hx hb dX12_sets_21 rfl (lv_at hl 0 rfl) ?_
    refine lv_iload_n hx hb dX12_sets_22 rfl (lv_at hl 2 rfl) ?_
    refine lv_iload_n hx hb dX12_sets_23 rfl (lv_at hl 3 rfl) ?_
    obtain ⟨r_30, v_31, q_32, hf_29, hr_33, hv_34⟩ := (show tp_o_M L K 0 0 (Γ_25 (39, 0, 0)) (f_23 o) from hI.at ho)
    refine tq_ciR hS (hAf _ hS.1) (tq_rV (As := [.int p0, .int p1]) (rest := []) ⟨hx, hb, hml, hown, hta⟩ (tp_P.pre hK hN hL hU hI hP) (tp_recv hK hP ho.1 hf_29 rfl) lk_X12_233 (r_X12_numberHere l D cy H.size L K Γ_25 f_23 o p0 p1 τ T0 ho ((hgr _ (by decide)).trans ht) (by first | omega | (simp only [Int32.toInt_toInt64]; omega) | decide | assumption) (by first | omega | (simp only [Int32.toInt_toInt64]; omega) | decide | assumption)) rfl rfl ⟨Nat.le_of_ble_eq_true rfl, Nat.le_of_ble_eq_true rfl⟩ rfl hl.1 rfl (Nat.le_of_ble_eq_true rfl) dX12_sets_24 ⟨Nat.le_of_ble_eq_true rfl, Nat.le_of_ble_eq_true rfl⟩) (fun r_44 f_45 Γ_47 H locs hw_43 hP hI hc_46 hcg_48 hS => ?_)
    have hD : va_D A (va_pl L f_45) := tp_D hL hAL
    have hfr := tp_fr2 hfr hc_46 (by decide)
    have hgr : ∀ κ : tk_K, κ.1 ∉ ([39, 48] : List Nat) → Γ_47 κ = Γ κ := tg_fr2 hgr hcg_48 (by decide)
    have hf_49 := (tp_un hc_46 hq (by decide)).trans hf_27
    have hg_50 : ∀ j : Nat, j < 22 → (g_16 j).toInt = Γ_47 (48, 22, 0) j := fun j hj => by rw [hcg_48 _ (by decide)]; exact hg_28 j hj
    obtain ⟨hE_51, hw_43⟩ := hw_43
    have hE_51 : tl_J r_44 (p0.toInt ≤ Γ_47 (39, 0, 0) 3 ∧ Γ_47 (39, 0, 0) 3 ≤ p1.toInt ∧ Γ_25 (39, 0, 0) 1 + 1 ≤ Γ_47 (39, 0, 0) 1) := hE_51
    have hw_43 : Γ_47 (39, 0, 0) 0 = Γ_25 (39, 0, 0) 0 ∧ Γ_47 (39, 0, 0) 4 = Γ_25 (39, 0, 0) 4 ∧ Γ_47 (39, 0, 0) 5 = Γ_25 (39, 0, 0) 5 ∧ Γ_47 (39, 0, 0) 6 = Γ_25 (39, 0, 0) 6 ∧ Γ_47 (39, 0, 0) 7 = Γ_25 (39, 0, 0) 7 ∧ Γ_47 (39, 0, 0) 8 = Γ_25 (39, 0, 0) 8 ∧ Γ_25 (39, 0, 0) 1 ≤ Γ_47 (39, 0, 0) 1 ∧ Γ_47 (39, 0, 0) 1 ≤ T0 := hw_43
    have hO : Γ_47 (48, 22, 0) = Γ (48, 22, 0) := (hcg_48 (48, 22, 0) (by decide)).trans hO
    refine lv_if_ne (tgt := 32) hx hb dX12_sets_27 (by decide) (fun c_52 => ?_) (fun c_52 => ?_)
    · have c_52 := hE_51.t c_52
      refine lv_aload_n hx hb dX12_sets_32 rfl (lv_at hl 1 rfl) ?_
      refine lv_aload_n hx hb dX12_sets_33 rfl (lv_at hl 0 rfl) ?_
      obtain ⟨r_54, v_55, q_56, hf_53, hr_57, hv_58⟩ := (show tp_o_M L K 0 0 (Γ_47 (39, 0, 0)) (f_45 o) from hI.at ho)
      have hx_59 : (v_55 0).toInt = Γ_47 (39, 0, 0) 0 := hv_58 0 (by decide)
      have hx_60 : (v_55 1).toInt = Γ_47 (39, 0, 0) 1 := hv_58 1 (by decide)
      have hx_61 : (v_55 3).toInt = Γ_47 (39, 0, 0) 3 := hv_58 3 (by decide)
      have hx_62 : (v_55 4).toInt = Γ_47 (39, 0, 0) 4 := hv_58 4 (by decide)
      have hx_63 : (v_55 5).toInt = Γ_47 (39, 0, 0) 5 := hv_58 5 (by decide)
      have hx_64 : (v_55 6).toInt = Γ_47 (39, 0, 0) 6 := hv_58 6 (by decide)
      have hx_65 : (v_55 7).toInt = Γ_47 (39, 0, 0) 7 := hv_58 7 (by decide)
      have hx_66 : (v_55 8).toInt = Γ_47 (39, 0, 0) 8 := hv_58 8 (by decide)
      refine tp_get (cy := cy) (ci := 12) (v := .int (v_55 4)) (C := RX12) (T := TX12) (N := 49) hx hb hta inlX12 hown hK hP ho.1 hf_53 rfl 20 (by decide) (hta _ wk_537) (fun _ h9 => h9) rfl dX12_sets_34 ?_
      refine lv_aload_n hx hb dX12_sets_37 rfl (lv_at hl 0 rfl) ?_
      refine tp_get (cy := cy) (ci := 12) (v := .int (v_55 3)) (C := RX12) (T := TX12) (N := 49) hx hb hta inlX12 hown hK hP ho.1 hf_53 rfl 19 (by decide) (hta _ wk_585) (fun _ h9 => h9) rfl dX12_sets_38 ?_
      have hn_67 : vp_in (v_55 4) (22) := tl_in (by omega) (by omega)
      have hj_68 : (v_55 4).toNatClampNeg = t0.toNat := by show (v_55 4).toInt.toNat = _; omega
      have hv_69 : (v_55 3).toInt = Γ_47 (39, 0, 0) 3 := by omega
      obtain ⟨Γ_70, eΓ_70⟩ : ∃ y : tk_G, y = tg Γ_47 (48, 22, 0) t0.toNat (Γ_47 (39, 0, 0) 3) := ⟨_, rfl⟩
      have hI9 : tp_I cy L K Γ_70 (va_up f_45 q (.inl (cy 0, 22, .inl (upd g_16 (v_55 4).toNatClampNeg (v_55 3))))) := by have q9 : tg Γ_47 (48, 22, 0) t0.toNat (Γ_47 (39, 0, 0) 3) = tg Γ_47 (48, 22, 0) (v_55 4).toNatClampNeg (v_55 3).toInt := (by rw [hj_68, hv_69]); rw [eΓ_70, q9]; exact hI.setg hU rfl hq (show tp_gi cy (22) (tgu (Γ_47 (48, 22, 0)) _ _) _ from ⟨_, rfl, tp_gi_upd hg_50⟩)
      have hfr9 : ∀ b, (K b).1 ∉ ([39, 48] : List Nat) → va_up f_45 q (.inl (cy 0, 22, .inl (upd g_16 (v_55 4).toNatClampNeg (v_55 3)))) b = f b := tp_fr hfr hq (by decide)
      refine tp_iast (cy := cy) hx hb hK hP hD hS hq.1 hf_49 hn_67 dX12_sets_41 (fun H locs hP hD hS => ?_)
      have hP : va_P D vwCl (va_pl L (va_up f_45 q (.inl (cy 0, 22, .inl (upd g_16 (v_55 4).toNatClampNeg (v_55 3)))))) H := hP
      generalize hfe : va_up f_45 q (.inl (cy 0, 22, .inl (upd g_16 (v_55 4).toNatClampNeg (v_55 3)))) = f_71 at hP hI9 hfr9
      have hD : va_D A (va_pl L f_71) := tp_D hL hAL
      have hf_72 : f_71 q = .inl (cy 0, 22, .inl (upd g_16 (v_55 4).toNatClampNeg (v_55 3))) := by rw [← hfe]; exact va_up_self _ _ _
      have hf_73 := (show f_71 o = _ from by rw [← hfe, va_up_ne _ _ (tp_ne ho hq (by decide))]).trans hf_53
      clear hfe
      have hI := hI9
      have hfr := hfr9
      clear hI9 hfr9
      have wsΓ_70 : Γ_70 (48, 22, 0) t0.toNat = Γ_47 (39, 0, 0) 3 := by rw [eΓ_70]; exact tg_s
      have hgr : ∀ κ : tk_K, κ.1 ∉ ([39, 48] : List Nat) → Γ_70 κ = Γ κ := tg_fr hgr eΓ_70 (by decide)
      have hv_74 : ∀ i : Nat, i < 16 → (v_55 i).toInt = Γ_70 (39, 0, 0) i := fun i hi => by rw [eΓ_70, tg_r (by decide)]; exact hv_58 i hi
      have hx_75 : (v_55 0).toInt = Γ_70 (39, 0, 0) 0 := hv_74 0 (by decide)
      have hx_76 : (v_55 1).toInt = Γ_70 (39, 0, 0) 1 := hv_74 1 (by decide)
      have hx_77 : (v_55 3).toInt = Γ_70 (39, 0, 0) 3 := hv_74 3 (by decide)
      have hx_78 : (v_55 4).toInt = Γ_70 (39, 0, 0) 4 := hv_74 4 (by decide)
      have hx_79 : (v_55 5).toInt = Γ_70 (39, 0, 0) 5 := hv_74 5 (by decide)
      have hx_80 : (v_55 6).toInt = Γ_70 (39, 0, 0) 6 := hv_74 6 (by decide)
      have hx_81 : (v_55 7).toInt = Γ_70 (39, 0, 0) 7 := hv_74 7 (by decide)
      have hx_82 : (v_55 8).toInt = Γ_70 (39, 0, 0) 8 := hv_74 8 (by decide)
      have hO : Γ_70 (48, 22, 0) = tgu (Γ (48, 22, 0)) t0.toNat (Γ_47 (39, 0, 0) 3) := by rw [eΓ_70, tg_f, hO]
      refine lv_iconst (v := 1) hx hb dX12_sets_42 (by decide) ?_
      have hpo9 : tl_J (1 : Int32) ((p0.toInt ≤ Γ_70 (39, 0, 0) 3 ∧ Γ_70 (39, 0, 0) 3 ≤ p1.toInt) ∧ Γ (39, 0, 0) 1 + 1 ≤ Γ_70 (39, 0, 0) 1 ∧ Γ_70 (48, 22, 0) = tgu (Γ (48, 22, 0)) t0.toNat (Γ_70 (39, 0, 0) 3)) ∧ Γ_70 (39, 0, 0) 0 = Γ (39, 0, 0) 0 ∧ Γ_70 (39, 0, 0) 4 = Γ (39, 0, 0) 4 ∧ Γ_70 (39, 0, 0) 5 = Γ (39, 0, 0) 5 ∧ Γ_70 (39, 0, 0) 6 = Γ (39, 0, 0) 6 ∧ Γ_70 (39, 0, 0) 7 = Γ (39, 0, 0) 7 ∧ Γ_70 (39, 0, 0) 8 = Γ (39, 0, 0) 8 ∧ Γ (39, 0, 0) 1 ≤ Γ_70 (39, 0, 0) 1 ∧ Γ_70 (39, 0, 0) 1 ≤ T0 ∧ (∀ j : Nat, ¬ j = t0.toNat → Γ_70 (48, 22, 0) j = Γ (48, 22, 0) j) ∧ (Γ_70 (48, 22, 0) t0.toNat = Γ (48, 22, 0) t0.toNat ∨ (p0.toInt ≤ Γ_70 (48, 22, 0) t0.toNat ∧ Γ_70 (48, 22, 0) t0.toNat ≤ p1.toInt)) := ⟨(Or.inl ⟨rfl, ⟨(by omega), (by omega), (by rw [hO, show Γ_70 (39, 0, 0) 3 = Γ_47 (39, 0, 0) 3 from by omega])⟩⟩), ⟨(by omega), (by omega), (by omega), (by omega), (by omega), (by omega), (by omega), (by omega), (fun j9 q9 => by rw [hO, tgu_n q9]), (Or.inr (by rw [hO, tgu_s]; omega))⟩⟩
      exact W.zret (ty := .boolean) (v := 1) hx hb hr rfl (fun t ht hW => ⟨⟨_, (f_71, Γ_70), rfl, hpo9, by rw [ht]; exact hP, hI, hfr, hgr⟩, hS.F ht⟩) hS.2.2 dX12_sets_43
    · have c_52 := c_52
      refine lv_iconst (v := 0) hx hb dX12_sets_30 (by decide) ?_
      have hpo9 : tl_J (0 : Int32) ((p0.toInt ≤ Γ_47 (39, 0, 0) 3 ∧ Γ_47 (39, 0, 0) 3 ≤ p1.toInt) ∧ Γ (39, 0, 0) 1 + 1 ≤ Γ_47 (39, 0, 0) 1 ∧ Γ_47 (48, 22, 0) = tgu (Γ (48, 22, 0)) t0.toNat (Γ_47 (39, 0, 0) 3)) ∧ Γ_47 (39, 0, 0) 0 = Γ (39, 0, 0) 0 ∧ Γ_47 (39, 0, 0) 4 = Γ (39, 0, 0) 4 ∧ Γ_47 (39, 0, 0) 5 = Γ (39, 0, 0) 5 ∧ Γ_47 (39, 0, 0) 6 = Γ (39, 0, 0) 6 ∧ Γ_47 (39, 0, 0) 7 = Γ (39, 0, 0) 7 ∧ Γ_47 (39, 0, 0) 8 = Γ (39, 0, 0) 8 ∧ Γ (39, 0, 0) 1 ≤ Γ_47 (39, 0, 0) 1 ∧ Γ_47 (39, 0, 0) 1 ≤ T0 ∧ (∀ j : Nat, ¬ j = t0.toNat → Γ_47 (48, 22, 0) j = Γ (48, 22, 0) j) ∧ (Γ_47 (48, 22, 0) t0.toNat = Γ (48, 22, 0) t0.toNat ∨ (p0.toInt ≤ Γ_47 (48, 22, 0) t0.toNat ∧ Γ_47 (48, 22, 0) t0.toNat ≤ p1.toInt)) := ⟨(Or.inr rfl), ⟨(by omega), (by omega), (by omega), (by omega), (by omega), (by omega), (by omega), (by omega), (fun j9 q9 => by rw [hO]), (Or.inl (by rw [hO]))⟩⟩
      exact W.zret (ty := .boolean) (v := 0) hx hb hr rfl (fun t ht hW => ⟨⟨_, (f_45, Γ_47), rfl, hpo9, by rw [ht]; exact hP, hI, hfr, hgr⟩, hS.F ht⟩) hS.2.2 dX12_sets_31
  · have c_20 : (0 : Int) ≤ z_19.toInt := tl_nlt c_20
    refine lv_aload_n hx hb dX12_sets_9 rfl (lv_at hl 0 rfl) ?_
    refine lv_iconst (v := 4) hx hb dX12_sets_10 (by decide) ?_
    refine lv_iload hx hb dX12_sets_11 (lv_at hl 4 rfl) ?_
    refine tq_ciR hS (hAf _ hS.1) (tq_rV (As := [.int 4, .int p2]) (rest := []) ⟨hx, hb, hml, hown, hta⟩ (tp_P.pre hK hN hL hU hI hP) (tp_recv hK hP ho.1 hf_1 rfl) lk_X12_184 (r_X12_fails l D cy s.heap.size L K Γ f o 4 p2 ho) rfl rfl ⟨Nat.le_of_ble_eq_true rfl, Nat.le_of_ble_eq_true rfl⟩ rfl hl.1 rfl (Nat.le_of_ble_eq_true rfl) dX12_sets_13 ⟨Nat.le_of_ble_eq_true rfl, Nat.le_of_ble_eq_true rfl⟩) (fun r_84 f_85 Γ_87 H locs hw_83 hP hI hc_86 hcg_88 hS => ?_)
    have hD : va_D A (va_pl L f_85) := tp_D hL hAL
    have hfr := tp_fr2 hfr hc_86 (by decide)
    have hgr : ∀ κ : tk_K, κ.1 ∉ ([39, 48] : List Nat) → Γ_87 κ = Γ κ := tg_fr2 hgr hcg_88 (by decide)
    have hf_89 := (tp_un hc_86 hq (by decide)).trans hf_15
    have hg_90 : ∀ j : Nat, j < 22 → (g_16 j).toInt = Γ_87 (48, 22, 0) j := fun j hj => by rw [hcg_88 _ (by decide)]; exact hg_17 j hj
    obtain ⟨rfl, hw_83⟩ := hw_83
    have hw_83 : Γ_87 (39, 0, 0) 0 = Γ (39, 0, 0) 0 ∧ Γ_87 (39, 0, 0) 1 = Γ (39, 0, 0) 1 ∧ Γ_87 (39, 0, 0) 3 = Γ (39, 0, 0) 3 ∧ Γ_87 (39, 0, 0) 4 = Γ (39, 0, 0) 4 ∧ Γ_87 (39, 0, 0) 5 = Γ (39, 0, 0) 5 ∧ Γ_87 (39, 0, 0) 6 = Γ (39, 0, 0) 6 ∧ Γ_87 (39, 0, 0) 7 = Γ (39, 0, 0) 7 ∧ Γ_87 (39, 0, 0) 8 = Γ (39, 0, 0) 8 := hw_83
    have hO : Γ_87 (48, 22, 0) = Γ (48, 22, 0) := (hcg_88 (48, 22, 0) (by decide)).trans hO
    have hpo9 : tl_J (0 : Int32) ((p0.toInt ≤ Γ_87 (39, 0, 0) 3 ∧ Γ_87 (39, 0, 0) 3 ≤ p1.toInt) ∧ Γ (39, 0, 0) 1 + 1 ≤ Γ_87 (39, 0, 0) 1 ∧ Γ_87 (48, 22, 0) = tgu (Γ (48, 22, 0)) t0.toNat (Γ_87 (39, 0, 0) 3)) ∧ Γ_87 (39, 0, 0) 0 = Γ (39, 0, 0) 0 ∧ Γ_87 (39, 0, 0) 4 = Γ (39, 0, 0) 4 ∧ Γ_87 (39, 0, 0) 5 = Γ (39, 0, 0) 5 ∧ Γ_87 (39, 0, 0) 6 = Γ (39, 0, 0) 6 ∧ Γ_87 (39, 0, 0) 7 = Γ (39, 0, 0) 7 ∧ Γ_87 (39, 0, 0) 8 = Γ (39, 0, 0) 8 ∧ Γ (39, 0, 0) 1 ≤ Γ_87 (39, 0, 0) 1 ∧ Γ_87 (39, 0, 0) 1 ≤ T0 ∧ (∀ j : Nat, ¬ j = t0.toNat → Γ_87 (48, 22, 0) j = Γ (48, 22, 0) j) ∧ (Γ_87 (48, 22, 0) t0.toNat = Γ (48, 22, 0) t0.toNat ∨ (p0.toInt ≤ Γ_87 (48, 22, 0) t0.toNat ∧ Γ_87 (48, 22, 0) t0.toNat ≤ p1.toInt)) := ⟨(Or.inr rfl), ⟨(by omega), (by omega), (by omega), (by omega), (by omega), (by omega), (by omega), (by omega), (fun j9 q9 => by rw [hO]), (Or.inl (by rw [hO]))⟩⟩
    exact W.zret (ty := .boolean) (v := 0) hx hb hr rfl (fun t ht hW => ⟨⟨_, (f_85, Γ_87), rfl, hpo9, by rw [ht]; exact hP, hI, hfr, hgr⟩, hS.F ht⟩) hS.2.2 dX12_sets_16
set_option maxHeartbeats 4000000 in
set_option maxRecDepth 100000 in
theorem r_sets_GFROM (l : Launch) (D : va_G) (cy : Nat → ClassId) (sz : Nat) (L : List Nat) (K : Nat → tk_K) (Γ : tk_G) (f : Nat → va_E) (o : Nat) (q : Nat) (p0 : Int32) (p1 : Int32) (p2 : Int32) (τ : Nat → Int) (T0 : Int) (t0 : Int) (ho : tp_r L K 39 (0) 0 o) (hq : tp_r L K 49 (22) 0 q) (ht : Γ (41, 400, 0) = τ) (hT : Γ (39, 0, 0) 0 = T0) (hb0 : 0 ≤ Γ (39, 0, 0) 1 ∧ Γ (39, 0, 0) 1 ≤ T0 ∧ T0 ≤ 400) (h4 : Γ (39, 0, 0) 4 = t0 ∧ 0 ≤ t0 ∧ t0 ≤ 21) : Met l yX12_sets (tl_w yX12_sets cX12_sets 5 (some .boolean)) ({ frames := 2, cells := 0, slots := 0, locals := 49 }) (va_Pc [.ref o, .ref q, .int p0, .int p1, .int p2] (tp_P D cy L K Γ f sz)) (va_Qi (fun (r : Int32) (u : (Nat → va_E) × tk_G) => tl_J r ((p0.toInt ≤ u.2 (39, 0, 0) 3 ∧ u.2 (39, 0, 0) 3 ≤ p1.toInt) ∧ Γ (39, 0, 0) 1 + 1 ≤ u.2 (39, 0, 0) 1 ∧ u.2 (49, 22, 0) = tgu (Γ (49, 22, 0)) t0.toNat (u.2 (39, 0, 0) 3)) ∧ u.2 (39, 0, 0) 0 = Γ (39, 0, 0) 0 ∧ u.2 (39, 0, 0) 4 = Γ (39, 0, 0) 4 ∧ u.2 (39, 0, 0) 5 = Γ (39, 0, 0) 5 ∧ u.2 (39, 0, 0) 6 = Γ (39, 0, 0) 6 ∧ u.2 (39, 0, 0) 7 = Γ (39, 0, 0) 7 ∧ u.2 (39, 0, 0) 8 = Γ (39, 0, 0) 8 ∧ Γ (39, 0, 0) 1 ≤ u.2 (39, 0, 0) 1 ∧ u.2 (39, 0, 0) 1 ≤ T0 ∧ (∀ j : Nat, ¬ j = t0.toNat → u.2 (49, 22, 0) j = Γ (49, 22, 0) j) ∧ (u.2 (49, 22, 0) t0.toNat = Γ (49, 22, 0) t0.toNat ∨ (p0.toInt ≤ u.2 (49, 22, 0) t0.toNat ∧ u.2 (49, 22, 0) t0.toNat ≤ p1.toInt))) (tp_BG D cy L K Γ f [39, 49]) (tp_A L sz)) 0 0 (tp_A L sz) := by
  refine Met.ofW (cc := cX12_sets) (maxL := 5) (ret := (some .boolean)) (by decide) rfl ?_
  intro p e s m args below meth c s₁ B hml hv
  obtain ⟨rfl, hsz, hP, hK, hL, hI, hN, hU⟩ := hv
  have hx := B.exec
  have hb := B.bytes
  have hr := B.returns
  have hta := tl_hta (atoms_spec (ws := tl_w yX12_sets cX12_sets 5 (some .boolean)) B.pre)
  have hown : s.vm.findClass RX12 = some m.cls := findClass_of_methodNamed B.named
  have hlocks := B.notSynchronized
  subst hsz
  have hI0 := hI
  generalize hAe : tp_A L s.heap.size = A
  have hA : ∀ q : Nat, s.heap.size ≤ q → A q := fun q h => by rw [← hAe]; exact Or.inr h
  have hAL : ∀ q ∈ L, A q := fun q h => by rw [← hAe]; exact Or.inl h
  have hAf : ∀ (H : Heap), s.heap.size ≤ H.size → ∀ q, tp_A L H.size q → A q := fun H h q hq => hq.elim (hAL q) (fun h2 => hA q (Nat.le_trans h h2))
  have hS : va_S A s.heap s.heap [] := va_S.rf
  have hD : va_D A (va_pl L f) := tp_D hL hAL
  have hfr : ∀ b, (K b).1 ∉ ([39, 49] : List Nat) → f b = f b := fun _ _ => rfl
  have hgr : ∀ κ : tk_K, κ.1 ∉ ([39, 49] : List Nat) → Γ κ = Γ κ := fun _ _ => rfl
  have hl := lv_entry ([.ref o, .ref q, .int p0, .int p1, .int p2]) (n := 5) (Nat.le_of_ble_eq_true rfl)
  rw [lg_entry_eq]
  generalize (lg_sl ([.ref o, .ref q, .int p0, .int p1, .int p2]) ++ List.replicate (5 - (lg_sl ([.ref o, .ref q, .int p0, .int p1, .int p2])).length) Slot.unset).toArray = ls at hl ⊢
  have hl : lv_has ls 5 [(0, .ref o), (1, .ref q), (2, .int p0), (3, .int p1), (4, .int p2)] := hl
  have hO : Γ (49, 22, 0) = Γ (49, 22, 0) := rfl
  refine lv_aload_n hx hb dX12_sets_0 rfl (lv_at hl 1 rfl) ?_
  refine lv_aload_n hx hb dX12_sets_1 rfl (lv_at hl 0 rfl) ?_
  obtain ⟨r_2, v_3, q_4, hf_1, hr_5, hv_6⟩ := (show tp_o_M L K 0 0 (Γ (39, 0, 0)) (f o) from hI.at ho)
  have hx_10 : (v_3 4).toInt = Γ (39, 0, 0) 4 := hv_6 4 (by decide)
  refine tp_get (cy := cy) (ci := 12) (v := .int (v_3 4)) (C := RX12) (T := TX12) (N := 49) hx hb hta inlX12 hown hK hP ho.1 hf_1 rfl 20 (by decide) (hta _ wk_537) (fun _ h9 => h9) rfl dX12_sets_2 ?_
  obtain ⟨g_16, hf_15, hg_17⟩ := (show tp_gi cy (22) (Γ (49, 22, 0)) (f q) from hI.at hq)
  have hn_18 : vp_in (v_3 4) (22) := tl_in (by omega) (by omega)
  refine tp_iald (cy := cy) hx hb hK hP hq.1 hf_15 hn_18 dX12_sets_5 ?_
  refine lv_topi (fun z_19 ez_19 => ?_)
  have iz_19 : z_19.toInt = Γ (49, 22, 0) (v_3 4).toInt.toNat := by rw [ez_19]; exact hg_17 _ (tp_pin hn_18)
  have jz_19 : z_19.toInt = Γ (49, 22, 0) t0.toNat := by rw [show t0 = (v_3 4).toInt from by omega]; exact iz_19
  refine lv_if_lt (tgt := 17) hx hb dX12_sets_6 (by decide) (fun c_20 => ?_) (fun c_20 => ?_)
  · have c_20 : z_19.toInt < (0 : Int) := tl_lt c_20
    refine lv_aload_n hx hb dX12_sets_17 rfl (lv_at hl 0 rfl) ?_
    refine tq_cvR hS (hAf _ hS.1) (tq_rV (As := []) (rest := []) ⟨hx, hb, hml, hown, hta⟩ (tp_P.pre hK hN hL hU hI hP) (tp_recv hK hP ho.1 hf_1 rfl) lk_X12_178 (r_X12_passWord l D cy s.heap.size L K Γ f o τ T0 ho ht (by first | omega | (simp only [Int32.toInt_toInt64]; omega) | decide | assumption) (by first | omega | (simp only [Int32.toInt_toInt64]; omega) | decide | assumption)) rfl rfl ⟨Nat.le_of_ble_eq_true rfl, Nat.le_of_ble_eq_true rfl⟩ rfl hl.1 rfl (Nat.le_of_ble_eq_true rfl) dX12_sets_18 ⟨Nat.le_of_ble_eq_true rfl, Nat.le_of_ble_eq_true rfl⟩) (fun f_23 Γ_25 H locs hw_21 hP hI hc_24 hcg_26 hS => ?_)
    have hD : va_D A (va_pl L f_23) := tp_D hL hAL
    have hfr := tp_fr2 hfr hc_24 (by decide)
    have hgr : ∀ κ : tk_K, κ.1 ∉ ([39, 49] : List Nat) → Γ_25 κ = Γ κ := tg_fr2 hgr hcg_26 (by decide)
    have hf_27 := (tp_un hc_24 hq (by decide)).trans hf_15
    have hg_28 : ∀ j : Nat, j < 22 → (g_16 j).toInt = Γ_25 (49, 22, 0) j := fun j hj => by rw [hcg_26 _ (by decide)]; exact hg_17 j hj
    have hw_21 : Γ_25 (39, 0, 0) 0 = Γ (39, 0, 0) 0 ∧ Γ_25 (39, 0, 0) 3 = Γ (39, 0, 0) 3 ∧ Γ_25 (39, 0, 0) 4 = Γ (39, 0, 0) 4 ∧ Γ_25 (39, 0, 0) 5 = Γ (39, 0, 0) 5 ∧ Γ_25 (39, 0, 0) 6 = Γ (39, 0, 0) 6 ∧ Γ_25 (39, 0, 0) 7 = Γ (39, 0, 0) 7 ∧ Γ_25 (39, 0, 0) 8 = Γ (39, 0, 0) 8 ∧ Γ (39, 0, 0) 1 ≤ Γ_25 (39, 0, 0) 1 ∧ Γ_25 (39, 0, 0) 1 ≤ T0 ∧ (tr_L τ T0 (Γ (39, 0, 0) 1) → Γ (39, 0, 0) 1 + 1 ≤ Γ_25 (39, 0, 0) 1) := hw_21
    have hO : Γ_25 (49, 22, 0) = Γ (49, 22, 0) := (hcg_26 (49, 22, 0) (by decide)).trans hO
    refine lv_aload_n hx hb dX12_sets_21 rfl (lv_at hl 0 rfl) ?_
    refine lv_iload_n hx hb dX12_sets_22 rfl (lv_at hl 2 rfl) ?_
    refine lv_iload_n hx hb dX12_sets_23 rfl (lv_at hl 3 rfl) ?_
    obtain ⟨r_30, v_31, q_32, hf_29, hr_33, hv_34⟩ := (show tp_o_M L K 0 0 (Γ_25 (39, 0, 0)) (f_23 o) from hI.at ho)
    refine tq_ciR hS (hAf _ hS.1) (tq_rV (As := [.int p0, .int p1]) (rest := []) ⟨hx, hb, hml, hown, hta⟩ (tp_P.pre hK hN hL hU hI hP) (tp_recv hK hP ho.1 hf_29 rfl) lk_X12_233 (r_X12_numberHere l D cy H.size L K Γ_25 f_23 o p0 p1 τ T0 ho ((hgr _ (by decide)).trans ht) (by first | omega | (simp only [Int32.toInt_toInt64]; omega) | decide | assumption) (by first | omega | (simp only [Int32.toInt_toInt64]; omega) | decide | assumption)) rfl rfl ⟨Nat.le_of_ble_eq_true rfl, Nat.le_of_ble_eq_true rfl⟩ rfl hl.1 rfl (Nat.le_of_ble_eq_true rfl) dX12_sets_24 ⟨Nat.le_of_ble_eq_true rfl, Nat.le_of_ble_eq_true rfl⟩) (fun r_44 f_45 Γ_47 H locs hw_43 hP hI hc_46 hcg_48 hS => ?_)
    have hD : va_D A (va_pl L f_45) := tp_D hL hAL
    have hfr := tp_fr2 hfr hc_46 (by decide)
    have hgr : ∀ κ : tk_K, κ.1 ∉ ([39, 49] : List Nat) → Γ_47 κ = Γ κ := tg_fr2 hgr hcg_48 (by decide)
    have hf_49 := (tp_un hc_46 hq (by decide)).trans hf_27
    have hg_50 : ∀ j : Nat, j < 22 → (g_16 j).toInt = Γ_47 (49, 22, 0) j := fun j hj => by rw [hcg_48 _ (by decide)]; exact hg_28 j hj
    obtain ⟨hE_51, hw_43⟩ := hw_43
    have hE_51 : tl_J r_44 (p0.toInt ≤ Γ_47 (39, 0, 0) 3 ∧ Γ_47 (39, 0, 0) 3 ≤ p1.toInt ∧ Γ_25 (39, 0, 0) 1 + 1 ≤ Γ_47 (39, 0, 0) 1) := hE_51
    have hw_43 : Γ_47 (39, 0, 0) 0 = Γ_25 (39, 0, 0) 0 ∧ Γ_47 (39, 0, 0) 4 = Γ_25 (39, 0, 0) 4 ∧ Γ_47 (39, 0, 0) 5 = Γ_25 (39, 0, 0) 5 ∧ Γ_47 (39, 0, 0) 6 = Γ_25 (39, 0, 0) 6 ∧ Γ_47 (39, 0, 0) 7 = Γ_25 (39, 0, 0) 7 ∧ Γ_47 (39, 0, 0) 8 = Γ_25 (39, 0, 0) 8 ∧ Γ_25 (39, 0, 0) 1 ≤ Γ_47 (39, 0, 0) 1 ∧ Γ_47 (39, 0, 0) 1 ≤ T0 := hw_43
    have hO : Γ_47 (49, 22, 0) = Γ (49, 22, 0) := (hcg_48 (49, 22, 0) (by decide)).trans hO
    refine lv_if_ne (tgt := 32) hx hb dX12_sets_27 (by decide) (fun c_52 => ?_) (fun c_52 => ?_)
    · have c_52 := hE_51.t c_52
      refine lv_aload_n hx hb dX12_sets_32 rfl (lv_at hl 1 rfl) ?_
      refine lv_aload_n hx hb dX12_sets_33 rfl (lv_at hl 0 rfl) ?_
      obtain ⟨r_54, v_55, q_56, hf_53, hr_57, hv_58⟩ := (show tp_o_M L K 0 0 (Γ_47 (39, 0, 0)) (f_45 o) from hI.at ho)
      have hx_59 : (v_55 0).toInt = Γ_47 (39, 0, 0) 0 := hv_58 0 (by decide)
      have hx_60 : (v_55 1).toInt = Γ_47 (39, 0, 0) 1 := hv_58 1 (by decide)
      have hx_61 : (v_55 3).toInt = Γ_47 (39, 0, 0) 3 := hv_58 3 (by decide)
      have hx_62 : (v_55 4).toInt = Γ_47 (39, 0, 0) 4 := hv_58 4 (by decide)
      have hx_63 : (v_55 5).toInt = Γ_47 (39, 0, 0) 5 := hv_58 5 (by decide)
      have hx_64 : (v_55 6).toInt = Γ_47 (39, 0, 0) 6 := hv_58 6 (by decide)
      have hx_65 : (v_55 7).toInt = Γ_47 (39, 0, 0) 7 := hv_58 7 (by decide)
      have hx_66 : (v_55 8).toInt = Γ_47 (39, 0, 0) 8 := hv_58 8 (by decide)
      refine tp_get (cy := cy) (ci := 12) (v := .int (v_55 4)) (C := RX12) (T := TX12) (N := 49) hx hb hta inlX12 hown hK hP ho.1 hf_53 rfl 20 (by decide) (hta _ wk_537) (fun _ h9 => h9) rfl dX12_sets_34 ?_
      refine lv_aload_n hx hb dX12_sets_37 rfl (lv_at hl 0 rfl) ?_
      refine tp_get (cy := cy) (ci := 12) (v := .int (v_55 3)) (C := RX12) (T := TX12) (N := 49) hx hb hta inlX12 hown hK hP ho.1 hf_53 rfl 19 (by decide) (hta _ wk_585) (fun _ h9 => h9) rfl dX12_sets_38 ?_
      have hn_67 : vp_in (v_55 4) (22) := tl_in (by omega) (by omega)
      have hj_68 : (v_55 4).toNatClampNeg = t0.toNat := by show (v_55 4).toInt.toNat = _; omega
      have hv_69 : (v_55 3).toInt = Γ_47 (39, 0, 0) 3 := by omega
      obtain ⟨Γ_70, eΓ_70⟩ : ∃ y : tk_G, y = tg Γ_47 (49, 22, 0) t0.toNat (Γ_47 (39, 0, 0) 3) := ⟨_, rfl⟩
      have hI9 : tp_I cy L K Γ_70 (va_up f_45 q (.inl (cy 0, 22, .inl (upd g_16 (v_55 4).toNatClampNeg (v_55 3))))) := by have q9 : tg Γ_47 (49, 22, 0) t0.toNat (Γ_47 (39, 0, 0) 3) = tg Γ_47 (49, 22, 0) (v_55 4).toNatClampNeg (v_55 3).toInt := (by rw [hj_68, hv_69]); rw [eΓ_70, q9]; exact hI.setg hU rfl hq (show tp_gi cy (22) (tgu (Γ_47 (49, 22, 0)) _ _) _ from ⟨_, rfl, tp_gi_upd hg_50⟩)
      have hfr9 : ∀ b, (K b).1 ∉ ([39, 49] : List Nat) → va_up f_45 q (.inl (cy 0, 22, .inl (upd g_16 (v_55 4).toNatClampNeg (v_55 3)))) b = f b := tp_fr hfr hq (by decide)
      refine tp_iast (cy := cy) hx hb hK hP hD hS hq.1 hf_49 hn_67 dX12_sets_41 (fun H locs hP hD hS => ?_)
      have hP : va_P D vwCl (va_pl L (va_up f_45 q (.inl (cy 0, 22, .inl (upd g_16 (v_55 4).toNatClampNeg (v_55 3)))))) H := hP
      generalize hfe : va_up f_45 q (.inl (cy 0, 22, .inl (upd g_16 (v_55 4).toNatClampNeg (v_55 3)))) = f_71 at hP hI9 hfr9
      have hD : va_D A (va_pl L f_71) := tp_D hL hAL
      have hf_72 : f_71 q = .inl (cy 0, 22, .inl (upd g_16 (v_55 4).toNatClampNeg (v_55 3))) := by rw [← hfe]; exact va_up_self _ _ _
      have hf_73 := (show f_71 o = _ from by rw [← hfe, va_up_ne _ _ (tp_ne ho hq (by decide))]).trans hf_53
      clear hfe
      have hI := hI9
      have hfr := hfr9
      clear hI9 hfr9
      have wsΓ_70 : Γ_70 (49, 22, 0) t0.toNat = Γ_47 (39, 0, 0) 3 := by rw [eΓ_70]; exact tg_s
      have hgr : ∀ κ : tk_K, κ.1 ∉ ([39, 49] : List Nat) → Γ_70 κ = Γ κ := tg_fr hgr eΓ_70 (by decide)
      have hv_74 : ∀ i : Nat, i < 16 → (v_55 i).toInt = Γ_70 (39, 0, 0) i := fun i hi => by rw [eΓ_70, tg_r (by decide)]; exact hv_58 i hi
      have hx_75 : (v_55 0).toInt = Γ_70 (39, 0, 0) 0 := hv_74 0 (by decide)
      have hx_76 : (v_55 1).toInt = Γ_70 (39, 0, 0) 1 := hv_74 1 (by decide)
      have hx_77 : (v_55 3).toInt = Γ_70 (39, 0, 0) 3 := hv_74 3 (by decide)
      have hx_78 : (v_55 4).toInt = Γ_70 (39, 0, 0) 4 := hv_74 4 (by decide)
      have hx_79 : (v_55 5).toInt = Γ_70 (39, 0, 0) 5 := hv_74 5 (by decide)
      have hx_80 : (v_55 6).toInt = Γ_70 (39, 0, 0) 6 := hv_74 6 (by decide)
      have hx_81 : (v_55 7).toInt = Γ_70 (39, 0, 0) 7 := hv_74 7 (by decide)
      have hx_82 : (v_55 8).toInt = Γ_70 (39, 0, 0) 8 := hv_74 8 (by decide)
      have hO : Γ_70 (49, 22, 0) = tgu (Γ (49, 22, 0)) t0.toNat (Γ_47 (39, 0, 0) 3) := by rw [eΓ_70, tg_f, hO]
      refine lv_iconst (v := 1) hx hb dX12_sets_42 (by decide) ?_
      have hpo9 : tl_J (1 : Int32) ((p0.toInt ≤ Γ_70 (39, 0, 0) 3 ∧ Γ_70 (39, 0, 0) 3 ≤ p1.toInt) ∧ Γ (39, 0, 0) 1 + 1 ≤ Γ_70 (39, 0, 0) 1 ∧ Γ_70 (49, 22, 0) = tgu (Γ (49, 22, 0)) t0.toNat (Γ_70 (39, 0, 0) 3)) ∧ Γ_70 (39, 0, 0) 0 = Γ (39, 0, 0) 0 ∧ Γ_70 (39, 0, 0) 4 = Γ (39, 0, 0) 4 ∧ Γ_70 (39, 0, 0) 5 = Γ (39, 0, 0) 5 ∧ Γ_70 (39, 0, 0) 6 = Γ (39, 0, 0) 6 ∧ Γ_70 (39, 0, 0) 7 = Γ (39, 0, 0) 7 ∧ Γ_70 (39, 0, 0) 8 = Γ (39, 0, 0) 8 ∧ Γ (39, 0, 0) 1 ≤ Γ_70 (39, 0, 0) 1 ∧ Γ_70 (39, 0, 0) 1 ≤ T0 ∧ (∀ j : Nat, ¬ j = t0.toNat → Γ_70 (49, 22, 0) j = Γ (49, 22, 0) j) ∧ (Γ_70 (49, 22, 0) t0.toNat = Γ (49, 22, 0) t0.toNat ∨ (p0.toInt ≤ Γ_70 (49, 22, 0) t0.toNat ∧ Γ_70 (49, 22, 0) t0.toNat ≤ p1.toInt)) := ⟨(Or.inl ⟨rfl, ⟨(by omega), (by omega), (by rw [hO, show Γ_70 (39, 0, 0) 3 = Γ_47 (39, 0, 0) 3 from by omega])⟩⟩), ⟨(by omega), (by omega), (by omega), (by omega), (by omega), (by omega), (by omega), (by omega), (fun j9 q9 => by rw [hO, tgu_n q9]), (Or.inr (by rw [hO, tgu_s]; omega))⟩⟩
      exact W.zret (ty := .boolean) (v := 1) hx hb hr rfl (fun t ht hW => ⟨⟨_, (f_71, Γ_70), rfl, hpo9, by rw [ht]; exact hP, hI, hfr, hgr⟩, hS.F ht⟩) hS.2.2 dX12_sets_43
    · have c_52 := c_52
      refine lv_iconst (v := 0) hx hb dX12_sets_30 (by decide) ?_
      have hpo9 : tl_J (0 : Int32) ((p0.toInt ≤ Γ_47 (39, 0, 0) 3 ∧ Γ_47 (39, 0, 0) 3 ≤ p1.toInt) ∧ Γ (39, 0, 0) 1 + 1 ≤ Γ_47 (39, 0, 0) 1 ∧ Γ_47 (49, 22, 0) = tgu (Γ (49, 22, 0)) t0.toNat (Γ_47 (39, 0, 0) 3)) ∧ Γ_47 (39, 0, 0) 0 = Γ (39, 0, 0) 0 ∧ Γ_47 (39, 0, 0) 4 = Γ (39, 0, 0) 4 ∧ Γ_47 (39, 0, 0) 5 = Γ (39, 0, 0) 5 ∧ Γ_47 (39, 0, 0) 6 = Γ (39, 0, 0) 6 ∧ Γ_47 (39, 0, 0) 7 = Γ (39, 0, 0) 7 ∧ Γ_47 (39, 0, 0) 8 = Γ (39, 0, 0) 8 ∧ Γ (39, 0, 0) 1 ≤ Γ_47 (39, 0, 0) 1 ∧ Γ_47 (39, 0, 0) 1 ≤ T0 ∧ (∀ j : Nat, ¬ j = t0.toNat → Γ_47 (49, 22, 0) j = Γ (49, 22, 0) j) ∧ (Γ_47 (49, 22, 0) t0.toNat = Γ (49, 22, 0) t0.toNat ∨ (p0.toInt ≤ Γ_47 (49, 22, 0) t0.toNat ∧ Γ_47 (49, 22, 0) t0.toNat ≤ p1.toInt)) := ⟨(Or.inr rfl), ⟨(by omega), (by omega), (by omega), (by omega), (by omega), (by omega), (by omega), (by omega), (fun j9 q9 => by rw [hO]), (Or.inl (by rw [hO]))⟩⟩
      exact W.zret (ty := .boolean) (v := 0) hx hb hr rfl (fun t ht hW => ⟨⟨_, (f_45, Γ_47), rfl, hpo9, by rw [ht]; exact hP, hI, hfr, hgr⟩, hS.F ht⟩) hS.2.2 dX12_sets_31
  · have c_20 : (0 : Int) ≤ z_19.toInt := tl_nlt c_20
    refine lv_aload_n hx hb dX12_sets_9 rfl (lv_at hl 0 rfl) ?_
    refine lv_iconst (v := 4) hx hb dX12_sets_10 (by decide) ?_
    refine lv_iload hx hb dX12_sets_11 (lv_at hl 4 rfl) ?_
    refine tq_ciR hS (hAf _ hS.1) (tq_rV (As := [.int 4, .int p2]) (rest := []) ⟨hx, hb, hml, hown, hta⟩ (tp_P.pre hK hN hL hU hI hP) (tp_recv hK hP ho.1 hf_1 rfl) lk_X12_184 (r_X12_fails l D cy s.heap.size L K Γ f o 4 p2 ho) rfl rfl ⟨Nat.le_of_ble_eq_true rfl, Nat.le_of_ble_eq_true rfl⟩ rfl hl.1 rfl (Nat.le_of_ble_eq_true rfl) dX12_sets_13 ⟨Nat.le_of_ble_eq_true rfl, Nat.le_of_ble_eq_true rfl⟩) (fun r_84 f_85 Γ_87 H locs hw_83 hP hI hc_86 hcg_88 hS => ?_)
    have hD : va_D A (va_pl L f_85) := tp_D hL hAL
    have hfr := tp_fr2 hfr hc_86 (by decide)
    have hgr : ∀ κ : tk_K, κ.1 ∉ ([39, 49] : List Nat) → Γ_87 κ = Γ κ := tg_fr2 hgr hcg_88 (by decide)
    have hf_89 := (tp_un hc_86 hq (by decide)).trans hf_15
    have hg_90 : ∀ j : Nat, j < 22 → (g_16 j).toInt = Γ_87 (49, 22, 0) j := fun j hj => by rw [hcg_88 _ (by decide)]; exact hg_17 j hj
    obtain ⟨rfl, hw_83⟩ := hw_83
    have hw_83 : Γ_87 (39, 0, 0) 0 = Γ (39, 0, 0) 0 ∧ Γ_87 (39, 0, 0) 1 = Γ (39, 0, 0) 1 ∧ Γ_87 (39, 0, 0) 3 = Γ (39, 0, 0) 3 ∧ Γ_87 (39, 0, 0) 4 = Γ (39, 0, 0) 4 ∧ Γ_87 (39, 0, 0) 5 = Γ (39, 0, 0) 5 ∧ Γ_87 (39, 0, 0) 6 = Γ (39, 0, 0) 6 ∧ Γ_87 (39, 0, 0) 7 = Γ (39, 0, 0) 7 ∧ Γ_87 (39, 0, 0) 8 = Γ (39, 0, 0) 8 := hw_83
    have hO : Γ_87 (49, 22, 0) = Γ (49, 22, 0) := (hcg_88 (49, 22, 0) (by decide)).trans hO
    have hpo9 : tl_J (0 : Int32) ((p0.toInt ≤ Γ_87 (39, 0, 0) 3 ∧ Γ_87 (39, 0, 0) 3 ≤ p1.toInt) ∧ Γ (39, 0, 0) 1 + 1 ≤ Γ_87 (39, 0, 0) 1 ∧ Γ_87 (49, 22, 0) = tgu (Γ (49, 22, 0)) t0.toNat (Γ_87 (39, 0, 0) 3)) ∧ Γ_87 (39, 0, 0) 0 = Γ (39, 0, 0) 0 ∧ Γ_87 (39, 0, 0) 4 = Γ (39, 0, 0) 4 ∧ Γ_87 (39, 0, 0) 5 = Γ (39, 0, 0) 5 ∧ Γ_87 (39, 0, 0) 6 = Γ (39, 0, 0) 6 ∧ Γ_87 (39, 0, 0) 7 = Γ (39, 0, 0) 7 ∧ Γ_87 (39, 0, 0) 8 = Γ (39, 0, 0) 8 ∧ Γ (39, 0, 0) 1 ≤ Γ_87 (39, 0, 0) 1 ∧ Γ_87 (39, 0, 0) 1 ≤ T0 ∧ (∀ j : Nat, ¬ j = t0.toNat → Γ_87 (49, 22, 0) j = Γ (49, 22, 0) j) ∧ (Γ_87 (49, 22, 0) t0.toNat = Γ (49, 22, 0) t0.toNat ∨ (p0.toInt ≤ Γ_87 (49, 22, 0) t0.toNat ∧ Γ_87 (49, 22, 0) t0.toNat ≤ p1.toInt)) := ⟨(Or.inr rfl), ⟨(by omega), (by omega), (by omega), (by omega), (by omega), (by omega), (by omega), (by omega), (fun j9 q9 => by rw [hO]), (Or.inl (by rw [hO]))⟩⟩
    exact W.zret (ty := .boolean) (v := 0) hx hb hr rfl (fun t ht hW => ⟨⟨_, (f_85, Γ_87), rfl, hpo9, by rw [ht]; exact hP, hI, hfr, hgr⟩, hS.F ht⟩) hS.2.2 dX12_sets_16
set_option maxHeartbeats 4000000 in
set_option maxRecDepth 100000 in
theorem r_sets_MWIDE (l : Launch) (D : va_G) (cy : Nat → ClassId) (sz : Nat) (L : List Nat) (K : Nat → tk_K) (Γ : tk_G) (f : Nat → va_E) (o : Nat) (q : Nat) (p0 : Int32) (p1 : Int32) (p2 : Int32) (τ : Nat → Int) (T0 : Int) (t0 : Int) (ho : tp_r L K 39 (0) 0 o) (hq : tp_r L K 51 (22) 0 q) (ht : Γ (41, 400, 0) = τ) (hT : Γ (39, 0, 0) 0 = T0) (hb0 : 0 ≤ Γ (39, 0, 0) 1 ∧ Γ (39, 0, 0) 1 ≤ T0 ∧ T0 ≤ 400) (h4 : Γ (39, 0, 0) 4 = t0 ∧ 0 ≤ t0 ∧ t0 ≤ 21) : Met l yX12_sets (tl_w yX12_sets cX12_sets 5 (some .boolean)) ({ frames := 2, cells := 0, slots := 0, locals := 49 }) (va_Pc [.ref o, .ref q, .int p0, .int p1, .int p2] (tp_P D cy L K Γ f sz)) (va_Qi (fun (r : Int32) (u : (Nat → va_E) × tk_G) => tl_J r ((p0.toInt ≤ u.2 (39, 0, 0) 3 ∧ u.2 (39, 0, 0) 3 ≤ p1.toInt) ∧ Γ (39, 0, 0) 1 + 1 ≤ u.2 (39, 0, 0) 1 ∧ u.2 (51, 22, 0) = tgu (Γ (51, 22, 0)) t0.toNat (u.2 (39, 0, 0) 3)) ∧ u.2 (39, 0, 0) 0 = Γ (39, 0, 0) 0 ∧ u.2 (39, 0, 0) 4 = Γ (39, 0, 0) 4 ∧ u.2 (39, 0, 0) 5 = Γ (39, 0, 0) 5 ∧ u.2 (39, 0, 0) 6 = Γ (39, 0, 0) 6 ∧ u.2 (39, 0, 0) 7 = Γ (39, 0, 0) 7 ∧ u.2 (39, 0, 0) 8 = Γ (39, 0, 0) 8 ∧ Γ (39, 0, 0) 1 ≤ u.2 (39, 0, 0) 1 ∧ u.2 (39, 0, 0) 1 ≤ T0 ∧ (∀ j : Nat, ¬ j = t0.toNat → u.2 (51, 22, 0) j = Γ (51, 22, 0) j) ∧ (u.2 (51, 22, 0) t0.toNat = Γ (51, 22, 0) t0.toNat ∨ (p0.toInt ≤ u.2 (51, 22, 0) t0.toNat ∧ u.2 (51, 22, 0) t0.toNat ≤ p1.toInt))) (tp_BG D cy L K Γ f [39, 51]) (tp_A L sz)) 0 0 (tp_A L sz) := by
  refine Met.ofW (cc := cX12_sets) (maxL := 5) (ret := (some .boolean)) (by decide) rfl ?_
  intro p e s m args below meth c s₁ B hml hv
  obtain ⟨rfl, hsz, hP, hK, hL, hI, hN, hU⟩ := hv
  have hx := B.exec
  have hb := B.bytes
  have hr := B.returns
  have hta := tl_hta (atoms_spec (ws := tl_w yX12_sets cX12_sets 5 (some .boolean)) B.pre)
  have hown : s.vm.findClass RX12 = some m.cls := findClass_of_methodNamed B.named
  have hlocks := B.notSynchronized
  subst hsz
  have hI0 := hI
  generalize hAe : tp_A L s.heap.size = A
  have hA : ∀ q : Nat, s.heap.size ≤ q → A q := fun q h => by rw [← hAe]; exact Or.inr h
  have hAL : ∀ q ∈ L, A q := fun q h => by rw [← hAe]; exact Or.inl h
  have hAf : ∀ (H : Heap), s.heap.size ≤ H.size → ∀ q, tp_A L H.size q → A q := fun H h q hq => hq.elim (hAL q) (fun h2 => hA q (Nat.le_trans h h2))
  have hS : va_S A s.heap s.heap [] := va_S.rf
  have hD : va_D A (va_pl L f) := tp_D hL hAL
  have hfr : ∀ b, (K b).1 ∉ ([39, 51] : List Nat) → f b = f b := fun _ _ => rfl
  have hgr : ∀ κ : tk_K, κ.1 ∉ ([39, 51] : List Nat) → Γ κ = Γ κ := fun _ _ => rfl
  have hl := lv_entry ([.ref o, .ref q, .int p0, .int p1, .int p2]) (n := 5) (Nat.le_of_ble_eq_true rfl)
  rw [lg_entry_eq]
  generalize (lg_sl ([.ref o, .ref q, .int p0, .int p1, .int p2]) ++ List.replicate (5 - (lg_sl ([.ref o, .ref q, .int p0, .int p1, .int p2])).length) Slot.unset).toArray = ls at hl ⊢
  have hl : lv_has ls 5 [(0, .ref o), (1, .ref q), (2, .int p0), (3, .int p1), (4, .int p2)] := hl
  have hO : Γ (51, 22, 0) = Γ (51, 22, 0) := rfl
  refine lv_aload_n hx hb dX12_sets_0 rfl (lv_at hl 1 rfl) ?_
  refine lv_aload_n hx hb dX12_sets_1 rfl (lv_at hl 0 rfl) ?_
  obtain ⟨r_2, v_3, q_4, hf_1, hr_5, hv_6⟩ := (show tp_o_M L K 0 0 (Γ (39, 0, 0)) (f o) from hI.at ho)
  have hx_10 : (v_3 4).toInt = Γ (39, 0, 0) 4 := hv_6 4 (by decide)
  refine tp_get (cy := cy) (ci := 12) (v := .int (v_3 4)) (C := RX12) (T := TX12) (N := 49) hx hb hta inlX12 hown hK hP ho.1 hf_1 rfl 20 (by decide) (hta _ wk_537) (fun _ h9 => h9) rfl dX12_sets_2 ?_
  obtain ⟨g_16, hf_15, hg_17⟩ := (show tp_gi cy (22) (Γ (51, 22, 0)) (f q) from hI.at hq)
  have hn_18 : vp_in (v_3 4) (22) := tl_in (by omega) (by omega)
  refine tp_iald (cy := cy) hx hb hK hP hq.1 hf_15 hn_18 dX12_sets_5 ?_
  refine lv_topi (fun z_19 ez_19 => ?_)
  have iz_19 : z_19.toInt = Γ (51, 22, 0) (v_3 4).toInt.toNat := by rw [ez_19]; exact hg_17 _ (tp_pin hn_18)
  have jz_19 : z_19.toInt = Γ (51, 22, 0) t0.toNat := by rw [show t0 = (v_3 4).toInt from by omega]; exact iz_19
  refine lv_if_lt (tgt := 17) hx hb dX12_sets_6 (by decide) (fun c_20 => ?_) (fun c_20 => ?_)
  · have c_20 : z_19.toInt < (0 : Int) := tl_lt c_20
    refine lv_aload_n hx hb dX12_sets_17 rfl (lv_at hl 0 rfl) ?_
    refine tq_cvR hS (hAf _ hS.1) (tq_rV (As := []) (rest := []) ⟨hx, hb, hml, hown, hta⟩ (tp_P.pre hK hN hL hU hI hP) (tp_recv hK hP ho.1 hf_1 rfl) lk_X12_178 (r_X12_passWord l D cy s.heap.size L K Γ f o τ T0 ho ht (by first | omega | (simp only [Int32.toInt_toInt64]; omega) | decide | assumption) (by first | omega | (simp only [Int32.toInt_toInt64]; omega) | decide | assumption)) rfl rfl ⟨Nat.le_of_ble_eq_true rfl, Nat.le_of_ble_eq_true rfl⟩ rfl hl.1 rfl (Nat.le_of_ble_eq_true rfl) dX12_sets_18 ⟨Nat.le_of_ble_eq_true rfl, Nat.le_of_ble_eq_true rfl⟩) (fun f_23 Γ_25 H locs hw_21 hP hI hc_24 hcg_26 hS => ?_)
    have hD : va_D A (va_pl L f_23) := tp_D hL hAL
    have hfr := tp_fr2 hfr hc_24 (by decide)
    have hgr : ∀ κ : tk_K, κ.1 ∉ ([39, 51] : List Nat) → Γ_25 κ = Γ κ := tg_fr2 hgr hcg_26 (by decide)
    have hf_27 := (tp_un hc_24 hq (by decide)).trans hf_15
    have hg_28 : ∀ j : Nat, j < 22 → (g_16 j).toInt = Γ_25 (51, 22, 0) j := fun j hj => by rw [hcg_26 _ (by decide)]; exact hg_17 j hj
    have hw_21 : Γ_25 (39, 0, 0) 0 = Γ (39, 0, 0) 0 ∧ Γ_25 (39, 0, 0) 3 = Γ (39, 0, 0) 3 ∧ Γ_25 (39, 0, 0) 4 = Γ (39, 0, 0) 4 ∧ Γ_25 (39, 0, 0) 5 = Γ (39, 0, 0) 5 ∧ Γ_25 (39, 0, 0) 6 = Γ (39, 0, 0) 6 ∧ Γ_25 (39, 0, 0) 7 = Γ (39, 0, 0) 7 ∧ Γ_25 (39, 0, 0) 8 = Γ (39, 0, 0) 8 ∧ Γ (39, 0, 0) 1 ≤ Γ_25 (39, 0, 0) 1 ∧ Γ_25 (39, 0, 0) 1 ≤ T0 ∧ (tr_L τ T0 (Γ (39, 0, 0) 1) → Γ (39, 0, 0) 1 + 1 ≤ Γ_25 (39, 0, 0) 1) := hw_21
    have hO : Γ_25 (51, 22, 0) = Γ (51, 22, 0) := (hcg_26 (51, 22, 0) (by decide)).trans hO
    refine lv_aload_n hx hb dX12_sets_21 rfl (lv_at hl 0 rfl) ?_
    refine lv_iload_n hx hb dX12_sets_22 rfl (lv_at hl 2 rfl) ?_
    refine lv_iload_n hx hb dX12_sets_23 rfl (lv_at hl 3 rfl) ?_
    obtain ⟨r_30, v_31, q_32, hf_29, hr_33, hv_34⟩ := (show tp_o_M L K 0 0 (Γ_25 (39, 0, 0)) (f_23 o) from hI.at ho)
    refine tq_ciR hS (hAf _ hS.1) (tq_rV (As := [.int p0, .int p1]) (rest := []) ⟨hx, hb, hml, hown, hta⟩ (tp_P.pre hK hN hL hU hI hP) (tp_recv hK hP ho.1 hf_29 rfl) lk_X12_233 (r_X12_numberHere l D cy H.size L K Γ_25 f_23 o p0 p1 τ T0 ho ((hgr _ (by decide)).trans ht) (by first | omega | (simp only [Int32.toInt_toInt64]; omega) | decide | assumption) (by first | omega | (simp only [Int32.toInt_toInt64]; omega) | decide | assumption)) rfl rfl ⟨Nat.le_of_ble_eq_true rfl, Nat.le_of_ble_eq_true rfl⟩ rfl hl.1 rfl (Nat.le_of_ble_eq_true rfl) dX12_sets_24 ⟨Nat.le_of_ble_eq_true rfl, Nat.le_of_ble_eq_true rfl⟩) (fun r_44 f_45 Γ_47 H locs hw_43 hP hI hc_46 hcg_48 hS => ?_)
    have hD : va_D A (va_pl L f_45) := tp_D hL hAL
    have hfr := tp_fr2 hfr hc_46 (by decide)
    have hgr : ∀ κ : tk_K, κ.1 ∉ ([39, 51] : List Nat) → Γ_47 κ = Γ κ := tg_fr2 hgr hcg_48 (by decide)
    have hf_49 := (tp_un hc_46 hq (by decide)).trans hf_27
    have hg_50 : ∀ j : Nat, j < 22 → (g_16 j).toInt = Γ_47 (51, 22, 0) j := fun j hj => by rw [hcg_48 _ (by decide)]; exact hg_28 j hj
    obtain ⟨hE_51, hw_43⟩ := hw_43
    have hE_51 : tl_J r_44 (p0.toInt ≤ Γ_47 (39, 0, 0) 3 ∧ Γ_47 (39, 0, 0) 3 ≤ p1.toInt ∧ Γ_25 (39, 0, 0) 1 + 1 ≤ Γ_47 (39, 0, 0) 1) := hE_51
    have hw_43 : Γ_47 (39, 0, 0) 0 = Γ_25 (39, 0, 0) 0 ∧ Γ_47 (39, 0, 0) 4 = Γ_25 (39, 0, 0) 4 ∧ Γ_47 (39, 0, 0) 5 = Γ_25 (39, 0, 0) 5 ∧ Γ_47 (39, 0, 0) 6 = Γ_25 (39, 0, 0) 6 ∧ Γ_47 (39, 0, 0) 7 = Γ_25 (39, 0, 0) 7 ∧ Γ_47 (39, 0, 0) 8 = Γ_25 (39, 0, 0) 8 ∧ Γ_25 (39, 0, 0) 1 ≤ Γ_47 (39, 0, 0) 1 ∧ Γ_47 (39, 0, 0) 1 ≤ T0 := hw_43
    have hO : Γ_47 (51, 22, 0) = Γ (51, 22, 0) := (hcg_48 (51, 22, 0) (by decide)).trans hO
    refine lv_if_ne (tgt := 32) hx hb dX12_sets_27 (by decide) (fun c_52 => ?_) (fun c_52 => ?_)
    · have c_52 := hE_51.t c_52
      refine lv_aload_n hx hb dX12_sets_32 rfl (lv_at hl 1 rfl) ?_
      refine lv_aload_n hx hb dX12_sets_33 rfl (lv_at hl 0 rfl) ?_
      obtain ⟨r_54, v_55, q_56, hf_53, hr_57, hv_58⟩ := (show tp_o_M L K 0 0 (Γ_47 (39, 0, 0)) (f_45 o) from hI.at ho)
      have hx_59 : (v_55 0).toInt = Γ_47 (39, 0, 0) 0 := hv_58 0 (by decide)
      have hx_60 : (v_55 1).toInt = Γ_47 (39, 0, 0) 1 := hv_58 1 (by decide)
      have hx_61 : (v_55 3).toInt = Γ_47 (39, 0, 0) 3 := hv_58 3 (by decide)
      have hx_62 : (v_55 4).toInt = Γ_47 (39, 0, 0) 4 := hv_58 4 (by decide)
      have hx_63 : (v_55 5).toInt = Γ_47 (39, 0, 0) 5 := hv_58 5 (by decide)
      have hx_64 : (v_55 6).toInt = Γ_47 (39, 0, 0) 6 := hv_58 6 (by decide)
      have hx_65 : (v_55 7).toInt = Γ_47 (39, 0, 0) 7 := hv_58 7 (by decide)
      have hx_66 : (v_55 8).toInt = Γ_47 (39, 0, 0) 8 := hv_58 8 (by decide)
      refine tp_get (cy := cy) (ci := 12) (v := .int (v_55 4)) (C := RX12) (T := TX12) (N := 49) hx hb hta inlX12 hown hK hP ho.1 hf_53 rfl 20 (by decide) (hta _ wk_537) (fun _ h9 => h9) rfl dX12_sets_34 ?_
      refine lv_aload_n hx hb dX12_sets_37 rfl (lv_at hl 0 rfl) ?_
      refine tp_get (cy := cy) (ci := 12) (v := .int (v_55 3)) (C := RX12) (T := TX12) (N := 49) hx hb hta inlX12 hown hK hP ho.1 hf_53 rfl 19 (by decide) (hta _ wk_585) (fun _ h9 => h9) rfl dX12_sets_38 ?_
      have hn_67 : vp_in (v_55 4) (22) := tl_in (by omega) (by omega)
      have hj_68 : (v_55 4).toNatClampNeg = t0.toNat := by show (v_55 4).toInt.toNat = _; omega
      have hv_69 : (v_55 3).toInt = Γ_47 (39, 0, 0) 3 := by omega
      obtain ⟨Γ_70, eΓ_70⟩ : ∃ y : tk_G, y = tg Γ_47 (51, 22, 0) t0.toNat (Γ_47 (39, 0, 0) 3) := ⟨_, rfl⟩
      have hI9 : tp_I cy L K Γ_70 (va_up f_45 q (.inl (cy 0, 22, .inl (upd g_16 (v_55 4).toNatClampNeg (v_55 3))))) := by have q9 : tg Γ_47 (51, 22, 0) t0.toNat (Γ_47 (39, 0, 0) 3) = tg Γ_47 (51, 22, 0) (v_55 4).toNatClampNeg (v_55 3).toInt := (by rw [hj_68, hv_69]); rw [eΓ_70, q9]; exact hI.setg hU rfl hq (show tp_gi cy (22) (tgu (Γ_47 (51, 22, 0)) _ _) _ from ⟨_, rfl, tp_gi_upd hg_50⟩)
      have hfr9 : ∀ b, (K b).1 ∉ ([39, 51] : List Nat) → va_up f_45 q (.inl (cy 0, 22, .inl (upd g_16 (v_55 4).toNatClampNeg (v_55 3)))) b = f b := tp_fr hfr hq (by decide)
      refine tp_iast (cy := cy) hx hb hK hP hD hS hq.1 hf_49 hn_67 dX12_sets_41 (fun H locs hP hD hS => ?_)
      have hP : va_P D vwCl (va_pl L (va_up f_45 q (.inl (cy 0, 22, .inl (upd g_16 (v_55 4).toNatClampNeg (v_55 3)))))) H := hP
      generalize hfe : va_up f_45 q (.inl (cy 0, 22, .inl (upd g_16 (v_55 4).toNatClampNeg (v_55 3)))) = f_71 at hP hI9 hfr9
      have hD : va_D A (va_pl L f_71) := tp_D hL hAL
      have hf_72 : f_71 q = .inl (cy 0, 22, .inl (upd g_16 (v_55 4).toNatClampNeg (v_55 3))) := by rw [← hfe]; exact va_up_self _ _ _
      have hf_73 := (show f_71 o = _ from by rw [← hfe, va_up_ne _ _ (tp_ne ho hq (by decide))]).trans hf_53
      clear hfe
      have hI := hI9
      have hfr := hfr9
      clear hI9 hfr9
      have wsΓ_70 : Γ_70 (51, 22, 0) t0.toNat = Γ_47 (39, 0, 0) 3 := by rw [eΓ_70]; exact tg_s
      have hgr : ∀ κ : tk_K, κ.1 ∉ ([39, 51] : List Nat) → Γ_70 κ = Γ κ := tg_fr hgr eΓ_70 (by decide)
      have hv_74 : ∀ i : Nat, i < 16 → (v_55 i).toInt = Γ_70 (39, 0, 0) i := fun i hi => by rw [eΓ_70, tg_r (by decide)]; exact hv_58 i hi
      have hx_75 : (v_55 0).toInt = Γ_70 (39, 0, 0) 0 := hv_74 0 (by decide)
      have hx_76 : (v_55 1).toInt = Γ_70 (39, 0, 0) 1 := hv_74 1 (by decide)
      have hx_77 : (v_55 3).toInt = Γ_70 (39, 0, 0) 3 := hv_74 3 (by decide)
      have hx_78 : (v_55 4).toInt = Γ_70 (39, 0, 0) 4 := hv_74 4 (by decide)
      have hx_79 : (v_55 5).toInt = Γ_70 (39, 0, 0) 5 := hv_74 5 (by decide)
      have hx_80 : (v_55 6).toInt = Γ_70 (39, 0, 0) 6 := hv_74 6 (by decide)
      have hx_81 : (v_55 7).toInt = Γ_70 (39, 0, 0) 7 := hv_74 7 (by decide)
      have hx_82 : (v_55 8).toInt = Γ_70 (39, 0, 0) 8 := hv_74 8 (by decide)
      have hO : Γ_70 (51, 22, 0) = tgu (Γ (51, 22, 0)) t0.toNat (Γ_47 (39, 0, 0) 3) := by rw [eΓ_70, tg_f, hO]
      refine lv_iconst (v := 1) hx hb dX12_sets_42 (by decide) ?_
      have hpo9 : tl_J (1 : Int32) ((p0.toInt ≤ Γ_70 (39, 0, 0) 3 ∧ Γ_70 (39, 0, 0) 3 ≤ p1.toInt) ∧ Γ (39, 0, 0) 1 + 1 ≤ Γ_70 (39, 0, 0) 1 ∧ Γ_70 (51, 22, 0) = tgu (Γ (51, 22, 0)) t0.toNat (Γ_70 (39, 0, 0) 3)) ∧ Γ_70 (39, 0, 0) 0 = Γ (39, 0, 0) 0 ∧ Γ_70 (39, 0, 0) 4 = Γ (39, 0, 0) 4 ∧ Γ_70 (39, 0, 0) 5 = Γ (39, 0, 0) 5 ∧ Γ_70 (39, 0, 0) 6 = Γ (39, 0, 0) 6 ∧ Γ_70 (39, 0, 0) 7 = Γ (39, 0, 0) 7 ∧ Γ_70 (39, 0, 0) 8 = Γ (39, 0, 0) 8 ∧ Γ (39, 0, 0) 1 ≤ Γ_70 (39, 0, 0) 1 ∧ Γ_70 (39, 0, 0) 1 ≤ T0 ∧ (∀ j : Nat, ¬ j = t0.toNat → Γ_70 (51, 22, 0) j = Γ (51, 22, 0) j) ∧ (Γ_70 (51, 22, 0) t0.toNat = Γ (51, 22, 0) t0.toNat ∨ (p0.toInt ≤ Γ_70 (51, 22, 0) t0.toNat ∧ Γ_70 (51, 22, 0) t0.toNat ≤ p1.toInt)) := ⟨(Or.inl ⟨rfl, ⟨(by omega), (by omega), (by rw [hO, show Γ_70 (39, 0, 0) 3 = Γ_47 (39, 0, 0) 3 from by omega])⟩⟩), ⟨(by omega), (by omega), (by omega), (by omega), (by omega), (by omega), (by omega), (by omega), (fun j9 q9 => by rw [hO, tgu_n q9]), (Or.inr (by rw [hO, tgu_s]; omega))⟩⟩
      exact W.zret (ty := .boolean) (v := 1) hx hb hr rfl (fun t ht hW => ⟨⟨_, (f_71, Γ_70), rfl, hpo9, by rw [ht]; exact hP, hI, hfr, hgr⟩, hS.F ht⟩) hS.2.2 dX12_sets_43
    · have c_52 := c_52
      refine lv_iconst (v := 0) hx hb dX12_sets_30 (by decide) ?_
      have hpo9 : tl_J (0 : Int32) ((p0.toInt ≤ Γ_47 (39, 0, 0) 3 ∧ Γ_47 (39, 0, 0) 3 ≤ p1.toInt) ∧ Γ (39, 0, 0) 1 + 1 ≤ Γ_47 (39, 0, 0) 1 ∧ Γ_47 (51, 22, 0) = tgu (Γ (51, 22, 0)) t0.toNat (Γ_47 (39, 0, 0) 3)) ∧ Γ_47 (39, 0, 0) 0 = Γ (39, 0, 0) 0 ∧ Γ_47 (39, 0, 0) 4 = Γ (39, 0, 0) 4 ∧ Γ_47 (39, 0, 0) 5 = Γ (39, 0, 0) 5 ∧ Γ_47 (39, 0, 0) 6 = Γ (39, 0, 0) 6 ∧ Γ_47 (39, 0, 0) 7 = Γ (39, 0, 0) 7 ∧ Γ_47 (39, 0, 0) 8 = Γ (39, 0, 0) 8 ∧ Γ (39, 0, 0) 1 ≤ Γ_47 (39, 0, 0) 1 ∧ Γ_47 (39, 0, 0) 1 ≤ T0 ∧ (∀ j : Nat, ¬ j = t0.toNat → Γ_47 (51, 22, 0) j = Γ (51, 22, 0) j) ∧ (Γ_47 (51, 22, 0) t0.toNat = Γ (51, 22, 0) t0.toNat ∨ (p0.toInt ≤ Γ_47 (51, 22, 0) t0.toNat ∧ Γ_47 (51, 22, 0) t0.toNat ≤ p1.toInt)) := ⟨(Or.inr rfl), ⟨(by omega), (by omega), (by omega), (by omega), (by omega), (by omega), (by omega), (by omega), (fun j9 q9 => by rw [hO]), (Or.inl (by rw [hO]))⟩⟩
      exact W.zret (ty := .boolean) (v := 0) hx hb hr rfl (fun t ht hW => ⟨⟨_, (f_45, Γ_47), rfl, hpo9, by rw [ht]; exact hP, hI, hfr, hgr⟩, hS.F ht⟩) hS.2.2 dX12_sets_31
  · have c_20 : (0 : Int) ≤ z_19.toInt := tl_nlt c_20
    refine lv_aload_n hx hb dX12_sets_9 rfl (lv_at hl 0 rfl) ?_
    refine lv_iconst (v := 4) hx hb dX12_sets_10 (by decide) ?_
    refine lv_iload hx hb dX12_sets_11 (lv_at hl 4 rfl) ?_
    refine tq_ciR hS (hAf _ hS.1) (tq_rV (As := [.int 4, .int p2]) (rest := []) ⟨hx, hb, hml, hown, hta⟩ (tp_P.pre hK hN hL hU hI hP) (tp_recv hK hP ho.1 hf_1 rfl) lk_X12_184 (r_X12_fails l D cy s.heap.size L K Γ f o 4 p2 ho) rfl rfl ⟨Nat.le_of_ble_eq_true rfl, Nat.le_of_ble_eq_true rfl⟩ rfl hl.1 rfl (Nat.le_of_ble_eq_true rfl) dX12_sets_13 ⟨Nat.le_of_ble_eq_true rfl, Nat.le_of_ble_eq_true rfl⟩) (fun r_84 f_85 Γ_87 H locs hw_83 hP hI hc_86 hcg_88 hS => ?_)
    have hD : va_D A (va_pl L f_85) := tp_D hL hAL
    have hfr := tp_fr2 hfr hc_86 (by decide)
    have hgr : ∀ κ : tk_K, κ.1 ∉ ([39, 51] : List Nat) → Γ_87 κ = Γ κ := tg_fr2 hgr hcg_88 (by decide)
    have hf_89 := (tp_un hc_86 hq (by decide)).trans hf_15
    have hg_90 : ∀ j : Nat, j < 22 → (g_16 j).toInt = Γ_87 (51, 22, 0) j := fun j hj => by rw [hcg_88 _ (by decide)]; exact hg_17 j hj
    obtain ⟨rfl, hw_83⟩ := hw_83
    have hw_83 : Γ_87 (39, 0, 0) 0 = Γ (39, 0, 0) 0 ∧ Γ_87 (39, 0, 0) 1 = Γ (39, 0, 0) 1 ∧ Γ_87 (39, 0, 0) 3 = Γ (39, 0, 0) 3 ∧ Γ_87 (39, 0, 0) 4 = Γ (39, 0, 0) 4 ∧ Γ_87 (39, 0, 0) 5 = Γ (39, 0, 0) 5 ∧ Γ_87 (39, 0, 0) 6 = Γ (39, 0, 0) 6 ∧ Γ_87 (39, 0, 0) 7 = Γ (39, 0, 0) 7 ∧ Γ_87 (39, 0, 0) 8 = Γ (39, 0, 0) 8 := hw_83
    have hO : Γ_87 (51, 22, 0) = Γ (51, 22, 0) := (hcg_88 (51, 22, 0) (by decide)).trans hO
    have hpo9 : tl_J (0 : Int32) ((p0.toInt ≤ Γ_87 (39, 0, 0) 3 ∧ Γ_87 (39, 0, 0) 3 ≤ p1.toInt) ∧ Γ (39, 0, 0) 1 + 1 ≤ Γ_87 (39, 0, 0) 1 ∧ Γ_87 (51, 22, 0) = tgu (Γ (51, 22, 0)) t0.toNat (Γ_87 (39, 0, 0) 3)) ∧ Γ_87 (39, 0, 0) 0 = Γ (39, 0, 0) 0 ∧ Γ_87 (39, 0, 0) 4 = Γ (39, 0, 0) 4 ∧ Γ_87 (39, 0, 0) 5 = Γ (39, 0, 0) 5 ∧ Γ_87 (39, 0, 0) 6 = Γ (39, 0, 0) 6 ∧ Γ_87 (39, 0, 0) 7 = Γ (39, 0, 0) 7 ∧ Γ_87 (39, 0, 0) 8 = Γ (39, 0, 0) 8 ∧ Γ (39, 0, 0) 1 ≤ Γ_87 (39, 0, 0) 1 ∧ Γ_87 (39, 0, 0) 1 ≤ T0 ∧ (∀ j : Nat, ¬ j = t0.toNat → Γ_87 (51, 22, 0) j = Γ (51, 22, 0) j) ∧ (Γ_87 (51, 22, 0) t0.toNat = Γ (51, 22, 0) t0.toNat ∨ (p0.toInt ≤ Γ_87 (51, 22, 0) t0.toNat ∧ Γ_87 (51, 22, 0) t0.toNat ≤ p1.toInt)) := ⟨(Or.inr rfl), ⟨(by omega), (by omega), (by omega), (by omega), (by omega), (by omega), (by omega), (by omega), (fun j9 q9 => by rw [hO]), (Or.inl (by rw [hO]))⟩⟩
    exact W.zret (ty := .boolean) (v := 0) hx hb hr rfl (fun t ht hW => ⟨⟨_, (f_85, Γ_87), rfl, hpo9, by rw [ht]; exact hP, hI, hfr, hgr⟩, hS.F ht⟩) hS.2.2 dX12_sets_16
set_option maxHeartbeats 4000000 in
set_option maxRecDepth 100000 in
theorem r_X12_rippled (l : Launch) (D : va_G) (cy : Nat → ClassId) (sz : Nat) (L : List Nat) (K : Nat → tk_K) (Γ : tk_G) (f : Nat → va_E) (o : Nat) (p0 : Int32) (τ : Nat → Int) (T0 : Int) (t0 : Int) (ho : tp_r L K 39 (0) 0 o) (ht : Γ (41, 400, 0) = τ) (hT : Γ (39, 0, 0) 0 = T0) (hb0 : 0 ≤ Γ (39, 0, 0) 1 ∧ Γ (39, 0, 0) 1 ≤ T0 ∧ T0 ≤ 400) (h4 : Γ (39, 0, 0) 4 = t0 ∧ 0 ≤ t0 ∧ t0 ≤ 21) : Met l yX12_rippled (tl_w yX12_rippled cX12_rippled 2 (some .boolean)) ({ frames := 3, cells := 0, slots := 0, locals := 73 }) (va_Pc [.ref o, .int p0] (tp_P D cy L K Γ f sz)) (va_Qi (fun (r : Int32) (u : (Nat → va_E) × tk_G) => tl_J r (Γ (39, 0, 0) 1 ≤ u.2 (39, 0, 0) 1) ∧ u.2 (39, 0, 0) 0 = Γ (39, 0, 0) 0 ∧ u.2 (39, 0, 0) 4 = Γ (39, 0, 0) 4 ∧ u.2 (39, 0, 0) 5 = Γ (39, 0, 0) 5 ∧ u.2 (39, 0, 0) 6 = Γ (39, 0, 0) 6 ∧ u.2 (39, 0, 0) 7 = Γ (39, 0, 0) 7 ∧ u.2 (39, 0, 0) 8 = Γ (39, 0, 0) 8 ∧ Γ (39, 0, 0) 1 ≤ u.2 (39, 0, 0) 1 ∧ u.2 (39, 0, 0) 1 ≤ T0) (tp_BG D cy L K Γ f [39, 54, 55]) (tp_A L sz)) 0 0 (tp_A L sz) := by
  refine Met.ofW (cc := cX12_rippled) (maxL := 2) (ret := (some .boolean)) (by decide) rfl ?_
  intro p e s m args below meth c s₁ B hml hv
  obtain ⟨rfl, hsz, hP, hK, hL, hI, hN, hU⟩ := hv
  have hx := B.exec
  have hb := B.bytes
  have hr := B.returns
  have hta := tl_hta (atoms_spec (ws := tl_w yX12_rippled cX12_rippled 2 (some .boolean)) B.pre)
  have hown : s.vm.findClass RX12 = some m.cls := findClass_of_methodNamed B.named
  have hlocks := B.notSynchronized
  subst hsz
  have hI0 := hI
  generalize hAe : tp_A L s.heap.size = A
  have hA : ∀ q : Nat, s.heap.size ≤ q → A q := fun q h => by rw [← hAe]; exact Or.inr h
  have hAL : ∀ q ∈ L, A q := fun q h => by rw [← hAe]; exact Or.inl h
  have hAf : ∀ (H : Heap), s.heap.size ≤ H.size → ∀ q, tp_A L H.size q → A q := fun H h q hq => hq.elim (hAL q) (fun h2 => hA q (Nat.le_trans h h2))
  have hS : va_S A s.heap s.heap [] := va_S.rf
  have hD : va_D A (va_pl L f) := tp_D hL hAL
  have hfr : ∀ b, (K b).1 ∉ ([39, 54, 55] : List Nat) → f b = f b := fun _ _ => rfl
  have hgr : ∀ κ : tk_K, κ.1 ∉ ([39, 54, 55] : List Nat) → Γ κ = Γ κ := fun _ _ => rfl
  have hl := lv_entry ([.ref o, .int p0]) (n := 2) (Nat.le_of_ble_eq_true rfl)
  rw [lg_entry_eq]
  generalize (lg_sl ([.ref o, .int p0]) ++ List.replicate (2 - (lg_sl ([.ref o, .int p0])).length) Slot.unset).toArray = ls at hl ⊢
  have hl : lv_has ls 2 [(0, .ref o), (1, .int p0)] := hl
  refine lv_aload_n hx hb dX12_rippled_0 rfl (lv_at hl 0 rfl) ?_
  refine lv_aload_n hx hb dX12_rippled_1 rfl (lv_at hl 0 rfl) ?_
  obtain ⟨r_2, v_3, q_4, hf_1, hr_5, hv_6⟩ := (show tp_o_M L K 0 0 (Γ (39, 0, 0)) (f o) from hI.at ho)
  refine tp_get (cy := cy) (ci := 12) (v := .ref (r_2 9)) (C := RX12) (T := TX12) (N := 49) hx hb hta inlX12 hown hK hP ho.1 hf_1 rfl 10 (by decide) (hta _ wk_159) (fun _ h9 => h9) rfl dX12_rippled_2 ?_
  refine lv_iconst (v := 2) hx hb dX12_rippled_5 (by decide) ?_
  refine lv_bipush (v := 99) hx hb dX12_rippled_6 (by decide) ?_
  refine lv_iload_n hx hb dX12_rippled_8 rfl (lv_at hl 1 rfl) ?_
  refine tq_ciR hS (hAf _ hS.1) (tq_rV (As := [.ref (r_2 9), .int 2, .int 99, .int p0]) (rest := []) ⟨hx, hb, hml, hown, hta⟩ (tp_P.pre hK hN hL hU hI hP) (tp_recv hK hP ho.1 hf_1 rfl) lk_X12_284 (r_sets_BEAT l D cy s.heap.size L K Γ f o (r_2 9) 2 99 p0 τ T0 t0 ho (show tp_r L K 54 22 0 (r_2 9) from hr_5 9 (by decide)) ht (by first | omega | (simp only [Int32.toInt_toInt64]; omega) | decide | assumption) (by first | omega | (simp only [Int32.toInt_toInt64]; omega) | decide | assumption) (by first | omega | (simp only [Int32.toInt_toInt64]; omega) | decide | assumption)) rfl rfl ⟨Nat.le_of_ble_eq_true rfl, Nat.le_of_ble_eq_true rfl⟩ rfl hl.1 rfl (Nat.le_of_ble_eq_true rfl) dX12_rippled_9 ⟨Nat.le_of_ble_eq_true rfl, Nat.le_of_ble_eq_true rfl⟩) (fun r_16 f_17 Γ_19 H locs hw_15 hP hI hc_18 hcg_20 hS => ?_)
  have hD : va_D A (va_pl L f_17) := tp_D hL hAL
  have hfr := tp_fr2 hfr hc_18 (by decide)
  have hgr : ∀ κ : tk_K, κ.1 ∉ ([39, 54, 55] : List Nat) → Γ_19 κ = Γ κ := tg_fr2 hgr hcg_20 (by decide)
  obtain ⟨hE_21, hw_15⟩ := hw_15
  have hE_21 : tl_J r_16 (((2 : Int) ≤ Γ_19 (39, 0, 0) 3 ∧ Γ_19 (39, 0, 0) 3 ≤ (99 : Int)) ∧ Γ (39, 0, 0) 1 + 1 ≤ Γ_19 (39, 0, 0) 1) := hE_21
  have hw_15 : Γ_19 (39, 0, 0) 0 = Γ (39, 0, 0) 0 ∧ Γ_19 (39, 0, 0) 4 = Γ (39, 0, 0) 4 ∧ Γ_19 (39, 0, 0) 5 = Γ (39, 0, 0) 5 ∧ Γ_19 (39, 0, 0) 6 = Γ (39, 0, 0) 6 ∧ Γ_19 (39, 0, 0) 7 = Γ (39, 0, 0) 7 ∧ Γ_19 (39, 0, 0) 8 = Γ (39, 0, 0) 8 ∧ Γ (39, 0, 0) 1 ≤ Γ_19 (39, 0, 0) 1 ∧ Γ_19 (39, 0, 0) 1 ≤ T0 := hw_15
  refine lv_if_eq (tgt := 26) hx hb dX12_rippled_12 (by decide) (fun c_22 => ?_) (fun c_22 => ?_)
  · have c_22 := c_22
    refine lv_iconst (v := 0) hx hb dX12_rippled_26 (by decide) ?_
    have hpo9 : tl_J (0 : Int32) (Γ (39, 0, 0) 1 ≤ Γ_19 (39, 0, 0) 1) ∧ Γ_19 (39, 0, 0) 0 = Γ (39, 0, 0) 0 ∧ Γ_19 (39, 0, 0) 4 = Γ (39, 0, 0) 4 ∧ Γ_19 (39, 0, 0) 5 = Γ (39, 0, 0) 5 ∧ Γ_19 (39, 0, 0) 6 = Γ (39, 0, 0) 6 ∧ Γ_19 (39, 0, 0) 7 = Γ (39, 0, 0) 7 ∧ Γ_19 (39, 0, 0) 8 = Γ (39, 0, 0) 8 ∧ Γ (39, 0, 0) 1 ≤ Γ_19 (39, 0, 0) 1 ∧ Γ_19 (39, 0, 0) 1 ≤ T0 := ⟨(Or.inr rfl), ⟨(by omega), (by omega), (by omega), (by omega), (by omega), (by omega), (by omega), (by omega)⟩⟩
    exact W.zret (ty := .boolean) (v := 0) hx hb hr rfl (fun t ht hW => ⟨⟨_, (f_17, Γ_19), rfl, hpo9, by rw [ht]; exact hP, hI, hfr, hgr⟩, hS.F ht⟩) hS.2.2 dX12_rippled_27
  · have c_22 := hE_21.t c_22
    refine lv_aload_n hx hb dX12_rippled_15 rfl (lv_at hl 0 rfl) ?_
    refine lv_iconst (v := 0) hx hb dX12_rippled_16 (by decide) ?_
    refine lv_sipush (v := 9999) hx hb dX12_rippled_17 (by decide) ?_
    obtain ⟨r_24, v_25, q_26, hf_23, hr_27, hv_28⟩ := (show tp_o_M L K 0 0 (Γ_19 (39, 0, 0)) (f_17 o) from hI.at ho)
    refine tq_ciR hS (hAf _ hS.1) (tq_rV (As := [.int 0, .int 9999]) (rest := []) ⟨hx, hb, hml, hown, hta⟩ (tp_P.pre hK hN hL hU hI hP) (tp_recv hK hP ho.1 hf_23 rfl) lk_X12_233 (r_X12_numberHere l D cy H.size L K Γ_19 f_17 o 0 9999 τ T0 ho ((hgr _ (by decide)).trans ht) (by first | omega | (simp only [Int32.toInt_toInt64]; omega) | decide | assumption) (by first | omega | (simp only [Int32.toInt_toInt64]; omega) | decide | assumption)) rfl rfl ⟨Nat.le_of_ble_eq_true rfl, Nat.le_of_ble_eq_true rfl⟩ rfl hl.1 rfl (Nat.le_of_ble_eq_true rfl) dX12_rippled_20 ⟨Nat.le_of_ble_eq_true rfl, Nat.le_of_ble_eq_true rfl⟩) (fun r_38 f_39 Γ_41 H locs hw_37 hP hI hc_40 hcg_42 hS => ?_)
    have hD : va_D A (va_pl L f_39) := tp_D hL hAL
    have hfr := tp_fr2 hfr hc_40 (by decide)
    have hgr : ∀ κ : tk_K, κ.1 ∉ ([39, 54, 55] : List Nat) → Γ_41 κ = Γ κ := tg_fr2 hgr hcg_42 (by decide)
    obtain ⟨hE_43, hw_37⟩ := hw_37
    have hE_43 : tl_J r_38 ((0 : Int) ≤ Γ_41 (39, 0, 0) 3 ∧ Γ_41 (39, 0, 0) 3 ≤ (9999 : Int) ∧ Γ_19 (39, 0, 0) 1 + 1 ≤ Γ_41 (39, 0, 0) 1) := hE_43
    have hw_37 : Γ_41 (39, 0, 0) 0 = Γ_19 (39, 0, 0) 0 ∧ Γ_41 (39, 0, 0) 4 = Γ_19 (39, 0, 0) 4 ∧ Γ_41 (39, 0, 0) 5 = Γ_19 (39, 0, 0) 5 ∧ Γ_41 (39, 0, 0) 6 = Γ_19 (39, 0, 0) 6 ∧ Γ_41 (39, 0, 0) 7 = Γ_19 (39, 0, 0) 7 ∧ Γ_41 (39, 0, 0) 8 = Γ_19 (39, 0, 0) 8 ∧ Γ_19 (39, 0, 0) 1 ≤ Γ_41 (39, 0, 0) 1 ∧ Γ_41 (39, 0, 0) 1 ≤ T0 := hw_37
    refine lv_if_ne (tgt := 28) hx hb dX12_rippled_23 (by decide) (fun c_44 => ?_) (fun c_44 => ?_)
    · have c_44 := hE_43.t c_44
      refine lv_aload_n hx hb dX12_rippled_28 rfl (lv_at hl 0 rfl) ?_
      obtain ⟨r_46, v_47, q_48, hf_45, hr_49, hv_50⟩ := (show tp_o_M L K 0 0 (Γ_41 (39, 0, 0)) (f_39 o) from hI.at ho)
      have hx_53 : (v_47 3).toInt = Γ_41 (39, 0, 0) 3 := hv_50 3 (by decide)
      have hx_54 : (v_47 4).toInt = Γ_41 (39, 0, 0) 4 := hv_50 4 (by decide)
      refine tp_get (cy := cy) (ci := 12) (v := .ref (r_46 10)) (C := RX12) (T := TX12) (N := 49) hx hb hta inlX12 hown hK hP ho.1 hf_45 rfl 11 (by decide) (hta _ wk_160) (fun _ h9 => h9) rfl dX12_rippled_29 ?_
      refine lv_aload_n hx hb dX12_rippled_32 rfl (lv_at hl 0 rfl) ?_
      refine tp_get (cy := cy) (ci := 12) (v := .int (v_47 4)) (C := RX12) (T := TX12) (N := 49) hx hb hta inlX12 hown hK hP ho.1 hf_45 rfl 20 (by decide) (hta _ wk_537) (fun _ h9 => h9) rfl dX12_rippled_33 ?_
      refine lv_aload_n hx hb dX12_rippled_36 rfl (lv_at hl 0 rfl) ?_
      refine tp_get (cy := cy) (ci := 12) (v := .int (v_47 3)) (C := RX12) (T := TX12) (N := 49) hx hb hta inlX12 hown hK hP ho.1 hf_45 rfl 19 (by decide) (hta _ wk_585) (fun _ h9 => h9) rfl dX12_rippled_37 ?_
      obtain ⟨g_60, hf_59, hg_61⟩ := (show tp_ai cy 55 (22) (f_39 (r_46 10)) from hI.at (show tp_r L K 55 22 0 (r_46 10) from hr_49 10 (by decide)))
      have hn_62 : vp_in (v_47 4) (22) := tl_in (by omega) (by omega)
      have hI9 : tp_I cy L K Γ_41 (va_up f_39 (r_46 10) (.inl (cy 0, 22, .inl (upd g_60 (v_47 4).toNatClampNeg (v_47 3))))) := hI.set (show tp_r L K 55 22 0 (r_46 10) from hr_49 10 (by decide)) (show tp_ai cy 55 (22) _ from ⟨_, rfl, tp_pi_upd hg_61 trivial⟩)
      have hfr9 : ∀ b, (K b).1 ∉ ([39, 54, 55] : List Nat) → va_up f_39 (r_46 10) (.inl (cy 0, 22, .inl (upd g_60 (v_47 4).toNatClampNeg (v_47 3)))) b = f b := tp_fr hfr (show tp_r L K 55 22 0 (r_46 10) from hr_49 10 (by decide)) (by decide)
      refine tp_iast (cy := cy) hx hb hK hP hD hS (show tp_r L K 55 22 0 (r_46 10) from hr_49 10 (by decide)).1 hf_59 hn_62 dX12_rippled_40 (fun H locs hP hD hS => ?_)
      have hP : va_P D vwCl (va_pl L (va_up f_39 (r_46 10) (.inl (cy 0, 22, .inl (upd g_60 (v_47 4).toNatClampNeg (v_47 3)))))) H := hP
      generalize hfe : va_up f_39 (r_46 10) (.inl (cy 0, 22, .inl (upd g_60 (v_47 4).toNatClampNeg (v_47 3)))) = f_63 at hP hI9 hfr9
      have hD : va_D A (va_pl L f_63) := tp_D hL hAL
      have hf_64 := (show f_63 o = _ from by rw [← hfe, va_up_ne _ _ (tp_ne ho (show tp_r L K 55 22 0 (r_46 10) from hr_49 10 (by decide)) (by decide))]).trans hf_45
      have hf_65 : f_63 (r_46 10) = .inl (cy 0, 22, .inl (upd g_60 (v_47 4).toNatClampNeg (v_47 3))) := by rw [← hfe]; exact va_up_self _ _ _
      clear hfe
      have hI := hI9
      have hfr := hfr9
      clear hI9 hfr9
      refine lv_iconst (v := 1) hx hb dX12_rippled_41 (by decide) ?_
      have hpo9 : tl_J (1 : Int32) (Γ (39, 0, 0) 1 ≤ Γ_41 (39, 0, 0) 1) ∧ Γ_41 (39, 0, 0) 0 = Γ (39, 0, 0) 0 ∧ Γ_41 (39, 0, 0) 4 = Γ (39, 0, 0) 4 ∧ Γ_41 (39, 0, 0) 5 = Γ (39, 0, 0) 5 ∧ Γ_41 (39, 0, 0) 6 = Γ (39, 0, 0) 6 ∧ Γ_41 (39, 0, 0) 7 = Γ (39, 0, 0) 7 ∧ Γ_41 (39, 0, 0) 8 = Γ (39, 0, 0) 8 ∧ Γ (39, 0, 0) 1 ≤ Γ_41 (39, 0, 0) 1 ∧ Γ_41 (39, 0, 0) 1 ≤ T0 := ⟨(Or.inl ⟨rfl, (by omega)⟩), ⟨(by omega), (by omega), (by omega), (by omega), (by omega), (by omega), (by omega), (by omega)⟩⟩
      exact W.zret (ty := .boolean) (v := 1) hx hb hr rfl (fun t ht hW => ⟨⟨_, (f_63, Γ_41), rfl, hpo9, by rw [ht]; exact hP, hI, hfr, hgr⟩, hS.F ht⟩) hS.2.2 dX12_rippled_42
    · have c_44 := c_44
      refine lv_iconst (v := 0) hx hb dX12_rippled_26 (by decide) ?_
      have hpo9 : tl_J (0 : Int32) (Γ (39, 0, 0) 1 ≤ Γ_41 (39, 0, 0) 1) ∧ Γ_41 (39, 0, 0) 0 = Γ (39, 0, 0) 0 ∧ Γ_41 (39, 0, 0) 4 = Γ (39, 0, 0) 4 ∧ Γ_41 (39, 0, 0) 5 = Γ (39, 0, 0) 5 ∧ Γ_41 (39, 0, 0) 6 = Γ (39, 0, 0) 6 ∧ Γ_41 (39, 0, 0) 7 = Γ (39, 0, 0) 7 ∧ Γ_41 (39, 0, 0) 8 = Γ (39, 0, 0) 8 ∧ Γ (39, 0, 0) 1 ≤ Γ_41 (39, 0, 0) 1 ∧ Γ_41 (39, 0, 0) 1 ≤ T0 := ⟨(Or.inr rfl), ⟨(by omega), (by omega), (by omega), (by omega), (by omega), (by omega), (by omega), (by omega)⟩⟩
      exact W.zret (ty := .boolean) (v := 0) hx hb hr rfl (fun t ht hW => ⟨⟨_, (f_39, Γ_41), rfl, hpo9, by rw [ht]; exact hP, hI, hfr, hgr⟩, hS.F ht⟩) hS.2.2 dX12_rippled_27
set_option maxHeartbeats 4000000 in
set_option maxRecDepth 100000 in
theorem r_X12_gapped (l : Launch) (D : va_G) (cy : Nat → ClassId) (sz : Nat) (L : List Nat) (K : Nat → tk_K) (Γ : tk_G) (f : Nat → va_E) (o : Nat) (p0 : Int32) (τ : Nat → Int) (T0 : Int) (t0 : Int) (ho : tp_r L K 39 (0) 0 o) (ht : Γ (41, 400, 0) = τ) (hT : Γ (39, 0, 0) 0 = T0) (hb0 : 0 ≤ Γ (39, 0, 0) 1 ∧ Γ (39, 0, 0) 1 ≤ T0 ∧ T0 ≤ 400) (h4 : Γ (39, 0, 0) 4 = t0 ∧ 0 ≤ t0 ∧ t0 ≤ 21) (hgf : -1 ≤ Γ (49, 22, 0) t0.toNat ∧ Γ (49, 22, 0) t0.toNat ≤ 299) (hgt : 0 ≤ Γ (50, 22, 0) t0.toNat ∧ Γ (50, 22, 0) t0.toNat ≤ 299) : Met l yX12_gapped (tl_w yX12_gapped cX12_gapped 2 (some .boolean)) ({ frames := 3, cells := 0, slots := 0, locals := 73 }) (va_Pc [.ref o, .int p0] (tp_P D cy L K Γ f sz)) (va_Qi (fun (r : Int32) (u : (Nat → va_E) × tk_G) => tl_J r (True) ∧ u.2 (39, 0, 0) 0 = Γ (39, 0, 0) 0 ∧ u.2 (39, 0, 0) 4 = Γ (39, 0, 0) 4 ∧ u.2 (39, 0, 0) 5 = Γ (39, 0, 0) 5 ∧ u.2 (39, 0, 0) 6 = Γ (39, 0, 0) 6 ∧ u.2 (39, 0, 0) 7 = Γ (39, 0, 0) 7 ∧ u.2 (39, 0, 0) 8 = Γ (39, 0, 0) 8 ∧ Γ (39, 0, 0) 1 ≤ u.2 (39, 0, 0) 1 ∧ u.2 (39, 0, 0) 1 ≤ T0 ∧ (∀ j : Nat, ¬ j = t0.toNat → u.2 (49, 22, 0) j = Γ (49, 22, 0) j ∧ u.2 (50, 22, 0) j = Γ (50, 22, 0) j) ∧ (-1 ≤ u.2 (49, 22, 0) t0.toNat ∧ u.2 (49, 22, 0) t0.toNat ≤ 299) ∧ (0 ≤ u.2 (50, 22, 0) t0.toNat ∧ u.2 (50, 22, 0) t0.toNat ≤ 299)) (tp_BG D cy L K Γ f [39, 49, 50]) (tp_A L sz)) 0 0 (tp_A L sz) := by
  refine Met.ofW (cc := cX12_gapped) (maxL := 2) (ret := (some .boolean)) (by decide) rfl ?_
  intro p e s m args below meth c s₁ B hml hv
  obtain ⟨rfl, hsz, hP, hK, hL, hI, hN, hU⟩ := hv
  have hx := B.exec
  have hb := B.bytes
  have hr := B.returns
  have hta := tl_hta (atoms_spec (ws := tl_w yX12_gapped cX12_gapped 2 (some .boolean)) B.pre)
  have hown : s.vm.findClass RX12 = some m.cls := findClass_of_methodNamed B.named
  have hlocks := B.notSynchronized
  subst hsz
  have hI0 := hI
  generalize hAe : tp_A L s.heap.size = A
  have hA : ∀ q : Nat, s.heap.size ≤ q → A q := fun q h => by rw [← hAe]; exact Or.inr h
  have hAL : ∀ q ∈ L, A q := fun q h => by rw [← hAe]; exact Or.inl h
  have hAf : ∀ (H : Heap), s.heap.size ≤ H.size → ∀ q, tp_A L H.size q → A q := fun H h q hq => hq.elim (hAL q) (fun h2 => hA q (Nat.le_trans h h2))
  have hS : va_S A s.heap s.heap [] := va_S.rf
  have hD : va_D A (va_pl L f) := tp_D hL hAL
  have hfr : ∀ b, (K b).1 ∉ ([39, 49, 50] : List Nat) → f b = f b := fun _ _ => rfl
  have hgr : ∀ κ : tk_K, κ.1 ∉ ([39, 49, 50] : List Nat) → Γ κ = Γ κ := fun _ _ => rfl
  have hl := lv_entry ([.ref o, .int p0]) (n := 2) (Nat.le_of_ble_eq_true rfl)
  rw [lg_entry_eq]
  generalize (lg_sl ([.ref o, .int p0]) ++ List.replicate (2 - (lg_sl ([.ref o, .int p0])).length) Slot.unset).toArray = ls at hl ⊢
  have hl : lv_has ls 2 [(0, .ref o), (1, .int p0)] := hl
  have hO_GFROM : Γ (49, 22, 0) = Γ (49, 22, 0) := rfl
  have hO_GTO : Γ (50, 22, 0) = Γ (50, 22, 0) := rfl
  refine lv_aload_n hx hb dX12_gapped_0 rfl (lv_at hl 0 rfl) ?_
  refine lv_aload_n hx hb dX12_gapped_1 rfl (lv_at hl 0 rfl) ?_
  obtain ⟨r_2, v_3, q_4, hf_1, hr_5, hv_6⟩ := (show tp_o_M L K 0 0 (Γ (39, 0, 0)) (f o) from hI.at ho)
  refine tp_get (cy := cy) (ci := 12) (v := .ref (r_2 13)) (C := RX12) (T := TX12) (N := 49) hx hb hta inlX12 hown hK hP ho.1 hf_1 rfl 14 (by decide) (hta _ wk_163) (fun _ h9 => h9) rfl dX12_gapped_2 ?_
  refine lv_iconst (v := 0) hx hb dX12_gapped_5 (by decide) ?_
  refine lv_sipush (v := 299) hx hb dX12_gapped_6 (by decide) ?_
  refine lv_iload_n hx hb dX12_gapped_9 rfl (lv_at hl 1 rfl) ?_
  refine tq_ciR hS (hAf _ hS.1) (tq_rV (As := [.ref (r_2 13), .int 0, .int 299, .int p0]) (rest := []) ⟨hx, hb, hml, hown, hta⟩ (tp_P.pre hK hN hL hU hI hP) (tp_recv hK hP ho.1 hf_1 rfl) lk_X12_284 (r_sets_GFROM l D cy s.heap.size L K Γ f o (r_2 13) 0 299 p0 τ T0 t0 ho (show tp_r L K 49 22 0 (r_2 13) from hr_5 13 (by decide)) ht (by first | omega | (simp only [Int32.toInt_toInt64]; omega) | decide | assumption) (by first | omega | (simp only [Int32.toInt_toInt64]; omega) | decide | assumption) (by first | omega | (simp only [Int32.toInt_toInt64]; omega) | decide | assumption)) rfl rfl ⟨Nat.le_of_ble_eq_true rfl, Nat.le_of_ble_eq_true rfl⟩ rfl hl.1 rfl (Nat.le_of_ble_eq_true rfl) dX12_gapped_10 ⟨Nat.le_of_ble_eq_true rfl, Nat.le_of_ble_eq_true rfl⟩) (fun r_16 f_17 Γ_19 H locs hw_15 hP hI hc_18 hcg_20 hS => ?_)
  have hD : va_D A (va_pl L f_17) := tp_D hL hAL
  have hfr := tp_fr2 hfr hc_18 (by decide)
  have hgr : ∀ κ : tk_K, κ.1 ∉ ([39, 49, 50] : List Nat) → Γ_19 κ = Γ κ := tg_fr2 hgr hcg_20 (by decide)
  obtain ⟨hE_21, hw_15⟩ := hw_15
  have hE_21 : tl_J r_16 (((0 : Int) ≤ Γ_19 (39, 0, 0) 3 ∧ Γ_19 (39, 0, 0) 3 ≤ (299 : Int)) ∧ Γ (39, 0, 0) 1 + 1 ≤ Γ_19 (39, 0, 0) 1 ∧ Γ_19 (49, 22, 0) = tgu (Γ (49, 22, 0)) t0.toNat (Γ_19 (39, 0, 0) 3)) := hE_21
  have hw_15 : Γ_19 (39, 0, 0) 0 = Γ (39, 0, 0) 0 ∧ Γ_19 (39, 0, 0) 4 = Γ (39, 0, 0) 4 ∧ Γ_19 (39, 0, 0) 5 = Γ (39, 0, 0) 5 ∧ Γ_19 (39, 0, 0) 6 = Γ (39, 0, 0) 6 ∧ Γ_19 (39, 0, 0) 7 = Γ (39, 0, 0) 7 ∧ Γ_19 (39, 0, 0) 8 = Γ (39, 0, 0) 8 ∧ Γ (39, 0, 0) 1 ≤ Γ_19 (39, 0, 0) 1 ∧ Γ_19 (39, 0, 0) 1 ≤ T0 ∧ (∀ j : Nat, ¬ j = t0.toNat → Γ_19 (49, 22, 0) j = Γ (49, 22, 0) j) ∧ (Γ_19 (49, 22, 0) t0.toNat = Γ (49, 22, 0) t0.toNat ∨ ((0 : Int) ≤ Γ_19 (49, 22, 0) t0.toNat ∧ Γ_19 (49, 22, 0) t0.toNat ≤ (299 : Int))) := hw_15
  have hOp_GFROM := hO_GFROM
  have hO_GTO : Γ_19 (50, 22, 0) = Γ (50, 22, 0) := (hcg_20 (50, 22, 0) (by decide)).trans hO_GTO
  have hgf9 := hw_15.2.2.2.2.2.2.2.2.1
  have hgf10 := hw_15.2.2.2.2.2.2.2.2.2
  refine lv_if_eq (tgt := 30) hx hb dX12_gapped_13 (by decide) (fun c_22 => ?_) (fun c_22 => ?_)
  · have c_22 := c_22
    refine lv_iconst (v := 0) hx hb dX12_gapped_30 (by decide) ?_
    have hpo9 : tl_J (0 : Int32) (True) ∧ Γ_19 (39, 0, 0) 0 = Γ (39, 0, 0) 0 ∧ Γ_19 (39, 0, 0) 4 = Γ (39, 0, 0) 4 ∧ Γ_19 (39, 0, 0) 5 = Γ (39, 0, 0) 5 ∧ Γ_19 (39, 0, 0) 6 = Γ (39, 0, 0) 6 ∧ Γ_19 (39, 0, 0) 7 = Γ (39, 0, 0) 7 ∧ Γ_19 (39, 0, 0) 8 = Γ (39, 0, 0) 8 ∧ Γ (39, 0, 0) 1 ≤ Γ_19 (39, 0, 0) 1 ∧ Γ_19 (39, 0, 0) 1 ≤ T0 ∧ (∀ j : Nat, ¬ j = t0.toNat → Γ_19 (49, 22, 0) j = Γ (49, 22, 0) j ∧ Γ_19 (50, 22, 0) j = Γ (50, 22, 0) j) ∧ (-1 ≤ Γ_19 (49, 22, 0) t0.toNat ∧ Γ_19 (49, 22, 0) t0.toNat ≤ 299) ∧ (0 ≤ Γ_19 (50, 22, 0) t0.toNat ∧ Γ_19 (50, 22, 0) t0.toNat ≤ 299) := ⟨(Or.inr rfl), ⟨(by omega), (by omega), (by omega), (by omega), (by omega), (by omega), (by omega), (by omega), (fun j9 q9 => ⟨(hgf9 j9 q9), (by rw [hO_GTO])⟩), (by omega), (by rw [hO_GTO]; omega)⟩⟩
    exact W.zret (ty := .boolean) (v := 0) hx hb hr rfl (fun t ht hW => ⟨⟨_, (f_17, Γ_19), rfl, hpo9, by rw [ht]; exact hP, hI, hfr, hgr⟩, hS.F ht⟩) hS.2.2 dX12_gapped_31
  · have c_22 := hE_21.t c_22
    have hgfj := (by assumption : ((0 : Int) ≤ Γ_19 (39, 0, 0) 3 ∧ Γ_19 (39, 0, 0) 3 ≤ (299 : Int)) ∧ Γ (39, 0, 0) 1 + 1 ≤ Γ_19 (39, 0, 0) 1 ∧ Γ_19 (49, 22, 0) = tgu (Γ (49, 22, 0)) t0.toNat (Γ_19 (39, 0, 0) 3))
    have hO_GFROM : Γ_19 (49, 22, 0) = tgu (Γ (49, 22, 0)) t0.toNat (Γ_19 (39, 0, 0) 3) := hgfj.2.2
    refine lv_aload_n hx hb dX12_gapped_16 rfl (lv_at hl 0 rfl) ?_
    refine lv_aload_n hx hb dX12_gapped_17 rfl (lv_at hl 0 rfl) ?_
    obtain ⟨r_24, v_25, q_26, hf_23, hr_27, hv_28⟩ := (show tp_o_M L K 0 0 (Γ_19 (39, 0, 0)) (f_17 o) from hI.at ho)
    have hx_31 : (v_25 3).toInt = Γ_19 (39, 0, 0) 3 := hv_28 3 (by decide)
    refine tp_get (cy := cy) (ci := 12) (v := .int (v_25 3)) (C := RX12) (T := TX12) (N := 49) hx hb hta inlX12 hown hK hP ho.1 hf_23 rfl 19 (by decide) (hta _ wk_585) (fun _ h9 => h9) rfl dX12_gapped_18 ?_
    refine lv_sipush (v := 299) hx hb dX12_gapped_21 (by decide) ?_
    refine tq_ciR hS (hAf _ hS.1) (tq_rV (As := [.int (v_25 3), .int 299]) (rest := []) ⟨hx, hb, hml, hown, hta⟩ (tp_P.pre hK hN hL hU hI hP) (tp_recv hK hP ho.1 hf_23 rfl) lk_X12_233 (r_X12_numberHere l D cy H.size L K Γ_19 f_17 o (v_25 3) 299 τ T0 ho ((hgr _ (by decide)).trans ht) (by first | omega | (simp only [Int32.toInt_toInt64]; omega) | decide | assumption) (by first | omega | (simp only [Int32.toInt_toInt64]; omega) | decide | assumption)) rfl rfl ⟨Nat.le_of_ble_eq_true rfl, Nat.le_of_ble_eq_true rfl⟩ rfl hl.1 rfl (Nat.le_of_ble_eq_true rfl) dX12_gapped_24 ⟨Nat.le_of_ble_eq_true rfl, Nat.le_of_ble_eq_true rfl⟩) (fun r_38 f_39 Γ_41 H locs hw_37 hP hI hc_40 hcg_42 hS => ?_)
    have hD : va_D A (va_pl L f_39) := tp_D hL hAL
    have hfr := tp_fr2 hfr hc_40 (by decide)
    have hgr : ∀ κ : tk_K, κ.1 ∉ ([39, 49, 50] : List Nat) → Γ_41 κ = Γ κ := tg_fr2 hgr hcg_42 (by decide)
    obtain ⟨hE_43, hw_37⟩ := hw_37
    have hE_43 : tl_J r_38 ((v_25 3).toInt ≤ Γ_41 (39, 0, 0) 3 ∧ Γ_41 (39, 0, 0) 3 ≤ (299 : Int) ∧ Γ_19 (39, 0, 0) 1 + 1 ≤ Γ_41 (39, 0, 0) 1) := hE_43
    have hw_37 : Γ_41 (39, 0, 0) 0 = Γ_19 (39, 0, 0) 0 ∧ Γ_41 (39, 0, 0) 4 = Γ_19 (39, 0, 0) 4 ∧ Γ_41 (39, 0, 0) 5 = Γ_19 (39, 0, 0) 5 ∧ Γ_41 (39, 0, 0) 6 = Γ_19 (39, 0, 0) 6 ∧ Γ_41 (39, 0, 0) 7 = Γ_19 (39, 0, 0) 7 ∧ Γ_41 (39, 0, 0) 8 = Γ_19 (39, 0, 0) 8 ∧ Γ_19 (39, 0, 0) 1 ≤ Γ_41 (39, 0, 0) 1 ∧ Γ_41 (39, 0, 0) 1 ≤ T0 := hw_37
    have hO_GTO : Γ_41 (50, 22, 0) = Γ (50, 22, 0) := (hcg_42 (50, 22, 0) (by decide)).trans hO_GTO
    have hO_GFROM : Γ_41 (49, 22, 0) = tgu (Γ (49, 22, 0)) t0.toNat (Γ_19 (39, 0, 0) 3) := (hcg_42 (49, 22, 0) (by decide)).trans hO_GFROM
    refine lv_if_ne (tgt := 32) hx hb dX12_gapped_27 (by decide) (fun c_44 => ?_) (fun c_44 => ?_)
    · have c_44 := hE_43.t c_44
      refine lv_aload_n hx hb dX12_gapped_32 rfl (lv_at hl 0 rfl) ?_
      obtain ⟨r_46, v_47, q_48, hf_45, hr_49, hv_50⟩ := (show tp_o_M L K 0 0 (Γ_41 (39, 0, 0)) (f_39 o) from hI.at ho)
      have hx_51 : (v_47 0).toInt = Γ_41 (39, 0, 0) 0 := hv_50 0 (by decide)
      have hx_52 : (v_47 1).toInt = Γ_41 (39, 0, 0) 1 := hv_50 1 (by decide)
      have hx_53 : (v_47 3).toInt = Γ_41 (39, 0, 0) 3 := hv_50 3 (by decide)
      have hx_54 : (v_47 4).toInt = Γ_41 (39, 0, 0) 4 := hv_50 4 (by decide)
      have hx_55 : (v_47 5).toInt = Γ_41 (39, 0, 0) 5 := hv_50 5 (by decide)
      have hx_56 : (v_47 6).toInt = Γ_41 (39, 0, 0) 6 := hv_50 6 (by decide)
      have hx_57 : (v_47 7).toInt = Γ_41 (39, 0, 0) 7 := hv_50 7 (by decide)
      have hx_58 : (v_47 8).toInt = Γ_41 (39, 0, 0) 8 := hv_50 8 (by decide)
      refine tp_get (cy := cy) (ci := 12) (v := .ref (r_46 14)) (C := RX12) (T := TX12) (N := 49) hx hb hta inlX12 hown hK hP ho.1 hf_45 rfl 15 (by decide) (hta _ wk_164) (fun _ h9 => h9) rfl dX12_gapped_33 ?_
      refine lv_aload_n hx hb dX12_gapped_36 rfl (lv_at hl 0 rfl) ?_
      refine tp_get (cy := cy) (ci := 12) (v := .int (v_47 4)) (C := RX12) (T := TX12) (N := 49) hx hb hta inlX12 hown hK hP ho.1 hf_45 rfl 20 (by decide) (hta _ wk_537) (fun _ h9 => h9) rfl dX12_gapped_37 ?_
      refine lv_aload_n hx hb dX12_gapped_40 rfl (lv_at hl 0 rfl) ?_
      refine tp_get (cy := cy) (ci := 12) (v := .int (v_47 3)) (C := RX12) (T := TX12) (N := 49) hx hb hta inlX12 hown hK hP ho.1 hf_45 rfl 19 (by decide) (hta _ wk_585) (fun _ h9 => h9) rfl dX12_gapped_41 ?_
      obtain ⟨g_60, hf_59, hg_61⟩ := (show tp_gi cy (22) (Γ_41 (50, 22, 0)) (f_39 (r_46 14)) from hI.at (show tp_r L K 50 22 0 (r_46 14) from hr_49 14 (by decide)))
      have hn_62 : vp_in (v_47 4) (22) := tl_in (by omega) (by omega)
      have hj_63 : (v_47 4).toNatClampNeg = t0.toNat := by show (v_47 4).toInt.toNat = _; omega
      have hv_64 : (v_47 3).toInt = Γ_41 (39, 0, 0) 3 := by omega
      obtain ⟨Γ_65, eΓ_65⟩ : ∃ y : tk_G, y = tg Γ_41 (50, 22, 0) t0.toNat (Γ_41 (39, 0, 0) 3) := ⟨_, rfl⟩
      have hI9 : tp_I cy L K Γ_65 (va_up f_39 (r_46 14) (.inl (cy 0, 22, .inl (upd g_60 (v_47 4).toNatClampNeg (v_47 3))))) := by have q9 : tg Γ_41 (50, 22, 0) t0.toNat (Γ_41 (39, 0, 0) 3) = tg Γ_41 (50, 22, 0) (v_47 4).toNatClampNeg (v_47 3).toInt := (by rw [hj_63, hv_64]); rw [eΓ_65, q9]; exact hI.setg hU rfl (show tp_r L K 50 22 0 (r_46 14) from hr_49 14 (by decide)) (show tp_gi cy (22) (tgu (Γ_41 (50, 22, 0)) _ _) _ from ⟨_, rfl, tp_gi_upd hg_61⟩)
      have hfr9 : ∀ b, (K b).1 ∉ ([39, 49, 50] : List Nat) → va_up f_39 (r_46 14) (.inl (cy 0, 22, .inl (upd g_60 (v_47 4).toNatClampNeg (v_47 3)))) b = f b := tp_fr hfr (show tp_r L K 50 22 0 (r_46 14) from hr_49 14 (by decide)) (by decide)
      refine tp_iast (cy := cy) hx hb hK hP hD hS (show tp_r L K 50 22 0 (r_46 14) from hr_49 14 (by decide)).1 hf_59 hn_62 dX12_gapped_44 (fun H locs hP hD hS => ?_)
      have hP : va_P D vwCl (va_pl L (va_up f_39 (r_46 14) (.inl (cy 0, 22, .inl (upd g_60 (v_47 4).toNatClampNeg (v_47 3)))))) H := hP
      generalize hfe : va_up f_39 (r_46 14) (.inl (cy 0, 22, .inl (upd g_60 (v_47 4).toNatClampNeg (v_47 3)))) = f_66 at hP hI9 hfr9
      have hD : va_D A (va_pl L f_66) := tp_D hL hAL
      have hf_67 := (show f_66 o = _ from by rw [← hfe, va_up_ne _ _ (tp_ne ho (show tp_r L K 50 22 0 (r_46 14) from hr_49 14 (by decide)) (by decide))]).trans hf_45
      have hf_68 : f_66 (r_46 14) = .inl (cy 0, 22, .inl (upd g_60 (v_47 4).toNatClampNeg (v_47 3))) := by rw [← hfe]; exact va_up_self _ _ _
      clear hfe
      have hI := hI9
      have hfr := hfr9
      clear hI9 hfr9
      have wsΓ_65 : Γ_65 (50, 22, 0) t0.toNat = Γ_41 (39, 0, 0) 3 := by rw [eΓ_65]; exact tg_s
      have hgr : ∀ κ : tk_K, κ.1 ∉ ([39, 49, 50] : List Nat) → Γ_65 κ = Γ κ := tg_fr hgr eΓ_65 (by decide)
      have hv_69 : ∀ i : Nat, i < 16 → (v_47 i).toInt = Γ_65 (39, 0, 0) i := fun i hi => by rw [eΓ_65, tg_r (by decide)]; exact hv_50 i hi
      have hx_70 : (v_47 0).toInt = Γ_65 (39, 0, 0) 0 := hv_69 0 (by decide)
      have hx_71 : (v_47 1).toInt = Γ_65 (39, 0, 0) 1 := hv_69 1 (by decide)
      have hx_72 : (v_47 3).toInt = Γ_65 (39, 0, 0) 3 := hv_69 3 (by decide)
      have hx_73 : (v_47 4).toInt = Γ_65 (39, 0, 0) 4 := hv_69 4 (by decide)
      have hx_74 : (v_47 5).toInt = Γ_65 (39, 0, 0) 5 := hv_69 5 (by decide)
      have hx_75 : (v_47 6).toInt = Γ_65 (39, 0, 0) 6 := hv_69 6 (by decide)
      have hx_76 : (v_47 7).toInt = Γ_65 (39, 0, 0) 7 := hv_69 7 (by decide)
      have hx_77 : (v_47 8).toInt = Γ_65 (39, 0, 0) 8 := hv_69 8 (by decide)
      have hO_GTO : Γ_65 (50, 22, 0) = tgu (Γ (50, 22, 0)) t0.toNat (Γ_41 (39, 0, 0) 3) := by rw [eΓ_65, tg_f, hO_GTO]
      have hO_GFROM : Γ_65 (49, 22, 0) = tgu (Γ (49, 22, 0)) t0.toNat (Γ_19 (39, 0, 0) 3) := by rw [eΓ_65, tg_rf (by decide)]; exact hO_GFROM
      refine lv_iconst (v := 1) hx hb dX12_gapped_45 (by decide) ?_
      have hpo9 : tl_J (1 : Int32) (True) ∧ Γ_65 (39, 0, 0) 0 = Γ (39, 0, 0) 0 ∧ Γ_65 (39, 0, 0) 4 = Γ (39, 0, 0) 4 ∧ Γ_65 (39, 0, 0) 5 = Γ (39, 0, 0) 5 ∧ Γ_65 (39, 0, 0) 6 = Γ (39, 0, 0) 6 ∧ Γ_65 (39, 0, 0) 7 = Γ (39, 0, 0) 7 ∧ Γ_65 (39, 0, 0) 8 = Γ (39, 0, 0) 8 ∧ Γ (39, 0, 0) 1 ≤ Γ_65 (39, 0, 0) 1 ∧ Γ_65 (39, 0, 0) 1 ≤ T0 ∧ (∀ j : Nat, ¬ j = t0.toNat → Γ_65 (49, 22, 0) j = Γ (49, 22, 0) j ∧ Γ_65 (50, 22, 0) j = Γ (50, 22, 0) j) ∧ (-1 ≤ Γ_65 (49, 22, 0) t0.toNat ∧ Γ_65 (49, 22, 0) t0.toNat ≤ 299) ∧ (0 ≤ Γ_65 (50, 22, 0) t0.toNat ∧ Γ_65 (50, 22, 0) t0.toNat ≤ 299) := ⟨(Or.inl ⟨rfl, trivial⟩), ⟨(by omega), (by omega), (by omega), (by omega), (by omega), (by omega), (by omega), (by omega), (fun j9 q9 => ⟨(by rw [hO_GFROM, tgu_n q9]), (by rw [hO_GTO, tgu_n q9])⟩), (by rw [hO_GFROM, tgu_s]; omega), (by rw [hO_GTO, tgu_s]; omega)⟩⟩
      exact W.zret (ty := .boolean) (v := 1) hx hb hr rfl (fun t ht hW => ⟨⟨_, (f_66, Γ_65), rfl, hpo9, by rw [ht]; exact hP, hI, hfr, hgr⟩, hS.F ht⟩) hS.2.2 dX12_gapped_46
    · have c_44 := c_44
      refine lv_iconst (v := 0) hx hb dX12_gapped_30 (by decide) ?_
      have hpo9 : tl_J (0 : Int32) (True) ∧ Γ_41 (39, 0, 0) 0 = Γ (39, 0, 0) 0 ∧ Γ_41 (39, 0, 0) 4 = Γ (39, 0, 0) 4 ∧ Γ_41 (39, 0, 0) 5 = Γ (39, 0, 0) 5 ∧ Γ_41 (39, 0, 0) 6 = Γ (39, 0, 0) 6 ∧ Γ_41 (39, 0, 0) 7 = Γ (39, 0, 0) 7 ∧ Γ_41 (39, 0, 0) 8 = Γ (39, 0, 0) 8 ∧ Γ (39, 0, 0) 1 ≤ Γ_41 (39, 0, 0) 1 ∧ Γ_41 (39, 0, 0) 1 ≤ T0 ∧ (∀ j : Nat, ¬ j = t0.toNat → Γ_41 (49, 22, 0) j = Γ (49, 22, 0) j ∧ Γ_41 (50, 22, 0) j = Γ (50, 22, 0) j) ∧ (-1 ≤ Γ_41 (49, 22, 0) t0.toNat ∧ Γ_41 (49, 22, 0) t0.toNat ≤ 299) ∧ (0 ≤ Γ_41 (50, 22, 0) t0.toNat ∧ Γ_41 (50, 22, 0) t0.toNat ≤ 299) := ⟨(Or.inr rfl), ⟨(by omega), (by omega), (by omega), (by omega), (by omega), (by omega), (by omega), (by omega), (fun j9 q9 => ⟨(by rw [hO_GFROM, tgu_n q9]), (by rw [hO_GTO])⟩), (by rw [hO_GFROM, tgu_s]; omega), (by rw [hO_GTO]; omega)⟩⟩
      exact W.zret (ty := .boolean) (v := 0) hx hb hr rfl (fun t ht hW => ⟨⟨_, (f_39, Γ_41), rfl, hpo9, by rw [ht]; exact hP, hI, hfr, hgr⟩, hS.F ht⟩) hS.2.2 dX12_gapped_31
set_option maxHeartbeats 4000000 in
set_option maxRecDepth 100000 in
theorem r_X12_eaten (l : Launch) (D : va_G) (cy : Nat → ClassId) (sz : Nat) (L : List Nat) (K : Nat → tk_K) (Γ : tk_G) (f : Nat → va_E) (o : Nat) (τ : Nat → Int) (T0 : Int) (t0 : Int) (ho : tp_r L K 39 (0) 0 o) (ht : Γ (41, 400, 0) = τ) (hT : Γ (39, 0, 0) 0 = T0) (hb0 : 0 ≤ Γ (39, 0, 0) 1 ∧ Γ (39, 0, 0) 1 ≤ T0 ∧ T0 ≤ 400) (h4 : Γ (39, 0, 0) 4 = t0 ∧ 0 ≤ t0 ∧ t0 ≤ 21) (h5 : t0 ≤ 5) (her : 0 ≤ Γ (47, 6, 0) t0.toNat ∧ Γ (47, 6, 0) t0.toNat ≤ 11) : Met l yX12_eaten (tl_w yX12_eaten cX12_eaten 2 (some .boolean)) ({ frames := 2, cells := 0, slots := 0, locals := 49 }) (va_Pc [.ref o] (tp_P D cy L K Γ f sz)) (va_Qi (fun (r : Int32) (u : (Nat → va_E) × tk_G) => tl_J r (u.2 (47, 6, 0) = tgu (Γ (47, 6, 0)) t0.toNat (Γ (47, 6, 0) t0.toNat + 1)) ∧ u.2 (39, 0, 0) 0 = Γ (39, 0, 0) 0 ∧ u.2 (39, 0, 0) 4 = Γ (39, 0, 0) 4 ∧ u.2 (39, 0, 0) 5 = Γ (39, 0, 0) 5 ∧ u.2 (39, 0, 0) 6 = Γ (39, 0, 0) 6 ∧ u.2 (39, 0, 0) 7 = Γ (39, 0, 0) 7 ∧ u.2 (39, 0, 0) 8 = Γ (39, 0, 0) 8 ∧ Γ (39, 0, 0) 1 ≤ u.2 (39, 0, 0) 1 ∧ u.2 (39, 0, 0) 1 ≤ T0 ∧ (∀ j : Nat, ¬ j = t0.toNat → u.2 (47, 6, 0) j = Γ (47, 6, 0) j) ∧ (Γ (47, 6, 0) t0.toNat ≤ u.2 (47, 6, 0) t0.toNat ∧ u.2 (47, 6, 0) t0.toNat ≤ Γ (47, 6, 0) t0.toNat + 1)) (tp_BG D cy L K Γ f [39, 53, 47]) (tp_A L sz)) 0 0 (tp_A L sz) := by
  refine Met.ofW (cc := cX12_eaten) (maxL := 2) (ret := (some .boolean)) (by decide) rfl ?_
  intro p e s m args below meth c s₁ B hml hv
  obtain ⟨rfl, hsz, hP, hK, hL, hI, hN, hU⟩ := hv
  have hx := B.exec
  have hb := B.bytes
  have hr := B.returns
  have hta := tl_hta (atoms_spec (ws := tl_w yX12_eaten cX12_eaten 2 (some .boolean)) B.pre)
  have hown : s.vm.findClass RX12 = some m.cls := findClass_of_methodNamed B.named
  have hlocks := B.notSynchronized
  subst hsz
  have hI0 := hI
  generalize hAe : tp_A L s.heap.size = A
  have hA : ∀ q : Nat, s.heap.size ≤ q → A q := fun q h => by rw [← hAe]; exact Or.inr h
  have hAL : ∀ q ∈ L, A q := fun q h => by rw [← hAe]; exact Or.inl h
  have hAf : ∀ (H : Heap), s.heap.size ≤ H.size → ∀ q, tp_A L H.size q → A q := fun H h q hq => hq.elim (hAL q) (fun h2 => hA q (Nat.le_trans h h2))
  have hS : va_S A s.heap s.heap [] := va_S.rf
  have hD : va_D A (va_pl L f) := tp_D hL hAL
  have hfr : ∀ b, (K b).1 ∉ ([39, 53, 47] : List Nat) → f b = f b := fun _ _ => rfl
  have hgr : ∀ κ : tk_K, κ.1 ∉ ([39, 53, 47] : List Nat) → Γ κ = Γ κ := fun _ _ => rfl
  have hl := lv_entry ([.ref o]) (n := 2) (Nat.le_of_ble_eq_true rfl)
  rw [lg_entry_eq]
  generalize (lg_sl ([.ref o]) ++ List.replicate (2 - (lg_sl ([.ref o])).length) Slot.unset).toArray = ls at hl ⊢
  have hl : lv_has ls 2 [(0, .ref o)] := hl
  have hO_EATERS : Γ (47, 6, 0) = Γ (47, 6, 0) := rfl
  refine lv_aload_n hx hb dX12_eaten_0 rfl (lv_at hl 0 rfl) ?_
  obtain ⟨r_2, v_3, q_4, hf_1, hr_5, hv_6⟩ := (show tp_o_M L K 0 0 (Γ (39, 0, 0)) (f o) from hI.at ho)
  refine tq_cvR hS (hAf _ hS.1) (tq_rV (As := []) (rest := []) ⟨hx, hb, hml, hown, hta⟩ (tp_P.pre hK hN hL hU hI hP) (tp_recv hK hP ho.1 hf_1 rfl) lk_X12_178 (r_X12_passWord l D cy s.heap.size L K Γ f o τ T0 ho ht (by first | omega | (simp only [Int32.toInt_toInt64]; omega) | decide | assumption) (by first | omega | (simp only [Int32.toInt_toInt64]; omega) | decide | assumption)) rfl rfl ⟨Nat.le_of_ble_eq_true rfl, Nat.le_of_ble_eq_true rfl⟩ rfl hl.1 rfl (Nat.le_of_ble_eq_true rfl) dX12_eaten_1 ⟨Nat.le_of_ble_eq_true rfl, Nat.le_of_ble_eq_true rfl⟩) (fun f_17 Γ_19 H locs hw_15 hP hI hc_18 hcg_20 hS => ?_)
  have hD : va_D A (va_pl L f_17) := tp_D hL hAL
  have hfr := tp_fr2 hfr hc_18 (by decide)
  have hgr : ∀ κ : tk_K, κ.1 ∉ ([39, 53, 47] : List Nat) → Γ_19 κ = Γ κ := tg_fr2 hgr hcg_20 (by decide)
  have wy_19_EATERS : Γ_19 (47, 6, 0) t0.toNat = Γ (47, 6, 0) t0.toNat := congrFun (hcg_20 (47, 6, 0) (by decide)) _
  have hw_15 : Γ_19 (39, 0, 0) 0 = Γ (39, 0, 0) 0 ∧ Γ_19 (39, 0, 0) 3 = Γ (39, 0, 0) 3 ∧ Γ_19 (39, 0, 0) 4 = Γ (39, 0, 0) 4 ∧ Γ_19 (39, 0, 0) 5 = Γ (39, 0, 0) 5 ∧ Γ_19 (39, 0, 0) 6 = Γ (39, 0, 0) 6 ∧ Γ_19 (39, 0, 0) 7 = Γ (39, 0, 0) 7 ∧ Γ_19 (39, 0, 0) 8 = Γ (39, 0, 0) 8 ∧ Γ (39, 0, 0) 1 ≤ Γ_19 (39, 0, 0) 1 ∧ Γ_19 (39, 0, 0) 1 ≤ T0 ∧ (tr_L τ T0 (Γ (39, 0, 0) 1) → Γ (39, 0, 0) 1 + 1 ≤ Γ_19 (39, 0, 0) 1) := hw_15
  have hO_EATERS : Γ_19 (47, 6, 0) = Γ (47, 6, 0) := (hcg_20 (47, 6, 0) (by decide)).trans hO_EATERS
  refine lv_bipush (v := 24) hx hb dX12_eaten_4 (by decide) ?_
  refine lv_aload_n hx hb dX12_eaten_6 rfl (lv_at hl 0 rfl) ?_
  obtain ⟨r_22, v_23, q_24, hf_21, hr_25, hv_26⟩ := (show tp_o_M L K 0 0 (Γ_19 (39, 0, 0)) (f_17 o) from hI.at ho)
  have hx_30 : (v_23 4).toInt = Γ_19 (39, 0, 0) 4 := hv_26 4 (by decide)
  refine tp_get (cy := cy) (ci := 12) (v := .int (v_23 4)) (C := RX12) (T := TX12) (N := 49) hx hb hta inlX12 hown hK hP ho.1 hf_21 rfl 20 (by decide) (hta _ wk_537) (fun _ h9 => h9) rfl dX12_eaten_7 ?_
  refine lv_imul hx hb dX12_eaten_10 ?_
  refine lv_topi (fun z_35 ez_35 => ?_)
  try have iz_35 : z_35.toInt = (24 : Int) * (v_23 4).toInt := by rw [ez_35]; exact tl_mulN 24 (v_23 4) rfl rfl (by omega) (by omega)
  refine lv_iconst (v := 2) hx hb dX12_eaten_11 (by decide) ?_
  refine lv_aload_n hx hb dX12_eaten_12 rfl (lv_at hl 0 rfl) ?_
  refine tp_get (cy := cy) (ci := 12) (v := .ref (r_22 8)) (C := RX12) (T := TX12) (N := 49) hx hb hta inlX12 hown hK hP ho.1 hf_21 rfl 9 (by decide) (hta _ wk_158) (fun _ h9 => h9) rfl dX12_eaten_13 ?_
  refine lv_aload_n hx hb dX12_eaten_16 rfl (lv_at hl 0 rfl) ?_
  refine tp_get (cy := cy) (ci := 12) (v := .int (v_23 4)) (C := RX12) (T := TX12) (N := 49) hx hb hta inlX12 hown hK hP ho.1 hf_21 rfl 20 (by decide) (hta _ wk_537) (fun _ h9 => h9) rfl dX12_eaten_17 ?_
  obtain ⟨g_37, hf_36, hg_38⟩ := (show tp_gi cy (6) (Γ_19 (47, 6, 0)) (f_17 (r_22 8)) from hI.at (show tp_r L K 47 6 0 (r_22 8) from hr_25 8 (by decide)))
  have hn_39 : vp_in (v_23 4) (6) := tl_in (by omega) (by omega)
  refine tp_iald (cy := cy) hx hb hK hP (show tp_r L K 47 6 0 (r_22 8) from hr_25 8 (by decide)).1 hf_36 hn_39 dX12_eaten_20 ?_
  refine lv_topi (fun z_40 ez_40 => ?_)
  have iz_40 : z_40.toInt = Γ_19 (47, 6, 0) (v_23 4).toInt.toNat := by rw [ez_40]; exact hg_38 _ (tp_pin hn_39)
  have jz_40 : z_40.toInt = Γ_19 (47, 6, 0) t0.toNat := by rw [show t0 = (v_23 4).toInt from by omega]; exact iz_40
  refine lv_imul hx hb dX12_eaten_21 ?_
  refine lv_topi (fun z_41 ez_41 => ?_)
  try have iz_41 : z_41.toInt = (2 : Int) * z_40.toInt := by rw [ez_41]; exact tl_mulN 2 z_40 rfl rfl (by omega) (by omega)
  refine lv_iadd hx hb dX12_eaten_22 ?_
  refine lv_topi (fun z_42 ez_42 => ?_)
  try have iz_42 : z_42.toInt = z_35.toInt + z_41.toInt := by rw [ez_42]; exact tl_addN z_35 z_41 rfl rfl (by omega) (by omega)
  refine lv_istore_n (lv' := [(1, .int z_42), (0, .ref o)]) hx hb dX12_eaten_23 rfl hl (by decide) rfl (fun ls hl => ?_)
  refine lv_aload_n hx hb dX12_eaten_24 rfl (lv_at hl 1 rfl) ?_
  refine lv_iconst (v := 0) hx hb dX12_eaten_25 (by decide) ?_
  refine lv_bipush (v := 11) hx hb dX12_eaten_26 (by decide) ?_
  refine tq_ciR hS (hAf _ hS.1) (tq_rV (As := [.int 0, .int 11]) (rest := []) ⟨hx, hb, hml, hown, hta⟩ (tp_P.pre hK hN hL hU hI hP) (tp_recv hK hP ho.1 hf_21 rfl) lk_X12_233 (r_X12_numberHere l D cy H.size L K Γ_19 f_17 o 0 11 τ T0 ho ((hgr _ (by decide)).trans ht) (by first | omega | (simp only [Int32.toInt_toInt64]; omega) | decide | assumption) (by first | omega | (simp only [Int32.toInt_toInt64]; omega) | decide | assumption)) rfl rfl ⟨Nat.le_of_ble_eq_true rfl, Nat.le_of_ble_eq_true rfl⟩ rfl hl.1 rfl (Nat.le_of_ble_eq_true rfl) dX12_eaten_28 ⟨Nat.le_of_ble_eq_true rfl, Nat.le_of_ble_eq_true rfl⟩) (fun r_44 f_45 Γ_47 H locs hw_43 hP hI hc_46 hcg_48 hS => ?_)
  have hD : va_D A (va_pl L f_45) := tp_D hL hAL
  have hfr := tp_fr2 hfr hc_46 (by decide)
  have hgr : ∀ κ : tk_K, κ.1 ∉ ([39, 53, 47] : List Nat) → Γ_47 κ = Γ κ := tg_fr2 hgr hcg_48 (by decide)
  have hf_49 := (tp_un hc_46 (show tp_r L K 47 6 0 (r_22 8) from hr_25 8 (by decide)) (by decide)).trans hf_36
  have hg_50 : ∀ j : Nat, j < 6 → (g_37 j).toInt = Γ_47 (47, 6, 0) j := fun j hj => by rw [hcg_48 _ (by decide)]; exact hg_38 j hj
  have wy_47_EATERS : Γ_47 (47, 6, 0) t0.toNat = Γ_19 (47, 6, 0) t0.toNat := congrFun (hcg_48 (47, 6, 0) (by decide)) _
  obtain ⟨hE_51, hw_43⟩ := hw_43
  have hE_51 : tl_J r_44 ((0 : Int) ≤ Γ_47 (39, 0, 0) 3 ∧ Γ_47 (39, 0, 0) 3 ≤ (11 : Int) ∧ Γ_19 (39, 0, 0) 1 + 1 ≤ Γ_47 (39, 0, 0) 1) := hE_51
  have hw_43 : Γ_47 (39, 0, 0) 0 = Γ_19 (39, 0, 0) 0 ∧ Γ_47 (39, 0, 0) 4 = Γ_19 (39, 0, 0) 4 ∧ Γ_47 (39, 0, 0) 5 = Γ_19 (39, 0, 0) 5 ∧ Γ_47 (39, 0, 0) 6 = Γ_19 (39, 0, 0) 6 ∧ Γ_47 (39, 0, 0) 7 = Γ_19 (39, 0, 0) 7 ∧ Γ_47 (39, 0, 0) 8 = Γ_19 (39, 0, 0) 8 ∧ Γ_19 (39, 0, 0) 1 ≤ Γ_47 (39, 0, 0) 1 ∧ Γ_47 (39, 0, 0) 1 ≤ T0 := hw_43
  have hO_EATERS : Γ_47 (47, 6, 0) = Γ (47, 6, 0) := (hcg_48 (47, 6, 0) (by decide)).trans hO_EATERS
  refine lv_if_ne (tgt := 36) hx hb dX12_eaten_31 (by decide) (fun c_52 => ?_) (fun c_52 => ?_)
  · have c_52 := hE_51.t c_52
    refine lv_aload_n hx hb dX12_eaten_36 rfl (lv_at hl 1 rfl) ?_
    obtain ⟨r_54, v_55, q_56, hf_53, hr_57, hv_58⟩ := (show tp_o_M L K 0 0 (Γ_47 (39, 0, 0)) (f_45 o) from hI.at ho)
    have hx_61 : (v_55 3).toInt = Γ_47 (39, 0, 0) 3 := hv_58 3 (by decide)
    refine tp_get (cy := cy) (ci := 12) (v := .ref (r_54 7)) (C := RX12) (T := TX12) (N := 49) hx hb hta inlX12 hown hK hP ho.1 hf_53 rfl 8 (by decide) (hta _ wk_157) (fun _ h9 => h9) rfl dX12_eaten_37 ?_
    refine lv_iload_n hx hb dX12_eaten_40 rfl (lv_at hl 0 rfl) ?_
    refine lv_aload_n hx hb dX12_eaten_41 rfl (lv_at hl 1 rfl) ?_
    refine tp_get (cy := cy) (ci := 12) (v := .int (v_55 3)) (C := RX12) (T := TX12) (N := 49) hx hb hta inlX12 hown hK hP ho.1 hf_53 rfl 19 (by decide) (hta _ wk_585) (fun _ h9 => h9) rfl dX12_eaten_42 ?_
    obtain ⟨g_68, hf_67, hg_69⟩ := (show tp_ai cy 53 (144) (f_45 (r_54 7)) from hI.at (show tp_r L K 53 144 0 (r_54 7) from hr_57 7 (by decide)))
    have hn_70 : vp_in z_42 (144) := tl_in (by omega) (by omega)
    have hI9 : tp_I cy L K Γ_47 (va_up f_45 (r_54 7) (.inl (cy 0, 144, .inl (upd g_68 z_42.toNatClampNeg (v_55 3))))) := hI.set (show tp_r L K 53 144 0 (r_54 7) from hr_57 7 (by decide)) (show tp_ai cy 53 (144) _ from ⟨_, rfl, tp_pi_upd hg_69 trivial⟩)
    have hfr9 : ∀ b, (K b).1 ∉ ([39, 53, 47] : List Nat) → va_up f_45 (r_54 7) (.inl (cy 0, 144, .inl (upd g_68 z_42.toNatClampNeg (v_55 3)))) b = f b := tp_fr hfr (show tp_r L K 53 144 0 (r_54 7) from hr_57 7 (by decide)) (by decide)
    refine tp_iast (cy := cy) hx hb hK hP hD hS (show tp_r L K 53 144 0 (r_54 7) from hr_57 7 (by decide)).1 hf_67 hn_70 dX12_eaten_45 (fun H locs hP hD hS => ?_)
    have hP : va_P D vwCl (va_pl L (va_up f_45 (r_54 7) (.inl (cy 0, 144, .inl (upd g_68 z_42.toNatClampNeg (v_55 3)))))) H := hP
    generalize hfe : va_up f_45 (r_54 7) (.inl (cy 0, 144, .inl (upd g_68 z_42.toNatClampNeg (v_55 3)))) = f_71 at hP hI9 hfr9
    have hD : va_D A (va_pl L f_71) := tp_D hL hAL
    have hf_72 := (show f_71 (r_22 8) = _ from by rw [← hfe, va_up_ne _ _ (tp_ne (show tp_r L K 47 6 0 (r_22 8) from hr_25 8 (by decide)) (show tp_r L K 53 144 0 (r_54 7) from hr_57 7 (by decide)) (by decide))]).trans hf_49
    have hf_73 := (show f_71 o = _ from by rw [← hfe, va_up_ne _ _ (tp_ne ho (show tp_r L K 53 144 0 (r_54 7) from hr_57 7 (by decide)) (by decide))]).trans hf_53
    have hf_74 : f_71 (r_54 7) = .inl (cy 0, 144, .inl (upd g_68 z_42.toNatClampNeg (v_55 3))) := by rw [← hfe]; exact va_up_self _ _ _
    clear hfe
    have hI := hI9
    have hfr := hfr9
    clear hI9 hfr9
    refine lv_aload_n hx hb dX12_eaten_46 rfl (lv_at hl 1 rfl) ?_
    refine lv_iconst (v := 0) hx hb dX12_eaten_47 (by decide) ?_
    refine lv_sipush (v := 9999) hx hb dX12_eaten_48 (by decide) ?_
    refine tq_ciR hS (hAf _ hS.1) (tq_rV (As := [.int 0, .int 9999]) (rest := []) ⟨hx, hb, hml, hown, hta⟩ (tp_P.pre hK hN hL hU hI hP) (tp_recv hK hP ho.1 hf_73 rfl) lk_X12_233 (r_X12_numberHere l D cy H.size L K Γ_47 f_71 o 0 9999 τ T0 ho ((hgr _ (by decide)).trans ht) (by first | omega | (simp only [Int32.toInt_toInt64]; omega) | decide | assumption) (by first | omega | (simp only [Int32.toInt_toInt64]; omega) | decide | assumption)) rfl rfl ⟨Nat.le_of_ble_eq_true rfl, Nat.le_of_ble_eq_true rfl⟩ rfl hl.1 rfl (Nat.le_of_ble_eq_true rfl) dX12_eaten_51 ⟨Nat.le_of_ble_eq_true rfl, Nat.le_of_ble_eq_true rfl⟩) (fun r_76 f_77 Γ_79 H locs hw_75 hP hI hc_78 hcg_80 hS => ?_)
    have hD : va_D A (va_pl L f_77) := tp_D hL hAL
    have hfr := tp_fr2 hfr hc_78 (by decide)
    have hgr : ∀ κ : tk_K, κ.1 ∉ ([39, 53, 47] : List Nat) → Γ_79 κ = Γ κ := tg_fr2 hgr hcg_80 (by decide)
    have hf_81 := (tp_un hc_78 (show tp_r L K 47 6 0 (r_22 8) from hr_25 8 (by decide)) (by decide)).trans hf_72
    have hg_82 : ∀ j : Nat, j < 6 → (g_37 j).toInt = Γ_79 (47, 6, 0) j := fun j hj => by rw [hcg_80 _ (by decide)]; exact hg_50 j hj
    have wy_79_EATERS : Γ_79 (47, 6, 0) t0.toNat = Γ_47 (47, 6, 0) t0.toNat := congrFun (hcg_80 (47, 6, 0) (by decide)) _
    obtain ⟨hE_83, hw_75⟩ := hw_75
    have hE_83 : tl_J r_76 ((0 : Int) ≤ Γ_79 (39, 0, 0) 3 ∧ Γ_79 (39, 0, 0) 3 ≤ (9999 : Int) ∧ Γ_47 (39, 0, 0) 1 + 1 ≤ Γ_79 (39, 0, 0) 1) := hE_83
    have hw_75 : Γ_79 (39, 0, 0) 0 = Γ_47 (39, 0, 0) 0 ∧ Γ_79 (39, 0, 0) 4 = Γ_47 (39, 0, 0) 4 ∧ Γ_79 (39, 0, 0) 5 = Γ_47 (39, 0, 0) 5 ∧ Γ_79 (39, 0, 0) 6 = Γ_47 (39, 0, 0) 6 ∧ Γ_79 (39, 0, 0) 7 = Γ_47 (39, 0, 0) 7 ∧ Γ_79 (39, 0, 0) 8 = Γ_47 (39, 0, 0) 8 ∧ Γ_47 (39, 0, 0) 1 ≤ Γ_79 (39, 0, 0) 1 ∧ Γ_79 (39, 0, 0) 1 ≤ T0 := hw_75
    have hO_EATERS : Γ_79 (47, 6, 0) = Γ (47, 6, 0) := (hcg_80 (47, 6, 0) (by decide)).trans hO_EATERS
    refine lv_if_ne (tgt := 59) hx hb dX12_eaten_54 (by decide) (fun c_84 => ?_) (fun c_84 => ?_)
    · have c_84 := hE_83.t c_84
      refine lv_aload_n hx hb dX12_eaten_59 rfl (lv_at hl 1 rfl) ?_
      obtain ⟨r_86, v_87, q_88, hf_85, hr_89, hv_90⟩ := (show tp_o_M L K 0 0 (Γ_79 (39, 0, 0)) (f_77 o) from hI.at ho)
      have hx_91 : (v_87 0).toInt = Γ_79 (39, 0, 0) 0 := hv_90 0 (by decide)
      have hx_92 : (v_87 1).toInt = Γ_79 (39, 0, 0) 1 := hv_90 1 (by decide)
      have hx_93 : (v_87 3).toInt = Γ_79 (39, 0, 0) 3 := hv_90 3 (by decide)
      have hx_94 : (v_87 4).toInt = Γ_79 (39, 0, 0) 4 := hv_90 4 (by decide)
      have hx_95 : (v_87 5).toInt = Γ_79 (39, 0, 0) 5 := hv_90 5 (by decide)
      have hx_96 : (v_87 6).toInt = Γ_79 (39, 0, 0) 6 := hv_90 6 (by decide)
      have hx_97 : (v_87 7).toInt = Γ_79 (39, 0, 0) 7 := hv_90 7 (by decide)
      have hx_98 : (v_87 8).toInt = Γ_79 (39, 0, 0) 8 := hv_90 8 (by decide)
      refine tp_get (cy := cy) (ci := 12) (v := .ref (r_86 7)) (C := RX12) (T := TX12) (N := 49) hx hb hta inlX12 hown hK hP ho.1 hf_85 rfl 8 (by decide) (hta _ wk_157) (fun _ h9 => h9) rfl dX12_eaten_60 ?_
      refine lv_iload_n hx hb dX12_eaten_63 rfl (lv_at hl 0 rfl) ?_
      refine lv_iconst (v := 1) hx hb dX12_eaten_64 (by decide) ?_
      refine lv_iadd hx hb dX12_eaten_65 ?_
      refine lv_topi (fun z_99 ez_99 => ?_)
      try have iz_99 : z_99.toInt = z_42.toInt + (1 : Int) := by rw [ez_99]; exact tl_addN z_42 1 rfl rfl (by omega) (by omega)
      refine lv_aload_n hx hb dX12_eaten_66 rfl (lv_at hl 1 rfl) ?_
      refine tp_get (cy := cy) (ci := 12) (v := .int (v_87 3)) (C := RX12) (T := TX12) (N := 49) hx hb hta inlX12 hown hK hP ho.1 hf_85 rfl 19 (by decide) (hta _ wk_585) (fun _ h9 => h9) rfl dX12_eaten_67 ?_
      obtain ⟨g_101, hf_100, hg_102⟩ := (show tp_ai cy 53 (144) (f_77 (r_86 7)) from hI.at (show tp_r L K 53 144 0 (r_86 7) from hr_89 7 (by decide)))
      have hn_103 : vp_in z_99 (144) := tl_in (by omega) (by omega)
      have hI9 : tp_I cy L K Γ_79 (va_up f_77 (r_86 7) (.inl (cy 0, 144, .inl (upd g_101 z_99.toNatClampNeg (v_87 3))))) := hI.set (show tp_r L K 53 144 0 (r_86 7) from hr_89 7 (by decide)) (show tp_ai cy 53 (144) _ from ⟨_, rfl, tp_pi_upd hg_102 trivial⟩)
      have hfr9 : ∀ b, (K b).1 ∉ ([39, 53, 47] : List Nat) → va_up f_77 (r_86 7) (.inl (cy 0, 144, .inl (upd g_101 z_99.toNatClampNeg (v_87 3)))) b = f b := tp_fr hfr (show tp_r L K 53 144 0 (r_86 7) from hr_89 7 (by decide)) (by decide)
      refine tp_iast (cy := cy) hx hb hK hP hD hS (show tp_r L K 53 144 0 (r_86 7) from hr_89 7 (by decide)).1 hf_100 hn_103 dX12_eaten_70 (fun H locs hP hD hS => ?_)
      have hP : va_P D vwCl (va_pl L (va_up f_77 (r_86 7) (.inl (cy 0, 144, .inl (upd g_101 z_99.toNatClampNeg (v_87 3)))))) H := hP
      generalize hfe : va_up f_77 (r_86 7) (.inl (cy 0, 144, .inl (upd g_101 z_99.toNatClampNeg (v_87 3)))) = f_104 at hP hI9 hfr9
      have hD : va_D A (va_pl L f_104) := tp_D hL hAL
      have hf_105 := (show f_104 (r_22 8) = _ from by rw [← hfe, va_up_ne _ _ (tp_ne (show tp_r L K 47 6 0 (r_22 8) from hr_25 8 (by decide)) (show tp_r L K 53 144 0 (r_86 7) from hr_89 7 (by decide)) (by decide))]).trans hf_81
      have hf_106 := (show f_104 o = _ from by rw [← hfe, va_up_ne _ _ (tp_ne ho (show tp_r L K 53 144 0 (r_86 7) from hr_89 7 (by decide)) (by decide))]).trans hf_85
      have hf_107 : f_104 (r_86 7) = .inl (cy 0, 144, .inl (upd g_101 z_99.toNatClampNeg (v_87 3))) := by rw [← hfe]; exact va_up_self _ _ _
      clear hfe
      have hI := hI9
      have hfr := hfr9
      clear hI9 hfr9
      refine lv_aload_n hx hb dX12_eaten_71 rfl (lv_at hl 1 rfl) ?_
      refine tp_get (cy := cy) (ci := 12) (v := .ref (r_86 8)) (C := RX12) (T := TX12) (N := 49) hx hb hta inlX12 hown hK hP ho.1 hf_106 rfl 9 (by decide) (hta _ wk_158) (fun _ h9 => h9) rfl dX12_eaten_72 ?_
      refine lv_aload_n hx hb dX12_eaten_75 rfl (lv_at hl 1 rfl) ?_
      refine tp_get (cy := cy) (ci := 12) (v := .int (v_87 4)) (C := RX12) (T := TX12) (N := 49) hx hb hta inlX12 hown hK hP ho.1 hf_106 rfl 20 (by decide) (hta _ wk_537) (fun _ h9 => h9) rfl dX12_eaten_76 ?_
      refine lv_dup2_11 hx hb dX12_eaten_79 rfl rfl ?_
      obtain ⟨g_109, hf_108, hg_110⟩ := (show tp_gi cy (6) (Γ_79 (47, 6, 0)) (f_104 (r_86 8)) from hI.at (show tp_r L K 47 6 0 (r_86 8) from hr_89 8 (by decide)))
      have hn_111 : vp_in (v_87 4) (6) := tl_in (by omega) (by omega)
      refine tp_iald (cy := cy) hx hb hK hP (show tp_r L K 47 6 0 (r_86 8) from hr_89 8 (by decide)).1 hf_108 hn_111 dX12_eaten_80 ?_
      refine lv_topi (fun z_112 ez_112 => ?_)
      have iz_112 : z_112.toInt = Γ_79 (47, 6, 0) (v_87 4).toInt.toNat := by rw [ez_112]; exact hg_110 _ (tp_pin hn_111)
      have jz_112 : z_112.toInt = Γ_79 (47, 6, 0) t0.toNat := by rw [show t0 = (v_87 4).toInt from by omega]; exact iz_112
      refine lv_iconst (v := 1) hx hb dX12_eaten_81 (by decide) ?_
      refine lv_iadd hx hb dX12_eaten_82 ?_
      refine lv_topi (fun z_113 ez_113 => ?_)
      try have iz_113 : z_113.toInt = z_112.toInt + (1 : Int) := by rw [ez_113]; exact tl_addN z_112 1 rfl rfl (by omega) (by omega)
      have hn_114 : vp_in (v_87 4) (6) := tl_in (by omega) (by omega)
      have hj_115 : (v_87 4).toNatClampNeg = t0.toNat := by show (v_87 4).toInt.toNat = _; omega
      have hv_116 : z_113.toInt = Γ (47, 6, 0) t0.toNat + 1 := by omega
      obtain ⟨Γ_117, eΓ_117⟩ : ∃ y : tk_G, y = tg Γ_79 (47, 6, 0) t0.toNat (Γ (47, 6, 0) t0.toNat + 1) := ⟨_, rfl⟩
      have hI9 : tp_I cy L K Γ_117 (va_up f_104 (r_86 8) (.inl (cy 0, 6, .inl (upd g_109 (v_87 4).toNatClampNeg z_113)))) := by have q9 : tg Γ_79 (47, 6, 0) t0.toNat (Γ (47, 6, 0) t0.toNat + 1) = tg Γ_79 (47, 6, 0) (v_87 4).toNatClampNeg z_113.toInt := (by rw [hj_115, hv_116]); rw [eΓ_117, q9]; exact hI.setg hU rfl (show tp_r L K 47 6 0 (r_86 8) from hr_89 8 (by decide)) (show tp_gi cy (6) (tgu (Γ_79 (47, 6, 0)) _ _) _ from ⟨_, rfl, tp_gi_upd hg_110⟩)
      have hfr9 : ∀ b, (K b).1 ∉ ([39, 53, 47] : List Nat) → va_up f_104 (r_86 8) (.inl (cy 0, 6, .inl (upd g_109 (v_87 4).toNatClampNeg z_113))) b = f b := tp_fr hfr (show tp_r L K 47 6 0 (r_86 8) from hr_89 8 (by decide)) (by decide)
      refine tp_iast (cy := cy) hx hb hK hP hD hS (show tp_r L K 47 6 0 (r_86 8) from hr_89 8 (by decide)).1 hf_108 hn_114 dX12_eaten_83 (fun H locs hP hD hS => ?_)
      have hP : va_P D vwCl (va_pl L (va_up f_104 (r_86 8) (.inl (cy 0, 6, .inl (upd g_109 (v_87 4).toNatClampNeg z_113))))) H := hP
      generalize hfe : va_up f_104 (r_86 8) (.inl (cy 0, 6, .inl (upd g_109 (v_87 4).toNatClampNeg z_113))) = f_118 at hP hI9 hfr9
      have hD : va_D A (va_pl L f_118) := tp_D hL hAL
      have hf_119 := (show f_118 o = _ from by rw [← hfe, va_up_ne _ _ (tp_ne ho (show tp_r L K 47 6 0 (r_86 8) from hr_89 8 (by decide)) (by decide))]).trans hf_106
      have hf_120 : f_118 (r_86 8) = .inl (cy 0, 6, .inl (upd g_109 (v_87 4).toNatClampNeg z_113)) := by rw [← hfe]; exact va_up_self _ _ _
      clear hfe
      have hI := hI9
      have hfr := hfr9
      clear hI9 hfr9
      have wsΓ_117 : Γ_117 (47, 6, 0) t0.toNat = Γ (47, 6, 0) t0.toNat + 1 := by rw [eΓ_117]; exact tg_s
      have hgr : ∀ κ : tk_K, κ.1 ∉ ([39, 53, 47] : List Nat) → Γ_117 κ = Γ κ := tg_fr hgr eΓ_117 (by decide)
      have hv_121 : ∀ i : Nat, i < 16 → (v_87 i).toInt = Γ_117 (39, 0, 0) i := fun i hi => by rw [eΓ_117, tg_r (by decide)]; exact hv_90 i hi
      have hx_122 : (v_87 0).toInt = Γ_117 (39, 0, 0) 0 := hv_121 0 (by decide)
      have hx_123 : (v_87 1).toInt = Γ_117 (39, 0, 0) 1 := hv_121 1 (by decide)
      have hx_124 : (v_87 3).toInt = Γ_117 (39, 0, 0) 3 := hv_121 3 (by decide)
      have hx_125 : (v_87 4).toInt = Γ_117 (39, 0, 0) 4 := hv_121 4 (by decide)
      have hx_126 : (v_87 5).toInt = Γ_117 (39, 0, 0) 5 := hv_121 5 (by decide)
      have hx_127 : (v_87 6).toInt = Γ_117 (39, 0, 0) 6 := hv_121 6 (by decide)
      have hx_128 : (v_87 7).toInt = Γ_117 (39, 0, 0) 7 := hv_121 7 (by decide)
      have hx_129 : (v_87 8).toInt = Γ_117 (39, 0, 0) 8 := hv_121 8 (by decide)
      have hO_EATERS : Γ_117 (47, 6, 0) = tgu (Γ (47, 6, 0)) t0.toNat (Γ (47, 6, 0) t0.toNat + 1) := by rw [eΓ_117, tg_f, hO_EATERS]
      refine lv_iconst (v := 1) hx hb dX12_eaten_84 (by decide) ?_
      have hpo9 : tl_J (1 : Int32) (Γ_117 (47, 6, 0) = tgu (Γ (47, 6, 0)) t0.toNat (Γ (47, 6, 0) t0.toNat + 1)) ∧ Γ_117 (39, 0, 0) 0 = Γ (39, 0, 0) 0 ∧ Γ_117 (39, 0, 0) 4 = Γ (39, 0, 0) 4 ∧ Γ_117 (39, 0, 0) 5 = Γ (39, 0, 0) 5 ∧ Γ_117 (39, 0, 0) 6 = Γ (39, 0, 0) 6 ∧ Γ_117 (39, 0, 0) 7 = Γ (39, 0, 0) 7 ∧ Γ_117 (39, 0, 0) 8 = Γ (39, 0, 0) 8 ∧ Γ (39, 0, 0) 1 ≤ Γ_117 (39, 0, 0) 1 ∧ Γ_117 (39, 0, 0) 1 ≤ T0 ∧ (∀ j : Nat, ¬ j = t0.toNat → Γ_117 (47, 6, 0) j = Γ (47, 6, 0) j) ∧ (Γ (47, 6, 0) t0.toNat ≤ Γ_117 (47, 6, 0) t0.toNat ∧ Γ_117 (47, 6, 0) t0.toNat ≤ Γ (47, 6, 0) t0.toNat + 1) := ⟨(Or.inl ⟨rfl, hO_EATERS⟩), ⟨(by omega), (by omega), (by omega), (by omega), (by omega), (by omega), (by omega), (by omega), (fun j9 q9 => by rw [hO_EATERS, tgu_n q9]), (by rw [hO_EATERS, tgu_s]; omega)⟩⟩
      exact W.zret (ty := .boolean) (v := 1) hx hb hr rfl (fun t ht hW => ⟨⟨_, (f_118, Γ_117), rfl, hpo9, by rw [ht]; exact hP, hI, hfr, hgr⟩, hS.F ht⟩) hS.2.2 dX12_eaten_85
    · have c_84 := c_84
      refine lv_iconst (v := 0) hx hb dX12_eaten_57 (by decide) ?_
      have hpo9 : tl_J (0 : Int32) (Γ_79 (47, 6, 0) = tgu (Γ (47, 6, 0)) t0.toNat (Γ (47, 6, 0) t0.toNat + 1)) ∧ Γ_79 (39, 0, 0) 0 = Γ (39, 0, 0) 0 ∧ Γ_79 (39, 0, 0) 4 = Γ (39, 0, 0) 4 ∧ Γ_79 (39, 0, 0) 5 = Γ (39, 0, 0) 5 ∧ Γ_79 (39, 0, 0) 6 = Γ (39, 0, 0) 6 ∧ Γ_79 (39, 0, 0) 7 = Γ (39, 0, 0) 7 ∧ Γ_79 (39, 0, 0) 8 = Γ (39, 0, 0) 8 ∧ Γ (39, 0, 0) 1 ≤ Γ_79 (39, 0, 0) 1 ∧ Γ_79 (39, 0, 0) 1 ≤ T0 ∧ (∀ j : Nat, ¬ j = t0.toNat → Γ_79 (47, 6, 0) j = Γ (47, 6, 0) j) ∧ (Γ (47, 6, 0) t0.toNat ≤ Γ_79 (47, 6, 0) t0.toNat ∧ Γ_79 (47, 6, 0) t0.toNat ≤ Γ (47, 6, 0) t0.toNat + 1) := ⟨(Or.inr rfl), ⟨(by omega), (by omega), (by omega), (by omega), (by omega), (by omega), (by omega), (by omega), (fun j9 q9 => by rw [hO_EATERS]), (by rw [hO_EATERS]; omega)⟩⟩
      exact W.zret (ty := .boolean) (v := 0) hx hb hr rfl (fun t ht hW => ⟨⟨_, (f_77, Γ_79), rfl, hpo9, by rw [ht]; exact hP, hI, hfr, hgr⟩, hS.F ht⟩) hS.2.2 dX12_eaten_58
  · have c_52 := c_52
    refine lv_iconst (v := 0) hx hb dX12_eaten_34 (by decide) ?_
    have hpo9 : tl_J (0 : Int32) (Γ_47 (47, 6, 0) = tgu (Γ (47, 6, 0)) t0.toNat (Γ (47, 6, 0) t0.toNat + 1)) ∧ Γ_47 (39, 0, 0) 0 = Γ (39, 0, 0) 0 ∧ Γ_47 (39, 0, 0) 4 = Γ (39, 0, 0) 4 ∧ Γ_47 (39, 0, 0) 5 = Γ (39, 0, 0) 5 ∧ Γ_47 (39, 0, 0) 6 = Γ (39, 0, 0) 6 ∧ Γ_47 (39, 0, 0) 7 = Γ (39, 0, 0) 7 ∧ Γ_47 (39, 0, 0) 8 = Γ (39, 0, 0) 8 ∧ Γ (39, 0, 0) 1 ≤ Γ_47 (39, 0, 0) 1 ∧ Γ_47 (39, 0, 0) 1 ≤ T0 ∧ (∀ j : Nat, ¬ j = t0.toNat → Γ_47 (47, 6, 0) j = Γ (47, 6, 0) j) ∧ (Γ (47, 6, 0) t0.toNat ≤ Γ_47 (47, 6, 0) t0.toNat ∧ Γ_47 (47, 6, 0) t0.toNat ≤ Γ (47, 6, 0) t0.toNat + 1) := ⟨(Or.inr rfl), ⟨(by omega), (by omega), (by omega), (by omega), (by omega), (by omega), (by omega), (by omega), (fun j9 q9 => by rw [hO_EATERS]), (by rw [hO_EATERS]; omega)⟩⟩
    exact W.zret (ty := .boolean) (v := 0) hx hb hr rfl (fun t ht hW => ⟨⟨_, (f_45, Γ_47), rfl, hpo9, by rw [ht]; exact hP, hI, hfr, hgr⟩, hS.F ht⟩) hS.2.2 dX12_eaten_35

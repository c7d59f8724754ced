theorem dX12_tested_0 : decode cX12_tested 0 = .ok (.aload_n 0, 1) := by decide +kernel
theorem dX12_tested_1 : decode cX12_tested 1 = .ok (.iconst 0, 1) := by decide +kernel
theorem dX12_tested_2 : decode cX12_tested 2 = .ok (.putfield 222, 3) := by decide +kernel
theorem dX12_tested_5 : decode cX12_tested 5 = .ok (.aload_n 0, 1) := by decide +kernel
theorem dX12_tested_6 : decode cX12_tested 6 = .ok (.iconst 0, 1) := by decide +kernel
theorem dX12_tested_7 : decode cX12_tested 7 = .ok (.putfield 219, 3) := by decide +kernel
theorem dX12_tested_10 : decode cX12_tested 10 = .ok (.iconst 1, 1) := by decide +kernel
theorem dX12_tested_11 : decode cX12_tested 11 = .ok (.istore_n 1, 1) := by decide +kernel
theorem dX12_tested_12 : decode cX12_tested 12 = .ok (.iload_n 1, 1) := by decide +kernel
theorem dX12_tested_13 : decode cX12_tested 13 = .ok (.ifCond .eq 99, 3) := by decide +kernel
theorem dX12_tested_16 : decode cX12_tested 16 = .ok (.aload_n 0, 1) := by decide +kernel
theorem dX12_tested_17 : decode cX12_tested 17 = .ok (.invokevirtual 266, 3) := by decide +kernel
theorem dX12_tested_20 : decode cX12_tested 20 = .ok (.ifCond .ne 5, 3) := by decide +kernel
theorem dX12_tested_23 : decode cX12_tested 23 = .ok (.iconst 0, 1) := by decide +kernel
theorem dX12_tested_24 : decode cX12_tested 24 = .ok (.ireturn, 1) := by decide +kernel
theorem dX12_tested_25 : decode cX12_tested 25 = .ok (.aload_n 0, 1) := by decide +kernel
theorem dX12_tested_26 : decode cX12_tested 26 = .ok (.invokevirtual 269, 3) := by decide +kernel
theorem dX12_tested_29 : decode cX12_tested 29 = .ok (.aload_n 0, 1) := by decide +kernel
theorem dX12_tested_30 : decode cX12_tested 30 = .ok (.ldc2_w 272, 3) := by decide +kernel
theorem dX12_tested_33 : decode cX12_tested 33 = .ok (.invokevirtual 174, 3) := by decide +kernel
theorem dX12_tested_36 : decode cX12_tested 36 = .ok (.ifCond .ne 13, 3) := by decide +kernel
theorem dX12_tested_39 : decode cX12_tested 39 = .ok (.aload_n 0, 1) := by decide +kernel
theorem dX12_tested_40 : decode cX12_tested 40 = .ok (.ldc2_w 274, 3) := by decide +kernel
theorem dX12_tested_43 : decode cX12_tested 43 = .ok (.invokevirtual 174, 3) := by decide +kernel
theorem dX12_tested_46 : decode cX12_tested 46 = .ok (.ifCond .eq 7, 3) := by decide +kernel
theorem dX12_tested_49 : decode cX12_tested 49 = .ok (.iconst 1, 1) := by decide +kernel
theorem dX12_tested_50 : decode cX12_tested 50 = .ok (.goto 4, 3) := by decide +kernel
theorem dX12_tested_53 : decode cX12_tested 53 = .ok (.iconst 0, 1) := by decide +kernel
theorem dX12_tested_54 : decode cX12_tested 54 = .ok (.istore_n 1, 1) := by decide +kernel
theorem dX12_tested_55 : decode cX12_tested 55 = .ok (.iload_n 1, 1) := by decide +kernel
theorem dX12_tested_56 : decode cX12_tested 56 = .ok (.ifCond .eq (-44), 3) := by decide +kernel
theorem dX12_tested_59 : decode cX12_tested 59 = .ok (.aload_n 0, 1) := by decide +kernel
theorem dX12_tested_60 : decode cX12_tested 60 = .ok (.ldc2_w 272, 3) := by decide +kernel
theorem dX12_tested_63 : decode cX12_tested 63 = .ok (.invokevirtual 174, 3) := by decide +kernel
theorem dX12_tested_66 : decode cX12_tested 66 = .ok (.ifCond .eq 8, 3) := by decide +kernel
theorem dX12_tested_69 : decode cX12_tested 69 = .ok (.bipush 12, 2) := by decide +kernel
theorem dX12_tested_71 : decode cX12_tested 71 = .ok (.goto 5, 3) := by decide +kernel
theorem dX12_tested_74 : decode cX12_tested 74 = .ok (.bipush 13, 2) := by decide +kernel
theorem dX12_tested_76 : decode cX12_tested 76 = .ok (.istore_n 2, 1) := by decide +kernel
theorem dX12_tested_77 : decode cX12_tested 77 = .ok (.aload_n 0, 1) := by decide +kernel
theorem dX12_tested_78 : decode cX12_tested 78 = .ok (.invokevirtual 178, 3) := by decide +kernel
theorem dX12_tested_81 : decode cX12_tested 81 = .ok (.aload_n 0, 1) := by decide +kernel
theorem dX12_tested_82 : decode cX12_tested 82 = .ok (.iload_n 2, 1) := by decide +kernel
theorem dX12_tested_83 : decode cX12_tested 83 = .ok (.invokestatic 225, 3) := by decide +kernel
theorem dX12_tested_86 : decode cX12_tested 86 = .ok (.invokevirtual 260, 3) := by decide +kernel
theorem dX12_tested_89 : decode cX12_tested 89 = .ok (.aload_n 0, 1) := by decide +kernel
theorem dX12_tested_90 : decode cX12_tested 90 = .ok (.getfield 59, 3) := by decide +kernel
theorem dX12_tested_93 : decode cX12_tested 93 = .ok (.aload_n 0, 1) := by decide +kernel
theorem dX12_tested_94 : decode cX12_tested 94 = .ok (.getfield 222, 3) := by decide +kernel
theorem dX12_tested_97 : decode cX12_tested 97 = .ok (.iload_n 2, 1) := by decide +kernel
theorem dX12_tested_98 : decode cX12_tested 98 = .ok (.iastore, 1) := by decide +kernel
theorem dX12_tested_99 : decode cX12_tested 99 = .ok (.aload_n 0, 1) := by decide +kernel
theorem dX12_tested_100 : decode cX12_tested 100 = .ok (.dup, 1) := by decide +kernel
theorem dX12_tested_101 : decode cX12_tested 101 = .ok (.getfield 222, 3) := by decide +kernel
theorem dX12_tested_104 : decode cX12_tested 104 = .ok (.iconst 1, 1) := by decide +kernel
theorem dX12_tested_105 : decode cX12_tested 105 = .ok (.iadd, 1) := by decide +kernel
theorem dX12_tested_106 : decode cX12_tested 106 = .ok (.putfield 222, 3) := by decide +kernel
theorem dX12_tested_109 : decode cX12_tested 109 = .ok (.goto (-97), 3) := by decide +kernel
theorem dX12_tested_112 : decode cX12_tested 112 = .ok (.aload_n 0, 1) := by decide +kernel
theorem dX12_tested_113 : decode cX12_tested 113 = .ok (.invokevirtual 263, 3) := by decide +kernel
theorem dX12_tested_116 : decode cX12_tested 116 = .ok (.ifCond .eq 18, 3) := by decide +kernel
theorem dX12_tested_119 : decode cX12_tested 119 = .ok (.aload_n 0, 1) := by decide +kernel
theorem dX12_tested_120 : decode cX12_tested 120 = .ok (.invokevirtual 167, 3) := by decide +kernel
theorem dX12_tested_123 : decode cX12_tested 123 = .ok (.pop, 1) := by decide +kernel
theorem dX12_tested_124 : decode cX12_tested 124 = .ok (.aload_n 0, 1) := by decide +kernel
theorem dX12_tested_125 : decode cX12_tested 125 = .ok (.iconst 0, 1) := by decide +kernel
theorem dX12_tested_126 : decode cX12_tested 126 = .ok (.aload_n 0, 1) := by decide +kernel
theorem dX12_tested_127 : decode cX12_tested 127 = .ok (.getfield 164, 3) := by decide +kernel
theorem dX12_tested_130 : decode cX12_tested 130 = .ok (.invokevirtual 184, 3) := by decide +kernel
theorem dX12_tested_133 : decode cX12_tested 133 = .ok (.ireturn, 1) := by decide +kernel
theorem dX12_tested_134 : decode cX12_tested 134 = .ok (.aload_n 0, 1) := by decide +kernel
theorem dX12_tested_135 : decode cX12_tested 135 = .ok (.iconst 1, 1) := by decide +kernel
theorem dX12_tested_136 : decode cX12_tested 136 = .ok (.invokevirtual 260, 3) := by decide +kernel
theorem dX12_tested_139 : decode cX12_tested 139 = .ok (.iconst 1, 1) := by decide +kernel
theorem dX12_tested_140 : decode cX12_tested 140 = .ok (.ireturn, 1) := by decide +kernel
theorem wk_659 : Cond.constantLong RX12 272 (6385252) ∈ tl_L := List.mem_filter.mpr ⟨lw_m7 (i := 196) rfl, rfl⟩
theorem wk_660 : Cond.constantLong RX12 274 (28530) ∈ tl_L := List.mem_filter.mpr ⟨lw_m7 (i := 197) rfl, rfl⟩
theorem wk_661 : Cond.methodLink RX12 266 yX12_fact ∈ tl_L := List.mem_filter.mpr ⟨lw_m7 (i := 168) rfl, rfl⟩
theorem wk_662 : Cond.instanceMethod yX12_fact ∈ tl_L := List.mem_filter.mpr ⟨lw_m7 (i := 170) rfl, rfl⟩
theorem wk_663 : Cond.selects RX12 yX12_fact yX12_fact ∈ tl_L := List.mem_filter.mpr ⟨lw_s9 (i := 4) (q := (yX12_fact, 49)) rfl, rfl⟩
theorem wk_664 : Cond.code yX12_fact cX12_fact 3 (some .boolean) ∈ tl_L := List.mem_filter.mpr ⟨lw_m7 (i := 171) rfl, rfl⟩
theorem wk_674 : Cond.methodLink RX12 269 yX12_closes ∈ tl_L := List.mem_filter.mpr ⟨lw_m7 (i := 181) rfl, rfl⟩
theorem wk_675 : Cond.instanceMethod yX12_closes ∈ tl_L := List.mem_filter.mpr ⟨lw_m7 (i := 183) rfl, rfl⟩
theorem wk_676 : Cond.selects RX12 yX12_closes yX12_closes ∈ tl_L := List.mem_filter.mpr ⟨lw_s9 (i := 7) (q := (yX12_closes, 49)) rfl, rfl⟩
theorem wk_677 : Cond.code yX12_closes cX12_closes 1 none ∈ tl_L := List.mem_filter.mpr ⟨lw_m7 (i := 184) rfl, rfl⟩
theorem lk_X12_266 : tl_kV RX12 266 RX12 yX12_fact cX12_fact 3 (some .boolean) 0 := ⟨wk_664, wk_661, wk_662, wk_663, wk_5, ⟨by decide +kernel, by decide +kernel, by decide +kernel⟩⟩
theorem lk_X12_269 : tl_kV RX12 269 RX12 yX12_closes cX12_closes 1 none 0 := ⟨wk_677, wk_674, wk_675, wk_676, wk_5, ⟨by decide +kernel, by decide +kernel, by decide +kernel⟩⟩
set_option maxHeartbeats 4000000 in
set_option maxRecDepth 100000 in
theorem r_X12_tested (l : Launch) (D : va_G) (cy : Nat → ClassId) (sz : Nat) (L : List Nat) (K : Nat → tk_K) (Γ : tk_G) (f : Nat → va_E) (o : Nat) (τ : Nat → Int) (T0 : Int) (t0 : Int) (a : Nat) (d : Int) (ho : tp_r L K 39 (0) 0 o) (ht : Γ (41, 400, 0) = τ) (hT : Γ (39, 0, 0) 0 = T0) (hb0 : 0 ≤ Γ (39, 0, 0) 1 ∧ Γ (39, 0, 0) 1 ≤ T0 ∧ T0 ≤ 400) (h4 : Γ (39, 0, 0) 4 = t0) (hp : ps (Γ (43, 8800, 0)) t0 (Γ (44, 22, 0) t0.toNat) (Γ (39, 0, 0) 1) T0 (Γ (39, 0, 0) 5) a (d)) (hd0 : d = 0) : Met l yX12_tested (tl_w yX12_tested cX12_tested 3 (some .boolean)) ({ frames := 8, cells := 0, slots := 0, locals := 176 }) (va_Pc [.ref o] (tp_P D cy L K Γ f sz)) (va_Qi (fun (r : Int32) (u : (Nat → va_E) × tk_G) => tl_J r (ps (u.2 (43, 8800, 0)) t0 (u.2 (44, 22, 0) t0.toNat) (u.2 (39, 0, 0) 1) T0 (u.2 (39, 0, 0) 5) a (1) ∧ u.2 (44, 22, 0) t0.toNat ≤ u.2 (39, 0, 0) 1 ∧ fz (Γ (43, 8800, 0)) (u.2 (43, 8800, 0)) (Γ (44, 22, 0)) (u.2 (44, 22, 0)) t0) ∧ u.2 (39, 0, 0) 0 = Γ (39, 0, 0) 0 ∧ u.2 (39, 0, 0) 4 = Γ (39, 0, 0) 4 ∧ u.2 (39, 0, 0) 7 = Γ (39, 0, 0) 7 ∧ Γ (39, 0, 0) 1 ≤ u.2 (39, 0, 0) 1 ∧ u.2 (39, 0, 0) 1 ≤ T0 ∧ fw (Γ (43, 8800, 0)) (u.2 (43, 8800, 0)) (Γ (44, 22, 0)) (u.2 (44, 22, 0)) t0) (tp_BG D cy L K Γ f [39, 43, 44, 52]) (tp_A L sz)) 0 0 (tp_A L sz) := by
  refine Met.ofW (cc := cX12_tested) (maxL := 3) (ret := (some .boolean)) (by decide) rfl ?_
  intro p e s m args below meth c s₁ B hml hv
  obtain ⟨rfl, hsz, hP, hK, hL, hI, hN, hU⟩ := hv
  have hx := B.exec
  have hb := B.bytes
  have hr := B.returns
  have hta := tl_hta (atoms_spec (ws := tl_w yX12_tested cX12_tested 3 (some .boolean)) B.pre)
  have hown : s.vm.findClass RX12 = some m.cls := findClass_of_methodNamed B.named
  have hlocks := B.notSynchronized
  subst hsz
  have hI0 := hI
  generalize hAe : tp_A L s.heap.size = A
  have hA : ∀ q : Nat, s.heap.size ≤ q → A q := fun q h => by rw [← hAe]; exact Or.inr h
  have hAL : ∀ q ∈ L, A q := fun q h => by rw [← hAe]; exact Or.inl h
  have hAf : ∀ (H : Heap), s.heap.size ≤ H.size → ∀ q, tp_A L H.size q → A q := fun H h q hq => hq.elim (hAL q) (fun h2 => hA q (Nat.le_trans h h2))
  have hS : va_S A s.heap s.heap [] := va_S.rf
  have hD : va_D A (va_pl L f) := tp_D hL hAL
  have hfr : ∀ b, (K b).1 ∉ ([39, 43, 44, 52] : List Nat) → f b = f b := fun _ _ => rfl
  have hgr : ∀ κ : tk_K, κ.1 ∉ ([39, 43, 44, 52] : List Nat) → Γ κ = Γ κ := fun _ _ => rfl
  have hl := lv_entry ([.ref o]) (n := 3) (Nat.le_of_ble_eq_true rfl)
  rw [lg_entry_eq]
  generalize (lg_sl ([.ref o]) ++ List.replicate (3 - (lg_sl ([.ref o])).length) Slot.unset).toArray = ls at hl ⊢
  have hl : lv_has ls 3 [(0, .ref o)] := hl
  have hz : fz (Γ (43, 8800, 0)) (Γ (43, 8800, 0)) (Γ (44, 22, 0)) (Γ (44, 22, 0)) t0 := fz.rfl
  have hfw : fw (Γ (43, 8800, 0)) (Γ (43, 8800, 0)) (Γ (44, 22, 0)) (Γ (44, 22, 0)) t0 := fw.same
  have hpo := hp
  obtain ⟨hp1, hp2, hp3, hp4, _⟩ := hpo
  refine lv_aload_n hx hb dX12_tested_0 rfl (lv_at hl 0 rfl) ?_
  refine lv_iconst (v := 0) hx hb dX12_tested_1 (by decide) ?_
  obtain ⟨r_2, v_3, q_4, hf_1, hr_5, hv_6⟩ := (show tp_o_M L K 0 0 (Γ (39, 0, 0)) (f o) from hI.at ho)
  have hx_7 : (v_3 0).toInt = Γ (39, 0, 0) 0 := hv_6 0 (by decide)
  have hx_8 : (v_3 1).toInt = Γ (39, 0, 0) 1 := hv_6 1 (by decide)
  have hx_9 : (v_3 3).toInt = Γ (39, 0, 0) 3 := hv_6 3 (by decide)
  have hx_10 : (v_3 4).toInt = Γ (39, 0, 0) 4 := hv_6 4 (by decide)
  have hx_11 : (v_3 5).toInt = Γ (39, 0, 0) 5 := hv_6 5 (by decide)
  have hx_12 : (v_3 6).toInt = Γ (39, 0, 0) 6 := hv_6 6 (by decide)
  have hx_13 : (v_3 7).toInt = Γ (39, 0, 0) 7 := hv_6 7 (by decide)
  have hx_14 : (v_3 8).toInt = Γ (39, 0, 0) 8 := hv_6 8 (by decide)
  obtain ⟨Γ_15, eΓ_15⟩ : ∃ y : tk_G, y = tg Γ (39, 0, 0) 8 (0 : Int) := ⟨_, rfl⟩
  have hv_16 : ∀ i : Nat, i < 16 → ((upd v_3 8 (0 : Int32)) i).toInt = Γ_15 (39, 0, 0) i := by rw [eΓ_15, tg_f]; exact tp_gi_upd hv_6
  have hI9 : tp_I cy L K Γ_15 (va_up f o (.inr (12, [.ref (r_2 0), .ref (r_2 1), .int (v_3 0), .ref (r_2 2), .ref (r_2 3), .ref (r_2 4), .ref (r_2 5), .ref (r_2 6), .ref (r_2 7), .ref (r_2 8), .ref (r_2 9), .ref (r_2 10), .ref (r_2 11), .ref (r_2 12), .ref (r_2 13), .ref (r_2 14), .ref (r_2 15), .int (v_3 1), .int (v_3 2), .int (v_3 3), .int (v_3 4), .int (v_3 5), .int (v_3 6), .int (v_3 7), .ref (r_2 16), .int 0, .ref (r_2 17), .int (v_3 9), .ref (r_2 18), .long q_4, .ref (r_2 19), .ref (r_2 20), .int (v_3 10), .int (v_3 11), .int (v_3 12), .ref (r_2 21), .ref (r_2 22), .int (v_3 13), .ref (r_2 23), .int (v_3 14), .int (v_3 15), .ref (r_2 24), .ref (r_2 25), .ref (r_2 26), .ref (r_2 27), .ref (r_2 28), .ref (r_2 29), .ref (r_2 30), .ref (r_2 31)]))) := by have q9 := hv_16; rw [eΓ_15, tg_f] at q9; rw [eΓ_15]; exact hI.setg hU rfl ho (show tp_o_M L K 0 0 (tgu (Γ (39, 0, 0)) 8 (0 : Int)) _ from ⟨r_2, (upd v_3 8 (0 : Int32)), q_4, rfl, hr_5, q9⟩)
  have hfr9 : ∀ b, (K b).1 ∉ ([39, 43, 44, 52] : List Nat) → va_up f o (.inr (12, [.ref (r_2 0), .ref (r_2 1), .int (v_3 0), .ref (r_2 2), .ref (r_2 3), .ref (r_2 4), .ref (r_2 5), .ref (r_2 6), .ref (r_2 7), .ref (r_2 8), .ref (r_2 9), .ref (r_2 10), .ref (r_2 11), .ref (r_2 12), .ref (r_2 13), .ref (r_2 14), .ref (r_2 15), .int (v_3 1), .int (v_3 2), .int (v_3 3), .int (v_3 4), .int (v_3 5), .int (v_3 6), .int (v_3 7), .ref (r_2 16), .int 0, .ref (r_2 17), .int (v_3 9), .ref (r_2 18), .long q_4, .ref (r_2 19), .ref (r_2 20), .int (v_3 10), .int (v_3 11), .int (v_3 12), .ref (r_2 21), .ref (r_2 22), .int (v_3 13), .ref (r_2 23), .int (v_3 14), .int (v_3 15), .ref (r_2 24), .ref (r_2 25), .ref (r_2 26), .ref (r_2 27), .ref (r_2 28), .ref (r_2 29), .ref (r_2 30), .ref (r_2 31)])) b = f b := tp_fr hfr ho (by decide)
  refine tp_put (cy := cy) (ci := 12) (v := .int 0) (ty := tyX12 25) (C := RX12) (T := TX12) (N := 49) hx hb hta inlX12 tyX12 tyX12_ok nmX12 hown hK hP hD hS ho.1 hf_1 rfl 25 (by decide) (hta _ wk_657) (fun _ h9 => h9) rfl (tyX12_ok 25 (by decide)) rfl rfl (Nat.le_of_ble_eq_true rfl) dX12_tested_2 (fun H locs hP hD hS => ?_)
  have hP : va_P D vwCl (va_pl L (va_up f o (.inr (12, [.ref (r_2 0), .ref (r_2 1), .int (v_3 0), .ref (r_2 2), .ref (r_2 3), .ref (r_2 4), .ref (r_2 5), .ref (r_2 6), .ref (r_2 7), .ref (r_2 8), .ref (r_2 9), .ref (r_2 10), .ref (r_2 11), .ref (r_2 12), .ref (r_2 13), .ref (r_2 14), .ref (r_2 15), .int (v_3 1), .int (v_3 2), .int (v_3 3), .int (v_3 4), .int (v_3 5), .int (v_3 6), .int (v_3 7), .ref (r_2 16), .int 0, .ref (r_2 17), .int (v_3 9), .ref (r_2 18), .long q_4, .ref (r_2 19), .ref (r_2 20), .int (v_3 10), .int (v_3 11), .int (v_3 12), .ref (r_2 21), .ref (r_2 22), .int (v_3 13), .ref (r_2 23), .int (v_3 14), .int (v_3 15), .ref (r_2 24), .ref (r_2 25), .ref (r_2 26), .ref (r_2 27), .ref (r_2 28), .ref (r_2 29), .ref (r_2 30), .ref (r_2 31)])))) H := hP
  generalize hfe : va_up f o (.inr (12, [.ref (r_2 0), .ref (r_2 1), .int (v_3 0), .ref (r_2 2), .ref (r_2 3), .ref (r_2 4), .ref (r_2 5), .ref (r_2 6), .ref (r_2 7), .ref (r_2 8), .ref (r_2 9), .ref (r_2 10), .ref (r_2 11), .ref (r_2 12), .ref (r_2 13), .ref (r_2 14), .ref (r_2 15), .int (v_3 1), .int (v_3 2), .int (v_3 3), .int (v_3 4), .int (v_3 5), .int (v_3 6), .int (v_3 7), .ref (r_2 16), .int 0, .ref (r_2 17), .int (v_3 9), .ref (r_2 18), .long q_4, .ref (r_2 19), .ref (r_2 20), .int (v_3 10), .int (v_3 11), .int (v_3 12), .ref (r_2 21), .ref (r_2 22), .int (v_3 13), .ref (r_2 23), .int (v_3 14), .int (v_3 15), .ref (r_2 24), .ref (r_2 25), .ref (r_2 26), .ref (r_2 27), .ref (r_2 28), .ref (r_2 29), .ref (r_2 30), .ref (r_2 31)])) = f_17 at hP hI9 hfr9
  have hD : va_D A (va_pl L f_17) := tp_D hL hAL
  have hf_18 : f_17 o = .inr (12, [.ref (r_2 0), .ref (r_2 1), .int (v_3 0), .ref (r_2 2), .ref (r_2 3), .ref (r_2 4), .ref (r_2 5), .ref (r_2 6), .ref (r_2 7), .ref (r_2 8), .ref (r_2 9), .ref (r_2 10), .ref (r_2 11), .ref (r_2 12), .ref (r_2 13), .ref (r_2 14), .ref (r_2 15), .int (v_3 1), .int (v_3 2), .int (v_3 3), .int (v_3 4), .int (v_3 5), .int (v_3 6), .int (v_3 7), .ref (r_2 16), .int 0, .ref (r_2 17), .int (v_3 9), .ref (r_2 18), .long q_4, .ref (r_2 19), .ref (r_2 20), .int (v_3 10), .int (v_3 11), .int (v_3 12), .ref (r_2 21), .ref (r_2 22), .int (v_3 13), .ref (r_2 23), .int (v_3 14), .int (v_3 15), .ref (r_2 24), .ref (r_2 25), .ref (r_2 26), .ref (r_2 27), .ref (r_2 28), .ref (r_2 29), .ref (r_2 30), .ref (r_2 31)]) := by rw [← hfe]; exact va_up_self _ _ _
  clear hfe
  have hI := hI9
  have hfr := hfr9
  clear hI9 hfr9
  have hgr : ∀ κ : tk_K, κ.1 ∉ ([39, 43, 44, 52] : List Nat) → Γ_15 κ = Γ κ := tg_fr hgr eΓ_15 (by decide)
  have hx_19 : (v_3 0).toInt = Γ_15 (39, 0, 0) 0 := hv_16 0 (by decide)
  have hx_20 : (v_3 1).toInt = Γ_15 (39, 0, 0) 1 := hv_16 1 (by decide)
  have hx_21 : (v_3 3).toInt = Γ_15 (39, 0, 0) 3 := hv_16 3 (by decide)
  have hx_22 : (v_3 4).toInt = Γ_15 (39, 0, 0) 4 := hv_16 4 (by decide)
  have hx_23 : (v_3 5).toInt = Γ_15 (39, 0, 0) 5 := hv_16 5 (by decide)
  have hx_24 : (v_3 6).toInt = Γ_15 (39, 0, 0) 6 := hv_16 6 (by decide)
  have hx_25 : (v_3 7).toInt = Γ_15 (39, 0, 0) 7 := hv_16 7 (by decide)
  have hx_26 : (0 : Int) = Γ_15 (39, 0, 0) 8 := hv_16 8 (by decide)
  obtain ⟨hpa, hpb, hpc, hpd, _⟩ := id hp
  have hle := congrFun (show Γ_15 (44, 22, 0) = _ from by rw [eΓ_15, tg_rf (by decide)]) t0.toNat
  have hp : ps (Γ_15 (43, 8800, 0)) t0 (Γ_15 (44, 22, 0) t0.toNat) (Γ_15 (39, 0, 0) 1) T0 (Γ_15 (39, 0, 0) 5) a (d) := hp.eq (show Γ_15 (43, 8800, 0) = _ from by rw [eΓ_15, tg_rf (by decide)]) rfl (congrFun (show Γ_15 (44, 22, 0) = _ from by rw [eΓ_15, tg_rf (by decide)]) _) (by omega) rfl (by omega)
  have hz : fz (Γ (43, 8800, 0)) (Γ_15 (43, 8800, 0)) (Γ (44, 22, 0)) (Γ_15 (44, 22, 0)) t0 := by rw [(show Γ_15 (43, 8800, 0) = _ from by rw [eΓ_15, tg_rf (by decide)]), (show Γ_15 (44, 22, 0) = _ from by rw [eΓ_15, tg_rf (by decide)])]; exact hz
  have hfw : fw (Γ (43, 8800, 0)) (Γ_15 (43, 8800, 0)) (Γ (44, 22, 0)) (Γ_15 (44, 22, 0)) t0 := by rw [(show Γ_15 (43, 8800, 0) = _ from by rw [eΓ_15, tg_rf (by decide)]), (show Γ_15 (44, 22, 0) = _ from by rw [eΓ_15, tg_rf (by decide)])]; exact hfw
  refine lv_aload_n hx hb dX12_tested_5 rfl (lv_at hl 0 rfl) ?_
  refine lv_iconst (v := 0) hx hb dX12_tested_6 (by decide) ?_
  obtain ⟨Γ_27, eΓ_27⟩ : ∃ y : tk_G, y = tg Γ_15 (39, 0, 0) 6 (0 : Int) := ⟨_, rfl⟩
  have hv_28 : ∀ i : Nat, i < 16 → ((upd (upd v_3 8 (0 : Int32)) 6 (0 : Int32)) i).toInt = Γ_27 (39, 0, 0) i := by rw [eΓ_27, tg_f]; exact tp_gi_upd hv_16
  have hI9 : tp_I cy L K Γ_27 (va_up f_17 o (.inr (12, [.ref (r_2 0), .ref (r_2 1), .int (v_3 0), .ref (r_2 2), .ref (r_2 3), .ref (r_2 4), .ref (r_2 5), .ref (r_2 6), .ref (r_2 7), .ref (r_2 8), .ref (r_2 9), .ref (r_2 10), .ref (r_2 11), .ref (r_2 12), .ref (r_2 13), .ref (r_2 14), .ref (r_2 15), .int (v_3 1), .int (v_3 2), .int (v_3 3), .int (v_3 4), .int (v_3 5), .int 0, .int (v_3 7), .ref (r_2 16), .int 0, .ref (r_2 17), .int (v_3 9), .ref (r_2 18), .long q_4, .ref (r_2 19), .ref (r_2 20), .int (v_3 10), .int (v_3 11), .int (v_3 12), .ref (r_2 21), .ref (r_2 22), .int (v_3 13), .ref (r_2 23), .int (v_3 14), .int (v_3 15), .ref (r_2 24), .ref (r_2 25), .ref (r_2 26), .ref (r_2 27), .ref (r_2 28), .ref (r_2 29), .ref (r_2 30), .ref (r_2 31)]))) := by have q9 := hv_28; rw [eΓ_27, tg_f] at q9; rw [eΓ_27]; exact hI.setg hU rfl ho (show tp_o_M L K 0 0 (tgu (Γ_15 (39, 0, 0)) 6 (0 : Int)) _ from ⟨r_2, (upd (upd v_3 8 (0 : Int32)) 6 (0 : Int32)), q_4, rfl, hr_5, q9⟩)
  have hfr9 : ∀ b, (K b).1 ∉ ([39, 43, 44, 52] : List Nat) → va_up f_17 o (.inr (12, [.ref (r_2 0), .ref (r_2 1), .int (v_3 0), .ref (r_2 2), .ref (r_2 3), .ref (r_2 4), .ref (r_2 5), .ref (r_2 6), .ref (r_2 7), .ref (r_2 8), .ref (r_2 9), .ref (r_2 10), .ref (r_2 11), .ref (r_2 12), .ref (r_2 13), .ref (r_2 14), .ref (r_2 15), .int (v_3 1), .int (v_3 2), .int (v_3 3), .int (v_3 4), .int (v_3 5), .int 0, .int (v_3 7), .ref (r_2 16), .int 0, .ref (r_2 17), .int (v_3 9), .ref (r_2 18), .long q_4, .ref (r_2 19), .ref (r_2 20), .int (v_3 10), .int (v_3 11), .int (v_3 12), .ref (r_2 21), .ref (r_2 22), .int (v_3 13), .ref (r_2 23), .int (v_3 14), .int (v_3 15), .ref (r_2 24), .ref (r_2 25), .ref (r_2 26), .ref (r_2 27), .ref (r_2 28), .ref (r_2 29), .ref (r_2 30), .ref (r_2 31)])) b = f b := tp_fr hfr ho (by decide)
  refine tp_put (cy := cy) (ci := 12) (v := .int 0) (ty := tyX12 22) (C := RX12) (T := TX12) (N := 49) hx hb hta inlX12 tyX12 tyX12_ok nmX12 hown hK hP hD hS ho.1 hf_18 rfl 22 (by decide) (hta _ wk_658) (fun _ h9 => h9) rfl (tyX12_ok 22 (by decide)) rfl rfl (Nat.le_of_ble_eq_true rfl) dX12_tested_7 (fun H locs hP hD hS => ?_)
  have hP : va_P D vwCl (va_pl L (va_up f_17 o (.inr (12, [.ref (r_2 0), .ref (r_2 1), .int (v_3 0), .ref (r_2 2), .ref (r_2 3), .ref (r_2 4), .ref (r_2 5), .ref (r_2 6), .ref (r_2 7), .ref (r_2 8), .ref (r_2 9), .ref (r_2 10), .ref (r_2 11), .ref (r_2 12), .ref (r_2 13), .ref (r_2 14), .ref (r_2 15), .int (v_3 1), .int (v_3 2), .int (v_3 3), .int (v_3 4), .int (v_3 5), .int 0, .int (v_3 7), .ref (r_2 16), .int 0, .ref (r_2 17), .int (v_3 9), .ref (r_2 18), .long q_4, .ref (r_2 19), .ref (r_2 20), .int (v_3 10), .int (v_3 11), .int (v_3 12), .ref (r_2 21), .ref (r_2 22), .int (v_3 13), .ref (r_2 23), .int (v_3 14), .int (v_3 15), .ref (r_2 24), .ref (r_2 25), .ref (r_2 26), .ref (r_2 27), .ref (r_2 28), .ref (r_2 29), .ref (r_2 30), .ref (r_2 31)])))) H := hP
  generalize hfe : va_up f_17 o (.inr (12, [.ref (r_2 0), .ref (r_2 1), .int (v_3 0), .ref (r_2 2), .ref (r_2 3), .ref (r_2 4), .ref (r_2 5), .ref (r_2 6), .ref (r_2 7), .ref (r_2 8), .ref (r_2 9), .ref (r_2 10), .ref (r_2 11), .ref (r_2 12), .ref (r_2 13), .ref (r_2 14), .ref (r_2 15), .int (v_3 1), .int (v_3 2), .int (v_3 3), .int (v_3 4), .int (v_3 5), .int 0, .int (v_3 7), .ref (r_2 16), .int 0, .ref (r_2 17), .int (v_3 9), .ref (r_2 18), .long q_4, .ref (r_2 19), .ref (r_2 20), .int (v_3 10), .int (v_3 11), .int (v_3 12), .ref (r_2 21), .ref (r_2 22), .int (v_3 13), .ref (r_2 23), .int (v_3 14), .int (v_3 15), .ref (r_2 24), .ref (r_2 25), .ref (r_2 26), .ref (r_2 27), .ref (r_2 28), .ref (r_2 29), .ref (r_2 30), .ref (r_2 31)])) = f_29 at hP hI9 hfr9
  have hD : va_D A (va_pl L f_29) := tp_D hL hAL
  have hf_30 : f_29 o = .inr (12, [.ref (r_2 0), .ref (r_2 1), .int (v_3 0), .ref (r_2 2), .ref (r_2 3), .ref (r_2 4), .ref (r_2 5), .ref (r_2 6), .ref (r_2 7), .ref (r_2 8), .ref (r_2 9), .ref (r_2 10), .ref (r_2 11), .ref (r_2 12), .ref (r_2 13), .ref (r_2 14), .ref (r_2 15), .int (v_3 1), .int (v_3 2), .int (v_3 3), .int (v_3 4), .int (v_3 5), .int 0, .int (v_3 7), .ref (r_2 16), .int 0, .ref (r_2 17), .int (v_3 9), .ref (r_2 18), .long q_4, .ref (r_2 19), .ref (r_2 20), .int (v_3 10), .int (v_3 11), .int (v_3 12), .ref (r_2 21), .ref (r_2 22), .int (v_3 13), .ref (r_2 23), .int (v_3 14), .int (v_3 15), .ref (r_2 24), .ref (r_2 25), .ref (r_2 26), .ref (r_2 27), .ref (r_2 28), .ref (r_2 29), .ref (r_2 30), .ref (r_2 31)]) := by rw [← hfe]; exact va_up_self _ _ _
  clear hfe
  have hI := hI9
  have hfr := hfr9
  clear hI9 hfr9
  have hgr : ∀ κ : tk_K, κ.1 ∉ ([39, 43, 44, 52] : List Nat) → Γ_27 κ = Γ κ := tg_fr hgr eΓ_27 (by decide)
  have hx_31 : (v_3 0).toInt = Γ_27 (39, 0, 0) 0 := hv_28 0 (by decide)
  have hx_32 : (v_3 1).toInt = Γ_27 (39, 0, 0) 1 := hv_28 1 (by decide)
  have hx_33 : (v_3 3).toInt = Γ_27 (39, 0, 0) 3 := hv_28 3 (by decide)
  have hx_34 : (v_3 4).toInt = Γ_27 (39, 0, 0) 4 := hv_28 4 (by decide)
  have hx_35 : (v_3 5).toInt = Γ_27 (39, 0, 0) 5 := hv_28 5 (by decide)
  have hx_36 : (0 : Int) = Γ_27 (39, 0, 0) 6 := hv_28 6 (by decide)
  have hx_37 : (v_3 7).toInt = Γ_27 (39, 0, 0) 7 := hv_28 7 (by decide)
  have hx_38 : (0 : Int) = Γ_27 (39, 0, 0) 8 := hv_28 8 (by decide)
  obtain ⟨hpa, hpb, hpc, hpd, _⟩ := id hp
  have hle := congrFun (show Γ_27 (44, 22, 0) = _ from by rw [eΓ_27, tg_rf (by decide)]) t0.toNat
  have hp : ps (Γ_27 (43, 8800, 0)) t0 (Γ_27 (44, 22, 0) t0.toNat) (Γ_27 (39, 0, 0) 1) T0 (Γ_27 (39, 0, 0) 5) a (d) := hp.eq (show Γ_27 (43, 8800, 0) = _ from by rw [eΓ_27, tg_rf (by decide)]) rfl (congrFun (show Γ_27 (44, 22, 0) = _ from by rw [eΓ_27, tg_rf (by decide)]) _) (by omega) rfl (by omega)
  have hz : fz (Γ (43, 8800, 0)) (Γ_27 (43, 8800, 0)) (Γ (44, 22, 0)) (Γ_27 (44, 22, 0)) t0 := by rw [(show Γ_27 (43, 8800, 0) = _ from by rw [eΓ_27, tg_rf (by decide)]), (show Γ_27 (44, 22, 0) = _ from by rw [eΓ_27, tg_rf (by decide)])]; exact hz
  have hfw : fw (Γ (43, 8800, 0)) (Γ_27 (43, 8800, 0)) (Γ (44, 22, 0)) (Γ_27 (44, 22, 0)) t0 := by rw [(show Γ_27 (43, 8800, 0) = _ from by rw [eΓ_27, tg_rf (by decide)]), (show Γ_27 (44, 22, 0) = _ from by rw [eΓ_27, tg_rf (by decide)])]; exact hfw
  refine lv_iconst (v := 1) hx hb dX12_tested_10 (by decide) ?_
  refine lv_istore_n (lv' := [(1, .int 1), (0, .ref o)]) hx hb dX12_tested_11 rfl hl (by decide) rfl (fun ls hl => ?_)
  refine tl_ind (G := fun H locs ls => W p l e ((headSpec (tl_w yX12_tested cX12_tested 3 (some .boolean)) ({ frames := 8, cells := 0, slots := 0, locals := 176 })).room) s m #[.ref o] below meth c H locs 0 0 (MQ below (va_Qi (fun (r : Int32) (u : (Nat → va_E) × tk_G) => tl_J r (ps (u.2 (43, 8800, 0)) t0 (u.2 (44, 22, 0) t0.toNat) (u.2 (39, 0, 0) 1) T0 (u.2 (39, 0, 0) 5) a (1) ∧ u.2 (44, 22, 0) t0.toNat ≤ u.2 (39, 0, 0) 1 ∧ fz (Γ (43, 8800, 0)) (u.2 (43, 8800, 0)) (Γ (44, 22, 0)) (u.2 (44, 22, 0)) t0) ∧ u.2 (39, 0, 0) 0 = Γ (39, 0, 0) 0 ∧ u.2 (39, 0, 0) 4 = Γ (39, 0, 0) 4 ∧ u.2 (39, 0, 0) 7 = Γ (39, 0, 0) 7 ∧ Γ (39, 0, 0) 1 ≤ u.2 (39, 0, 0) 1 ∧ u.2 (39, 0, 0) 1 ≤ T0 ∧ fw (Γ (43, 8800, 0)) (u.2 (43, 8800, 0)) (Γ (44, 22, 0)) (u.2 (44, 22, 0)) t0) (tp_BG D cy L K Γ f [39, 43, 44, 52]) A) #[.ref o] s 0 0 A) (F0 m 12 ls [])) (α := (Nat → va_E) × tk_G × Int32) (fun aq => (2 * (400 - aq.2.1 (39, 0, 0) 1) + aq.2.2.toInt).toNat) (fun aq H locs ls => ((aq.2.2.toInt = 1 ∧ ps (aq.2.1 (43, 8800, 0)) t0 (aq.2.1 (44, 22, 0) t0.toNat) (aq.2.1 (39, 0, 0) 1) T0 (aq.2.1 (39, 0, 0) 5) a (cn (aq.2.1 (52, 400, 0)) (aq.2.1 (39, 0, 0) 8).toNat)) ∨ (aq.2.2.toInt = 0 ∧ ps (aq.2.1 (43, 8800, 0)) t0 (aq.2.1 (44, 22, 0) t0.toNat) (aq.2.1 (39, 0, 0) 1) T0 (aq.2.1 (39, 0, 0) 5) a (1 + cn (aq.2.1 (52, 400, 0)) (aq.2.1 (39, 0, 0) 8).toNat))) ∧ (fz (Γ (43, 8800, 0)) (aq.2.1 (43, 8800, 0)) (Γ (44, 22, 0)) (aq.2.1 (44, 22, 0)) t0) ∧ (fw (Γ (43, 8800, 0)) (aq.2.1 (43, 8800, 0)) (Γ (44, 22, 0)) (aq.2.1 (44, 22, 0)) t0) ∧ (aq.2.1 (39, 0, 0) 0 = Γ (39, 0, 0) 0) ∧ (aq.2.1 (39, 0, 0) 4 = Γ (39, 0, 0) 4) ∧ (aq.2.1 (39, 0, 0) 7 = Γ (39, 0, 0) 7) ∧ (Γ (39, 0, 0) 1 ≤ aq.2.1 (39, 0, 0) 1 ∧ aq.2.1 (39, 0, 0) 1 ≤ T0) ∧ (0 ≤ aq.2.1 (39, 0, 0) 8 ∧ aq.2.1 (44, 22, 0) t0.toNat + aq.2.1 (39, 0, 0) 8 ≤ aq.2.1 (39, 0, 0) 1) ∧ (∀ j : Nat, (j : Int) < aq.2.1 (39, 0, 0) 8 → ent (aq.2.1 (52, 400, 0) j)) ∧ (Γ (44, 22, 0) t0.toNat ≤ aq.2.1 (44, 22, 0) t0.toNat) ∧ va_P D vwCl (va_pl L aq.1) H ∧ tp_I cy L K aq.2.1 aq.1 ∧ (∀ b, (K b).1 ∉ ([39, 43, 44, 52] : List Nat) → aq.1 b = f b) ∧ (∀ κ : tk_K, κ.1 ∉ ([39, 43, 44, 52] : List Nat) → aq.2.1 κ = Γ κ) ∧ va_S A s.heap H locs ∧ lv_has ls 3 [(1, .int aq.2.2), (0, .ref o)]) ?_ (f_29, Γ_27, (1 : Int32)) H locs ls ⟨(show ((1 : Int) = 1 ∧ ps (Γ_27 (43, 8800, 0)) t0 (Γ_27 (44, 22, 0) t0.toNat) (Γ_27 (39, 0, 0) 1) T0 (Γ_27 (39, 0, 0) 5) a (cn (Γ_27 (52, 400, 0)) (Γ_27 (39, 0, 0) 8).toNat)) ∨ ((1 : Int) = 0 ∧ ps (Γ_27 (43, 8800, 0)) t0 (Γ_27 (44, 22, 0) t0.toNat) (Γ_27 (39, 0, 0) 1) T0 (Γ_27 (39, 0, 0) 5) a (1 + cn (Γ_27 (52, 400, 0)) (Γ_27 (39, 0, 0) 8).toNat)) from (Or.inl ⟨by decide, hp.dd (by rw [show Γ_27 (39, 0, 0) 8 = 0 from by omega, hd0]; rfl)⟩)), (show fz (Γ (43, 8800, 0)) (Γ_27 (43, 8800, 0)) (Γ (44, 22, 0)) (Γ_27 (44, 22, 0)) t0 from hz), (show fw (Γ (43, 8800, 0)) (Γ_27 (43, 8800, 0)) (Γ (44, 22, 0)) (Γ_27 (44, 22, 0)) t0 from hfw), (show Γ_27 (39, 0, 0) 0 = Γ (39, 0, 0) 0 from (by omega)), (show Γ_27 (39, 0, 0) 4 = Γ (39, 0, 0) 4 from (by omega)), (show Γ_27 (39, 0, 0) 7 = Γ (39, 0, 0) 7 from (by omega)), (show Γ (39, 0, 0) 1 ≤ Γ_27 (39, 0, 0) 1 ∧ Γ_27 (39, 0, 0) 1 ≤ T0 from (by omega)), (show 0 ≤ Γ_27 (39, 0, 0) 8 ∧ Γ_27 (44, 22, 0) t0.toNat + Γ_27 (39, 0, 0) 8 ≤ Γ_27 (39, 0, 0) 1 from (by omega)), (show ∀ j : Nat, (j : Int) < Γ_27 (39, 0, 0) 8 → ent (Γ_27 (52, 400, 0) j) from (fun j9 q9 => absurd q9 (by omega))), (show Γ (44, 22, 0) t0.toNat ≤ Γ_27 (44, 22, 0) t0.toNat from (by omega)), hP, hI, hfr, hgr, hS, lv_sub hl [0, 1] rfl⟩
  rintro ⟨f_39, Γ_40, v1⟩ H locs ls ⟨hcase, hz, hfw, q0, q4, q7, h1, h8, hop, hln, hP, hI, hfr, hgr, hS, hl⟩ ih12
  have hgr : ∀ κ : tk_K, κ.1 ∉ ([39, 43, 44, 52] : List Nat) → Γ_40 κ = Γ κ := hgr
  have hP : va_P D vwCl (va_pl L f_39) H := hP
  have hI : tp_I cy L K Γ_40 f_39 := hI
  have hfr : ∀ b, (K b).1 ∉ ([39, 43, 44, 52] : List Nat) → f_39 b = f b := hfr
  have hD : va_D A (va_pl L f_39) := tp_D hL hAL
  have hO : Γ_40 (52, 400, 0) = Γ_40 (52, 400, 0) := rfl
  have hcase : (v1.toInt = 1 ∧ ps (Γ_40 (43, 8800, 0)) t0 (Γ_40 (44, 22, 0) t0.toNat) (Γ_40 (39, 0, 0) 1) T0 (Γ_40 (39, 0, 0) 5) a (cn (Γ_40 (52, 400, 0)) (Γ_40 (39, 0, 0) 8).toNat)) ∨ (v1.toInt = 0 ∧ ps (Γ_40 (43, 8800, 0)) t0 (Γ_40 (44, 22, 0) t0.toNat) (Γ_40 (39, 0, 0) 1) T0 (Γ_40 (39, 0, 0) 5) a (1 + cn (Γ_40 (52, 400, 0)) (Γ_40 (39, 0, 0) 8).toNat)) := hcase
  have hz : fz (Γ (43, 8800, 0)) (Γ_40 (43, 8800, 0)) (Γ (44, 22, 0)) (Γ_40 (44, 22, 0)) t0 := hz
  have hfw : fw (Γ (43, 8800, 0)) (Γ_40 (43, 8800, 0)) (Γ (44, 22, 0)) (Γ_40 (44, 22, 0)) t0 := hfw
  have q0 : Γ_40 (39, 0, 0) 0 = Γ (39, 0, 0) 0 := q0
  have q4 : Γ_40 (39, 0, 0) 4 = Γ (39, 0, 0) 4 := q4
  have q7 : Γ_40 (39, 0, 0) 7 = Γ (39, 0, 0) 7 := q7
  have h1 : Γ (39, 0, 0) 1 ≤ Γ_40 (39, 0, 0) 1 ∧ Γ_40 (39, 0, 0) 1 ≤ T0 := h1
  have h8 : 0 ≤ Γ_40 (39, 0, 0) 8 ∧ Γ_40 (44, 22, 0) t0.toNat + Γ_40 (39, 0, 0) 8 ≤ Γ_40 (39, 0, 0) 1 := h8
  have hop : ∀ j : Nat, (j : Int) < Γ_40 (39, 0, 0) 8 → ent (Γ_40 (52, 400, 0) j) := hop
  have hln : Γ (44, 22, 0) t0.toNat ≤ Γ_40 (44, 22, 0) t0.toNat := hln
  have hl : lv_has ls 3 [(1, .int v1), (0, .ref o)] := hl
  refine lv_iload_n hx hb dX12_tested_12 rfl (lv_at hl 0 rfl) ?_
  refine lv_if_eq (tgt := 112) hx hb dX12_tested_13 (by decide) (fun c_41 => ?_) (fun c_41 => ?_)
  · have c_41 : v1.toInt = (0 : Int) := tl_eq c_41
    have hp := (hcase.resolve_left (by omega)).2
    refine lv_aload_n hx hb dX12_tested_112 rfl (lv_at hl 1 rfl) ?_
    obtain ⟨hpa, hpb, hpc, hpd, _⟩ := id hp
    obtain ⟨r_43, v_44, q_45, hf_42, hr_46, hv_47⟩ := (show tp_o_M L K 0 0 (Γ_40 (39, 0, 0)) (f_39 o) from hI.at ho)
    refine tl_si (tq_rV (As := []) (rest := []) ⟨hx, hb, hml, hown, hta⟩ (tp_P.pre hK hN hL hU hI hP) (tp_recv hK hP ho.1 hf_42 rfl) lk_X12_263 (r_X12_isInside l D cy H.size L K Γ_40 f_39 o (Γ_40 (52, 400, 0)) ho rfl (by first | omega | (simp only [Int32.toInt_toInt64]; omega) | decide | assumption)) rfl rfl ⟨Nat.le_of_ble_eq_true rfl, Nat.le_of_ble_eq_true rfl⟩ rfl hl.1 rfl (Nat.le_of_ble_eq_true rfl) dX12_tested_113 ⟨Nat.le_of_ble_eq_true rfl, Nat.le_of_ble_eq_true rfl⟩) (fun r_57 hw_56 => ?_)
    have hw_56 : tl_E r_57 (∃ k : Nat, (k : Int) < Γ_40 (39, 0, 0) 8 ∧ (Γ_40 (52, 400, 0)) k = 91) 1 0 := hw_56
    refine lv_if_eq (tgt := 134) hx hb dX12_tested_116 (by decide) (fun c_58 => ?_) (fun c_58 => ?_)
    · have c_58 := hw_56.f c_58
      refine lv_aload_n hx hb dX12_tested_134 rfl (lv_at hl 1 rfl) ?_
      refine lv_iconst (v := 1) hx hb dX12_tested_135 (by decide) ?_
      obtain ⟨hpa, hpb, hpc, hpd, _⟩ := id hp
      refine tq_cvR hS (hAf _ hS.1) (tq_rV (As := [.int 1]) (rest := []) ⟨hx, hb, hml, hown, hta⟩ (tp_P.pre hK hN hL hU hI hP) (tp_recv hK hP ho.1 hf_42 rfl) lk_X12_260 (r_X12_settles l D cy H.size L K Γ_40 f_39 o 1 τ T0 t0 a (1 + cn (Γ_40 (52, 400, 0)) (Γ_40 (39, 0, 0) 8).toNat) (Γ_40 (52, 400, 0)) ho ((hgr _ (by decide)).trans ht) (by first | omega | (simp only [Int32.toInt_toInt64]; omega) | decide | assumption) (by first | omega | (simp only [Int32.toInt_toInt64]; omega) | decide | assumption) (by first | omega | (simp only [Int32.toInt_toInt64]; omega) | decide | assumption) (by first | omega | (simp only [Int32.toInt_toInt64]; omega) | decide | assumption) rfl (by first | omega | (simp only [Int32.toInt_toInt64]; omega) | decide | assumption) (by first | omega | (simp only [Int32.toInt_toInt64]; omega) | decide | assumption) (by first | omega | (simp only [Int32.toInt_toInt64]; omega) | decide | assumption)) rfl rfl ⟨Nat.le_of_ble_eq_true rfl, Nat.le_of_ble_eq_true rfl⟩ rfl hl.1 rfl (Nat.le_of_ble_eq_true rfl) dX12_tested_136 ⟨Nat.le_of_ble_eq_true rfl, Nat.le_of_ble_eq_true rfl⟩) (fun f_61 Γ_63 H locs hw_59 hP hI hc_62 hcg_64 hS => ?_)
      have hD : va_D A (va_pl L f_61) := tp_D hL hAL
      have hfr := tp_fr2 hfr hc_62 (by decide)
      have hgr : ∀ κ : tk_K, κ.1 ∉ ([39, 43, 44, 52] : List Nat) → Γ_63 κ = Γ κ := tg_fr2 hgr hcg_64 (by decide)
      have hw_59 : ps (Γ_63 (43, 8800, 0)) t0 (Γ_63 (44, 22, 0) t0.toNat) (Γ_63 (39, 0, 0) 1) T0 (Γ_63 (39, 0, 0) 5) a (1 + cn (Γ_40 (52, 400, 0)) (Γ_63 (39, 0, 0) 8).toNat) ∧ fz (Γ_40 (43, 8800, 0)) (Γ_63 (43, 8800, 0)) (Γ_40 (44, 22, 0)) (Γ_63 (44, 22, 0)) t0 ∧ Γ_63 (39, 0, 0) 0 = Γ_40 (39, 0, 0) 0 ∧ Γ_63 (39, 0, 0) 1 = Γ_40 (39, 0, 0) 1 ∧ Γ_63 (39, 0, 0) 4 = Γ_40 (39, 0, 0) 4 ∧ Γ_63 (39, 0, 0) 5 = Γ_40 (39, 0, 0) 5 ∧ Γ_63 (39, 0, 0) 7 = Γ_40 (39, 0, 0) 7 ∧ (0 ≤ Γ_63 (39, 0, 0) 8 ∧ Γ_63 (39, 0, 0) 8 ≤ Γ_40 (39, 0, 0) 8) ∧ Γ_63 (44, 22, 0) t0.toNat + Γ_63 (39, 0, 0) 8 = Γ_40 (44, 22, 0) t0.toNat + Γ_40 (39, 0, 0) 8 ∧ (∀ j : Nat, (j : Int) < Γ_40 (39, 0, 0) 8 → (Γ_40 (52, 400, 0)) j = 91 → (j : Int) < Γ_63 (39, 0, 0) 8) ∧ (Γ_63 (39, 0, 0) 8 = 0 ∨ stren ((Γ_40 (52, 400, 0)) (Γ_63 (39, 0, 0) 8 - 1).toNat) < (1 : Int)) := hw_59
      obtain ⟨hp, hz9, hs0, hs1, hs4, hs5, hs7, hs8, hslm, hs91, hstp⟩ := hw_59
      have hz := hz.trans hz9
      have hfw := hfw.trans (hz9.fw (by omega))
      have hO : Γ_63 (52, 400, 0) = Γ_40 (52, 400, 0) := (hcg_64 (52, 400, 0) (by decide)).trans hO
      have hm0 : Γ_63 (39, 0, 0) 8 = 0 := by rcases hstp with q9 | q9; exact q9; exact Classical.byContradiction (fun q8 => by have q7 := stren_no q9; have q6 := hop (Γ_63 (39, 0, 0) 8 - 1).toNat (by omega); rcases q6 with q | q | q | q; exact q7.1 q; exact q7.2.1 q; exact q7.2.2 q; exact (by assumption : ¬ (∃ k : Nat, (k : Int) < Γ_40 (39, 0, 0) 8 ∧ (Γ_40 (52, 400, 0)) k = 91)) ⟨_, by omega, q⟩)
      have hp := hp.dd (show (1 : Int) = 1 + cn (Γ_40 (52, 400, 0)) (Γ_63 (39, 0, 0) 8).toNat from by rw [hm0]; rfl)
      refine lv_iconst (v := 1) hx hb dX12_tested_139 (by decide) ?_
      have hpo9 : tl_J (1 : Int32) (ps (Γ_63 (43, 8800, 0)) t0 (Γ_63 (44, 22, 0) t0.toNat) (Γ_63 (39, 0, 0) 1) T0 (Γ_63 (39, 0, 0) 5) a (1) ∧ Γ_63 (44, 22, 0) t0.toNat ≤ Γ_63 (39, 0, 0) 1 ∧ fz (Γ (43, 8800, 0)) (Γ_63 (43, 8800, 0)) (Γ (44, 22, 0)) (Γ_63 (44, 22, 0)) t0) ∧ Γ_63 (39, 0, 0) 0 = Γ (39, 0, 0) 0 ∧ Γ_63 (39, 0, 0) 4 = Γ (39, 0, 0) 4 ∧ Γ_63 (39, 0, 0) 7 = Γ (39, 0, 0) 7 ∧ Γ (39, 0, 0) 1 ≤ Γ_63 (39, 0, 0) 1 ∧ Γ_63 (39, 0, 0) 1 ≤ T0 ∧ fw (Γ (43, 8800, 0)) (Γ_63 (43, 8800, 0)) (Γ (44, 22, 0)) (Γ_63 (44, 22, 0)) t0 := ⟨(Or.inl ⟨rfl, ⟨hp, (by omega), hz⟩⟩), ⟨(by omega), (by omega), (by omega), (by omega), (by omega), hfw⟩⟩
      exact W.zret (ty := .boolean) (v := 1) hx hb hr rfl (fun t ht hW => ⟨⟨_, (f_61, Γ_63), rfl, hpo9, by rw [ht]; exact hP, hI, hfr, hgr⟩, hS.F ht⟩) hS.2.2 dX12_tested_140
    · have c_58 := hw_56.t c_58
      refine lv_aload_n hx hb dX12_tested_119 rfl (lv_at hl 1 rfl) ?_
      refine tq_ciR hS (hAf _ hS.1) (tq_rV (As := []) (rest := []) ⟨hx, hb, hml, hown, hta⟩ (tp_P.pre hK hN hL hU hI hP) (tp_recv hK hP ho.1 hf_42 rfl) lk_X12_167 (r_X12_see l D cy H.size L K Γ_40 f_39 o τ T0 ho ((hgr _ (by decide)).trans ht) (by first | omega | (simp only [Int32.toInt_toInt64]; omega) | decide | assumption) (by first | omega | (simp only [Int32.toInt_toInt64]; omega) | decide | assumption)) rfl rfl ⟨Nat.le_of_ble_eq_true rfl, Nat.le_of_ble_eq_true rfl⟩ rfl hl.1 rfl (Nat.le_of_ble_eq_true rfl) dX12_tested_120 ⟨Nat.le_of_ble_eq_true rfl, Nat.le_of_ble_eq_true rfl⟩) (fun r_66 f_67 Γ_69 H locs hw_65 hP hI hc_68 hcg_70 hS => ?_)
      have hD : va_D A (va_pl L f_67) := tp_D hL hAL
      have hfr := tp_fr2 hfr hc_68 (by decide)
      have hgr : ∀ κ : tk_K, κ.1 ∉ ([39, 43, 44, 52] : List Nat) → Γ_69 κ = Γ κ := tg_fr2 hgr hcg_70 (by decide)
      have hw_65 : Γ_69 (39, 0, 0) 0 = Γ_40 (39, 0, 0) 0 ∧ Γ_69 (39, 0, 0) 3 = Γ_40 (39, 0, 0) 3 ∧ Γ_69 (39, 0, 0) 4 = Γ_40 (39, 0, 0) 4 ∧ Γ_69 (39, 0, 0) 5 = Γ_40 (39, 0, 0) 5 ∧ Γ_69 (39, 0, 0) 6 = Γ_40 (39, 0, 0) 6 ∧ Γ_69 (39, 0, 0) 7 = Γ_40 (39, 0, 0) 7 ∧ Γ_69 (39, 0, 0) 8 = Γ_40 (39, 0, 0) 8 ∧ Γ_40 (39, 0, 0) 1 ≤ Γ_69 (39, 0, 0) 1 ∧ Γ_69 (39, 0, 0) 1 ≤ T0 ∧ (¬ τ (Γ_40 (39, 0, 0) 1).toNat = 32 → Γ_69 (39, 0, 0) 1 = Γ_40 (39, 0, 0) 1) ∧ ((r_66.toInt = -1 ∧ Γ_69 (39, 0, 0) 1 = T0) ∨ (0 ≤ r_66.toInt ∧ r_66.toInt ≤ 255 ∧ Γ_69 (39, 0, 0) 1 < T0 ∧ ¬ τ (Γ_69 (39, 0, 0) 1).toNat = 32)) := hw_65
      have hO : Γ_69 (52, 400, 0) = Γ_40 (52, 400, 0) := (hcg_70 (52, 400, 0) (by decide)).trans hO
      obtain ⟨hpa, hpb, hpc, hpd, _⟩ := id hp
      have hle := congrFun (hcg_70 (44, 22, 0) (by decide)) t0.toNat
      have hp : ps (Γ_69 (43, 8800, 0)) t0 (Γ_69 (44, 22, 0) t0.toNat) (Γ_69 (39, 0, 0) 1) T0 (Γ_69 (39, 0, 0) 5) a (1 + cn (Γ_40 (52, 400, 0)) (Γ_40 (39, 0, 0) 8).toNat) := hp.eq (hcg_70 (43, 8800, 0) (by decide)) rfl (congrFun (hcg_70 (44, 22, 0) (by decide)) _) (by omega) rfl (by omega)
      have hz : fz (Γ (43, 8800, 0)) (Γ_69 (43, 8800, 0)) (Γ (44, 22, 0)) (Γ_69 (44, 22, 0)) t0 := by rw [(hcg_70 (43, 8800, 0) (by decide)), (hcg_70 (44, 22, 0) (by decide))]; exact hz
      have hfw : fw (Γ (43, 8800, 0)) (Γ_69 (43, 8800, 0)) (Γ (44, 22, 0)) (Γ_69 (44, 22, 0)) t0 := by rw [(hcg_70 (43, 8800, 0) (by decide)), (hcg_70 (44, 22, 0) (by decide))]; exact hfw
      refine lv_pop hx hb dX12_tested_123 rfl ?_
      refine lv_aload_n hx hb dX12_tested_124 rfl (lv_at hl 1 rfl) ?_
      refine lv_iconst (v := 0) hx hb dX12_tested_125 (by decide) ?_
      refine lv_aload_n hx hb dX12_tested_126 rfl (lv_at hl 1 rfl) ?_
      obtain ⟨r_72, v_73, q_74, hf_71, hr_75, hv_76⟩ := (show tp_o_M L K 0 0 (Γ_69 (39, 0, 0)) (f_67 o) from hI.at ho)
      have hx_78 : (v_73 1).toInt = Γ_69 (39, 0, 0) 1 := hv_76 1 (by decide)
      refine tp_get (cy := cy) (ci := 12) (v := .int (v_73 1)) (C := RX12) (T := TX12) (N := 49) hx hb hta inlX12 hown hK hP ho.1 hf_71 rfl 17 (by decide) (hta _ wk_539) (fun _ h9 => h9) rfl dX12_tested_127 ?_
      refine tq_ciR hS (hAf _ hS.1) (tq_rV (As := [.int 0, .int (v_73 1)]) (rest := []) ⟨hx, hb, hml, hown, hta⟩ (tp_P.pre hK hN hL hU hI hP) (tp_recv hK hP ho.1 hf_71 rfl) lk_X12_184 (r_X12_fails l D cy H.size L K Γ_69 f_67 o 0 (v_73 1) ho) rfl rfl ⟨Nat.le_of_ble_eq_true rfl, Nat.le_of_ble_eq_true rfl⟩ rfl hl.1 rfl (Nat.le_of_ble_eq_true rfl) dX12_tested_130 ⟨Nat.le_of_ble_eq_true rfl, Nat.le_of_ble_eq_true rfl⟩) (fun r_86 f_87 Γ_89 H locs hw_85 hP hI hc_88 hcg_90 hS => ?_)
      have hD : va_D A (va_pl L f_87) := tp_D hL hAL
      have hfr := tp_fr2 hfr hc_88 (by decide)
      have hgr : ∀ κ : tk_K, κ.1 ∉ ([39, 43, 44, 52] : List Nat) → Γ_89 κ = Γ κ := tg_fr2 hgr hcg_90 (by decide)
      obtain ⟨rfl, hw_85⟩ := hw_85
      have hw_85 : Γ_89 (39, 0, 0) 0 = Γ_69 (39, 0, 0) 0 ∧ Γ_89 (39, 0, 0) 1 = Γ_69 (39, 0, 0) 1 ∧ Γ_89 (39, 0, 0) 3 = Γ_69 (39, 0, 0) 3 ∧ Γ_89 (39, 0, 0) 4 = Γ_69 (39, 0, 0) 4 ∧ Γ_89 (39, 0, 0) 5 = Γ_69 (39, 0, 0) 5 ∧ Γ_89 (39, 0, 0) 6 = Γ_69 (39, 0, 0) 6 ∧ Γ_89 (39, 0, 0) 7 = Γ_69 (39, 0, 0) 7 ∧ Γ_89 (39, 0, 0) 8 = Γ_69 (39, 0, 0) 8 := hw_85
      have hO : Γ_89 (52, 400, 0) = Γ_40 (52, 400, 0) := (hcg_90 (52, 400, 0) (by decide)).trans hO
      obtain ⟨hpa, hpb, hpc, hpd, _⟩ := id hp
      have hle := congrFun (hcg_90 (44, 22, 0) (by decide)) t0.toNat
      have hp : ps (Γ_89 (43, 8800, 0)) t0 (Γ_89 (44, 22, 0) t0.toNat) (Γ_89 (39, 0, 0) 1) T0 (Γ_89 (39, 0, 0) 5) a (1 + cn (Γ_40 (52, 400, 0)) (Γ_40 (39, 0, 0) 8).toNat) := hp.eq (hcg_90 (43, 8800, 0) (by decide)) rfl (congrFun (hcg_90 (44, 22, 0) (by decide)) _) (by omega) rfl (by omega)
      have hz : fz (Γ (43, 8800, 0)) (Γ_89 (43, 8800, 0)) (Γ (44, 22, 0)) (Γ_89 (44, 22, 0)) t0 := by rw [(hcg_90 (43, 8800, 0) (by decide)), (hcg_90 (44, 22, 0) (by decide))]; exact hz
      have hfw : fw (Γ (43, 8800, 0)) (Γ_89 (43, 8800, 0)) (Γ (44, 22, 0)) (Γ_89 (44, 22, 0)) t0 := by rw [(hcg_90 (43, 8800, 0) (by decide)), (hcg_90 (44, 22, 0) (by decide))]; exact hfw
      have hpo9 : tl_J (0 : Int32) (ps (Γ_89 (43, 8800, 0)) t0 (Γ_89 (44, 22, 0) t0.toNat) (Γ_89 (39, 0, 0) 1) T0 (Γ_89 (39, 0, 0) 5) a (1) ∧ Γ_89 (44, 22, 0) t0.toNat ≤ Γ_89 (39, 0, 0) 1 ∧ fz (Γ (43, 8800, 0)) (Γ_89 (43, 8800, 0)) (Γ (44, 22, 0)) (Γ_89 (44, 22, 0)) t0) ∧ Γ_89 (39, 0, 0) 0 = Γ (39, 0, 0) 0 ∧ Γ_89 (39, 0, 0) 4 = Γ (39, 0, 0) 4 ∧ Γ_89 (39, 0, 0) 7 = Γ (39, 0, 0) 7 ∧ Γ (39, 0, 0) 1 ≤ Γ_89 (39, 0, 0) 1 ∧ Γ_89 (39, 0, 0) 1 ≤ T0 ∧ fw (Γ (43, 8800, 0)) (Γ_89 (43, 8800, 0)) (Γ (44, 22, 0)) (Γ_89 (44, 22, 0)) t0 := ⟨(Or.inr rfl), ⟨(by omega), (by omega), (by omega), (by omega), (by omega), hfw⟩⟩
      exact W.zret (ty := .boolean) (v := 0) hx hb hr rfl (fun t ht hW => ⟨⟨_, (f_87, Γ_89), rfl, hpo9, by rw [ht]; exact hP, hI, hfr, hgr⟩, hS.F ht⟩) hS.2.2 dX12_tested_133
  · have c_41 : ¬ v1.toInt = (0 : Int) := tl_neq c_41
    have hv1 := (hcase.resolve_right (by omega)).1
    have hp := (hcase.resolve_right (by omega)).2
    refine lv_aload_n hx hb dX12_tested_16 rfl (lv_at hl 1 rfl) ?_
    obtain ⟨r_92, v_93, q_94, hf_91, hr_95, hv_96⟩ := (show tp_o_M L K 0 0 (Γ_40 (39, 0, 0)) (f_39 o) from hI.at ho)
    refine tq_ciR hS (hAf _ hS.1) (tq_rV (As := []) (rest := []) ⟨hx, hb, hml, hown, hta⟩ (tp_P.pre hK hN hL hU hI hP) (tp_recv hK hP ho.1 hf_91 rfl) lk_X12_266 (r_X12_fact l D cy H.size L K Γ_40 f_39 o τ T0 t0 a (cn (Γ_40 (52, 400, 0)) (Γ_40 (39, 0, 0) 8).toNat) ho ((hgr _ (by decide)).trans ht) (by first | omega | (simp only [Int32.toInt_toInt64]; omega) | decide | assumption) (by first | omega | (simp only [Int32.toInt_toInt64]; omega) | decide | assumption) (by first | omega | (simp only [Int32.toInt_toInt64]; omega) | decide | assumption) (by first | omega | (simp only [Int32.toInt_toInt64]; omega) | decide | assumption) (by first | omega | (simp only [Int32.toInt_toInt64]; omega) | decide | assumption) (by first | omega | (simp only [Int32.toInt_toInt64]; omega) | decide | assumption) (by first | omega | (simp only [Int32.toInt_toInt64]; omega) | decide | assumption)) rfl rfl ⟨Nat.le_of_ble_eq_true rfl, Nat.le_of_ble_eq_true rfl⟩ rfl hl.1 rfl (Nat.le_of_ble_eq_true rfl) dX12_tested_17 ⟨Nat.le_of_ble_eq_true rfl, Nat.le_of_ble_eq_true rfl⟩) (fun r_106 f_107 Γ_109 H locs hw_105 hP hI hc_108 hcg_110 hS => ?_)
    have hD : va_D A (va_pl L f_107) := tp_D hL hAL
    have hfr := tp_fr2 hfr hc_108 (by decide)
    have hgr : ∀ κ : tk_K, κ.1 ∉ ([39, 43, 44, 52] : List Nat) → Γ_109 κ = Γ κ := tg_fr2 hgr hcg_110 (by decide)
    obtain ⟨hE_111, hw_105⟩ := hw_105
    have hE_111 : tl_J r_106 (ps (Γ_109 (43, 8800, 0)) t0 (Γ_109 (44, 22, 0) t0.toNat) (Γ_109 (39, 0, 0) 1) T0 (Γ_109 (39, 0, 0) 5) a (1 + cn (Γ_109 (52, 400, 0)) (Γ_109 (39, 0, 0) 8).toNat) ∧ (0 ≤ Γ_109 (39, 0, 0) 8 ∧ Γ_109 (44, 22, 0) t0.toNat + Γ_109 (39, 0, 0) 8 ≤ Γ_109 (39, 0, 0) 1) ∧ fz (Γ_40 (43, 8800, 0)) (Γ_109 (43, 8800, 0)) (Γ_40 (44, 22, 0)) (Γ_109 (44, 22, 0)) t0 ∧ (∀ j : Nat, (j : Int) < Γ_109 (39, 0, 0) 8 → ent (Γ_109 (52, 400, 0) j))) := hE_111
    have hw_105 : Γ_109 (39, 0, 0) 0 = Γ_40 (39, 0, 0) 0 ∧ Γ_109 (39, 0, 0) 4 = Γ_40 (39, 0, 0) 4 ∧ Γ_109 (39, 0, 0) 7 = Γ_40 (39, 0, 0) 7 ∧ Γ_40 (39, 0, 0) 1 ≤ Γ_109 (39, 0, 0) 1 ∧ Γ_109 (39, 0, 0) 1 ≤ T0 ∧ fw (Γ_40 (43, 8800, 0)) (Γ_109 (43, 8800, 0)) (Γ_40 (44, 22, 0)) (Γ_109 (44, 22, 0)) t0 := hw_105
    have hOp := hO
    have hfw := hfw.trans hw_105.2.2.2.2.2
    refine lv_if_ne (tgt := 25) hx hb dX12_tested_20 (by decide) (fun c_112 => ?_) (fun c_112 => ?_)
    · have c_112 := hE_111.t c_112
      obtain ⟨hp, hsl, hz9, hop⟩ := c_112
      have hz := hz.trans hz9
      have hO : Γ_109 (52, 400, 0) = Γ_109 (52, 400, 0) := rfl
      refine lv_aload_n hx hb dX12_tested_25 rfl (lv_at hl 1 rfl) ?_
      obtain ⟨hpa, hpb, hpc, hpd, _⟩ := id hp
      obtain ⟨r_114, v_115, q_116, hf_113, hr_117, hv_118⟩ := (show tp_o_M L K 0 0 (Γ_109 (39, 0, 0)) (f_107 o) from hI.at ho)
      refine tq_cvR hS (hAf _ hS.1) (tq_rV (As := []) (rest := []) ⟨hx, hb, hml, hown, hta⟩ (tp_P.pre hK hN hL hU hI hP) (tp_recv hK hP ho.1 hf_113 rfl) lk_X12_269 (r_X12_closes l D cy H.size L K Γ_109 f_107 o τ T0 t0 a (1 + cn (Γ_109 (52, 400, 0)) (Γ_109 (39, 0, 0) 8).toNat) (Γ_109 (52, 400, 0)) ho ((hgr _ (by decide)).trans ht) (by first | omega | (simp only [Int32.toInt_toInt64]; omega) | decide | assumption) (by first | omega | (simp only [Int32.toInt_toInt64]; omega) | decide | assumption) (by first | omega | (simp only [Int32.toInt_toInt64]; omega) | decide | assumption) (by first | omega | (simp only [Int32.toInt_toInt64]; omega) | decide | assumption) rfl (by first | omega | (simp only [Int32.toInt_toInt64]; omega) | decide | assumption) (by first | omega | (simp only [Int32.toInt_toInt64]; omega) | decide | assumption)) rfl rfl ⟨Nat.le_of_ble_eq_true rfl, Nat.le_of_ble_eq_true rfl⟩ rfl hl.1 rfl (Nat.le_of_ble_eq_true rfl) dX12_tested_26 ⟨Nat.le_of_ble_eq_true rfl, Nat.le_of_ble_eq_true rfl⟩) (fun f_129 Γ_131 H locs hw_127 hP hI hc_130 hcg_132 hS => ?_)
      have hD : va_D A (va_pl L f_129) := tp_D hL hAL
      have hfr := tp_fr2 hfr hc_130 (by decide)
      have hgr : ∀ κ : tk_K, κ.1 ∉ ([39, 43, 44, 52] : List Nat) → Γ_131 κ = Γ κ := tg_fr2 hgr hcg_132 (by decide)
      have hw_127 : ps (Γ_131 (43, 8800, 0)) t0 (Γ_131 (44, 22, 0) t0.toNat) (Γ_131 (39, 0, 0) 1) T0 (Γ_131 (39, 0, 0) 5) a (1 + cn (Γ_109 (52, 400, 0)) (Γ_131 (39, 0, 0) 8).toNat) ∧ fz (Γ_109 (43, 8800, 0)) (Γ_131 (43, 8800, 0)) (Γ_109 (44, 22, 0)) (Γ_131 (44, 22, 0)) t0 ∧ Γ_131 (39, 0, 0) 0 = Γ_109 (39, 0, 0) 0 ∧ Γ_131 (39, 0, 0) 4 = Γ_109 (39, 0, 0) 4 ∧ Γ_131 (39, 0, 0) 5 = Γ_109 (39, 0, 0) 5 ∧ Γ_131 (39, 0, 0) 7 = Γ_109 (39, 0, 0) 7 ∧ Γ_109 (39, 0, 0) 1 ≤ Γ_131 (39, 0, 0) 1 ∧ Γ_131 (39, 0, 0) 1 ≤ T0 ∧ (0 ≤ Γ_131 (39, 0, 0) 8 ∧ Γ_131 (39, 0, 0) 8 ≤ Γ_109 (39, 0, 0) 8) ∧ Γ_131 (44, 22, 0) t0.toNat + Γ_131 (39, 0, 0) 8 ≤ Γ_131 (39, 0, 0) 1 := hw_127
      obtain ⟨hp, hz9, hc0, hc4, hc5, hc7, hc1, hc1b, hc8, hclm⟩ := hw_127
      have hz := hz.trans hz9
      have hfw := hfw.trans (hz9.fw (by omega))
      have hO : Γ_131 (52, 400, 0) = Γ_109 (52, 400, 0) := (hcg_132 (52, 400, 0) (by decide)).trans hO
      have hjn77 : ∀ (f_133 : Nat → va_E) (Γ_134 : tk_G) (u1 : Int32) (u2 : Int32) (H : Heap) (locs : List Loc) (ls : Array Slot), (ps (Γ_134 (43, 8800, 0)) t0 (Γ_134 (44, 22, 0) t0.toNat) (Γ_134 (39, 0, 0) 1) T0 (Γ_134 (39, 0, 0) 5) a (1 + cn (Γ_109 (52, 400, 0)) (Γ_131 (39, 0, 0) 8).toNat)) → (Γ_134 (52, 400, 0) = Γ_109 (52, 400, 0)) → (fz (Γ (43, 8800, 0)) (Γ_134 (43, 8800, 0)) (Γ (44, 22, 0)) (Γ_134 (44, 22, 0)) t0) → (fw (Γ (43, 8800, 0)) (Γ_134 (43, 8800, 0)) (Γ (44, 22, 0)) (Γ_134 (44, 22, 0)) t0) → (Γ_134 (39, 0, 0) 0 = Γ (39, 0, 0) 0) → (Γ_134 (39, 0, 0) 4 = Γ (39, 0, 0) 4) → (Γ_134 (39, 0, 0) 7 = Γ (39, 0, 0) 7) → (Γ (39, 0, 0) 1 ≤ Γ_134 (39, 0, 0) 1 ∧ Γ_134 (39, 0, 0) 1 ≤ T0) → (Γ_134 (39, 0, 0) 8 = Γ_131 (39, 0, 0) 8 ∧ 0 ≤ Γ_134 (39, 0, 0) 8 ∧ Γ_134 (44, 22, 0) t0.toNat + Γ_134 (39, 0, 0) 8 ≤ Γ_134 (39, 0, 0) 1) → (Γ_131 (39, 0, 0) 1 ≤ Γ_134 (39, 0, 0) 1) → (tr_L τ T0 (Γ_134 (39, 0, 0) 1)) → (u1.toInt = 1) → (u2.toInt = 12 ∨ u2.toInt = 13) → va_P D vwCl (va_pl L f_133) H → tp_I cy L K Γ_134 f_133 → (∀ b, (K b).1 ∉ ([39, 43, 44, 52] : List Nat) → f_133 b = f b) → (∀ κ : tk_K, κ.1 ∉ ([39, 43, 44, 52] : List Nat) → Γ_134 κ = Γ κ) → va_S A s.heap H locs → lv_has ls 3 [(1, .int u1), (2, .int u2), (0, .ref o)] → W p l e ((headSpec (tl_w yX12_tested cX12_tested 3 (some .boolean)) ({ frames := 8, cells := 0, slots := 0, locals := 176 })).room) s m #[.ref o] below meth c H locs 0 0 (MQ below (va_Qi (fun (r : Int32) (u : (Nat → va_E) × tk_G) => tl_J r (ps (u.2 (43, 8800, 0)) t0 (u.2 (44, 22, 0) t0.toNat) (u.2 (39, 0, 0) 1) T0 (u.2 (39, 0, 0) 5) a (1) ∧ u.2 (44, 22, 0) t0.toNat ≤ u.2 (39, 0, 0) 1 ∧ fz (Γ (43, 8800, 0)) (u.2 (43, 8800, 0)) (Γ (44, 22, 0)) (u.2 (44, 22, 0)) t0) ∧ u.2 (39, 0, 0) 0 = Γ (39, 0, 0) 0 ∧ u.2 (39, 0, 0) 4 = Γ (39, 0, 0) 4 ∧ u.2 (39, 0, 0) 7 = Γ (39, 0, 0) 7 ∧ Γ (39, 0, 0) 1 ≤ u.2 (39, 0, 0) 1 ∧ u.2 (39, 0, 0) 1 ≤ T0 ∧ fw (Γ (43, 8800, 0)) (u.2 (43, 8800, 0)) (Γ (44, 22, 0)) (u.2 (44, 22, 0)) t0) (tp_BG D cy L K Γ f [39, 43, 44, 52]) A) #[.ref o] s 0 0 A) (F0 m 77 ls []) := by
        intro f_133 Γ_134 u1 u2 H locs ls hp hO hz hfw q0 q4 q7 hx9 h8 hk1 hl4 hu1 hu2 hP hI hfr hgr hS hl
        have hD : va_D A (va_pl L f_133) := tp_D hL hAL
        refine lv_aload_n hx hb dX12_tested_77 rfl (lv_at hl 2 rfl) ?_
        obtain ⟨r_136, v_137, q_138, hf_135, hr_139, hv_140⟩ := (show tp_o_M L K 0 0 (Γ_134 (39, 0, 0)) (f_133 o) from hI.at ho)
        refine tq_cvR hS (hAf _ hS.1) (tq_rV (As := []) (rest := []) ⟨hx, hb, hml, hown, hta⟩ (tp_P.pre hK hN hL hU hI hP) (tp_recv hK hP ho.1 hf_135 rfl) lk_X12_178 (r_X12_passWord l D cy H.size L K Γ_134 f_133 o τ T0 ho ((hgr _ (by decide)).trans ht) (by first | omega | (simp only [Int32.toInt_toInt64]; omega) | decide | assumption) (by first | omega | (simp only [Int32.toInt_toInt64]; omega) | decide | assumption)) rfl rfl ⟨Nat.le_of_ble_eq_true rfl, Nat.le_of_ble_eq_true rfl⟩ rfl hl.1 rfl (Nat.le_of_ble_eq_true rfl) dX12_tested_78 ⟨Nat.le_of_ble_eq_true rfl, Nat.le_of_ble_eq_true rfl⟩) (fun f_151 Γ_153 H locs hw_149 hP hI hc_152 hcg_154 hS => ?_)
        have hD : va_D A (va_pl L f_151) := tp_D hL hAL
        have hfr := tp_fr2 hfr hc_152 (by decide)
        have hgr : ∀ κ : tk_K, κ.1 ∉ ([39, 43, 44, 52] : List Nat) → Γ_153 κ = Γ κ := tg_fr2 hgr hcg_154 (by decide)
        have hw_149 : Γ_153 (39, 0, 0) 0 = Γ_134 (39, 0, 0) 0 ∧ Γ_153 (39, 0, 0) 3 = Γ_134 (39, 0, 0) 3 ∧ Γ_153 (39, 0, 0) 4 = Γ_134 (39, 0, 0) 4 ∧ Γ_153 (39, 0, 0) 5 = Γ_134 (39, 0, 0) 5 ∧ Γ_153 (39, 0, 0) 6 = Γ_134 (39, 0, 0) 6 ∧ Γ_153 (39, 0, 0) 7 = Γ_134 (39, 0, 0) 7 ∧ Γ_153 (39, 0, 0) 8 = Γ_134 (39, 0, 0) 8 ∧ Γ_134 (39, 0, 0) 1 ≤ Γ_153 (39, 0, 0) 1 ∧ Γ_153 (39, 0, 0) 1 ≤ T0 ∧ (tr_L τ T0 (Γ_134 (39, 0, 0) 1) → Γ_134 (39, 0, 0) 1 + 1 ≤ Γ_153 (39, 0, 0) 1) := hw_149
        have hpw := hw_149.2.2.2.2.2.2.2.2.2 hl4
        have hO : Γ_153 (52, 400, 0) = Γ_109 (52, 400, 0) := (hcg_154 (52, 400, 0) (by decide)).trans hO
        obtain ⟨hpa, hpb, hpc, hpd, _⟩ := id hp
        have hle := congrFun (hcg_154 (44, 22, 0) (by decide)) t0.toNat
        have hp : ps (Γ_153 (43, 8800, 0)) t0 (Γ_153 (44, 22, 0) t0.toNat) (Γ_153 (39, 0, 0) 1) T0 (Γ_153 (39, 0, 0) 5) a (1 + cn (Γ_109 (52, 400, 0)) (Γ_131 (39, 0, 0) 8).toNat) := hp.eq (hcg_154 (43, 8800, 0) (by decide)) rfl (congrFun (hcg_154 (44, 22, 0) (by decide)) _) (by omega) rfl (by omega)
        have hz : fz (Γ (43, 8800, 0)) (Γ_153 (43, 8800, 0)) (Γ (44, 22, 0)) (Γ_153 (44, 22, 0)) t0 := by rw [(hcg_154 (43, 8800, 0) (by decide)), (hcg_154 (44, 22, 0) (by decide))]; exact hz
        have hfw : fw (Γ (43, 8800, 0)) (Γ_153 (43, 8800, 0)) (Γ (44, 22, 0)) (Γ_153 (44, 22, 0)) t0 := by rw [(hcg_154 (43, 8800, 0) (by decide)), (hcg_154 (44, 22, 0) (by decide))]; exact hfw
        refine lv_aload_n hx hb dX12_tested_81 rfl (lv_at hl 2 rfl) ?_
        refine lv_iload_n hx hb dX12_tested_82 rfl (lv_at hl 1 rfl) ?_
        refine tl_si (tq_rS (As := [.int u2]) (rest := [.ref o]) ⟨hx, hb, hml, hown, hta⟩ (tp_P.pre hK hN hL hU hI hP) lk_X12_225 (r_X12_strength l D cy H.size L K Γ_153 f_151 u2 ) rfl rfl ⟨Nat.le_of_ble_eq_true rfl, Nat.le_of_ble_eq_true rfl⟩ rfl hl.1 rfl (Nat.le_of_ble_eq_true rfl) dX12_tested_83 ⟨Nat.le_of_ble_eq_true rfl, Nat.le_of_ble_eq_true rfl⟩) (fun r_156 hw_155 => ?_)
        have hw_155 : (u2.toInt = 13 ∧ r_156.toInt = 1) ∨ (u2.toInt = 12 ∧ r_156.toInt = 2) ∨ (u2.toInt = 11 ∧ r_156.toInt = 3) ∨ ((¬ u2.toInt = 13 ∧ ¬ u2.toInt = 12 ∧ ¬ u2.toInt = 11) ∧ r_156.toInt = 0) := hw_155
        obtain ⟨hpa, hpb, hpc, hpd, _⟩ := id hp
        obtain ⟨r_158, v_159, q_160, hf_157, hr_161, hv_162⟩ := (show tp_o_M L K 0 0 (Γ_153 (39, 0, 0)) (f_151 o) from hI.at ho)
        refine tq_cvR hS (hAf _ hS.1) (tq_rV (As := [.int r_156]) (rest := []) ⟨hx, hb, hml, hown, hta⟩ (tp_P.pre hK hN hL hU hI hP) (tp_recv hK hP ho.1 hf_157 rfl) lk_X12_260 (r_X12_settles l D cy H.size L K Γ_153 f_151 o r_156 τ T0 t0 a (1 + cn (Γ_109 (52, 400, 0)) (Γ_131 (39, 0, 0) 8).toNat) (Γ_109 (52, 400, 0)) ho ((hgr _ (by decide)).trans ht) (by first | omega | (simp only [Int32.toInt_toInt64]; omega) | decide | assumption) (by first | omega | (simp only [Int32.toInt_toInt64]; omega) | decide | assumption) (by first | omega | (simp only [Int32.toInt_toInt64]; omega) | decide | assumption) (by first | omega | (simp only [Int32.toInt_toInt64]; omega) | decide | assumption) hO (by first | omega | (simp only [Int32.toInt_toInt64]; omega) | decide | assumption) (by rw [show Γ_153 (39, 0, 0) 8 = Γ_131 (39, 0, 0) 8 from by omega]) (by first | omega | (simp only [Int32.toInt_toInt64]; omega) | decide | assumption)) rfl rfl ⟨Nat.le_of_ble_eq_true rfl, Nat.le_of_ble_eq_true rfl⟩ rfl hl.1 rfl (Nat.le_of_ble_eq_true rfl) dX12_tested_86 ⟨Nat.le_of_ble_eq_true rfl, Nat.le_of_ble_eq_true rfl⟩) (fun f_173 Γ_175 H locs hw_171 hP hI hc_174 hcg_176 hS => ?_)
        have hD : va_D A (va_pl L f_173) := tp_D hL hAL
        have hfr := tp_fr2 hfr hc_174 (by decide)
        have hgr : ∀ κ : tk_K, κ.1 ∉ ([39, 43, 44, 52] : List Nat) → Γ_175 κ = Γ κ := tg_fr2 hgr hcg_176 (by decide)
        have hw_171 : ps (Γ_175 (43, 8800, 0)) t0 (Γ_175 (44, 22, 0) t0.toNat) (Γ_175 (39, 0, 0) 1) T0 (Γ_175 (39, 0, 0) 5) a (1 + cn (Γ_109 (52, 400, 0)) (Γ_175 (39, 0, 0) 8).toNat) ∧ fz (Γ_153 (43, 8800, 0)) (Γ_175 (43, 8800, 0)) (Γ_153 (44, 22, 0)) (Γ_175 (44, 22, 0)) t0 ∧ Γ_175 (39, 0, 0) 0 = Γ_153 (39, 0, 0) 0 ∧ Γ_175 (39, 0, 0) 1 = Γ_153 (39, 0, 0) 1 ∧ Γ_175 (39, 0, 0) 4 = Γ_153 (39, 0, 0) 4 ∧ Γ_175 (39, 0, 0) 5 = Γ_153 (39, 0, 0) 5 ∧ Γ_175 (39, 0, 0) 7 = Γ_153 (39, 0, 0) 7 ∧ (0 ≤ Γ_175 (39, 0, 0) 8 ∧ Γ_175 (39, 0, 0) 8 ≤ Γ_153 (39, 0, 0) 8) ∧ Γ_175 (44, 22, 0) t0.toNat + Γ_175 (39, 0, 0) 8 = Γ_153 (44, 22, 0) t0.toNat + Γ_153 (39, 0, 0) 8 ∧ (∀ j : Nat, (j : Int) < Γ_153 (39, 0, 0) 8 → (Γ_109 (52, 400, 0)) j = 91 → (j : Int) < Γ_175 (39, 0, 0) 8) ∧ (Γ_175 (39, 0, 0) 8 = 0 ∨ stren ((Γ_109 (52, 400, 0)) (Γ_175 (39, 0, 0) 8 - 1).toNat) < r_156.toInt) := hw_171
        obtain ⟨hp, hz9, hs0, hs1, hs4, hs5, hs7, hs8, hslm, hs91, hstp⟩ := hw_171
        have hz := hz.trans hz9
        have hfw := hfw.trans (hz9.fw (by omega))
        have hO : Γ_175 (52, 400, 0) = Γ_109 (52, 400, 0) := (hcg_176 (52, 400, 0) (by decide)).trans hO
        refine lv_aload_n hx hb dX12_tested_89 rfl (lv_at hl 2 rfl) ?_
        obtain ⟨r_178, v_179, q_180, hf_177, hr_181, hv_182⟩ := (show tp_o_M L K 0 0 (Γ_175 (39, 0, 0)) (f_173 o) from hI.at ho)
        have hx_183 : (v_179 0).toInt = Γ_175 (39, 0, 0) 0 := hv_182 0 (by decide)
        have hx_184 : (v_179 1).toInt = Γ_175 (39, 0, 0) 1 := hv_182 1 (by decide)
        have hx_185 : (v_179 3).toInt = Γ_175 (39, 0, 0) 3 := hv_182 3 (by decide)
        have hx_186 : (v_179 4).toInt = Γ_175 (39, 0, 0) 4 := hv_182 4 (by decide)
        have hx_187 : (v_179 5).toInt = Γ_175 (39, 0, 0) 5 := hv_182 5 (by decide)
        have hx_188 : (v_179 6).toInt = Γ_175 (39, 0, 0) 6 := hv_182 6 (by decide)
        have hx_189 : (v_179 7).toInt = Γ_175 (39, 0, 0) 7 := hv_182 7 (by decide)
        have hx_190 : (v_179 8).toInt = Γ_175 (39, 0, 0) 8 := hv_182 8 (by decide)
        refine tp_get (cy := cy) (ci := 12) (v := .ref (r_178 16)) (C := RX12) (T := TX12) (N := 49) hx hb hta inlX12 hown hK hP ho.1 hf_177 rfl 24 (by decide) (hta _ wk_166) (fun _ h9 => h9) rfl dX12_tested_90 ?_
        refine lv_aload_n hx hb dX12_tested_93 rfl (lv_at hl 2 rfl) ?_
        refine tp_get (cy := cy) (ci := 12) (v := .int (v_179 8)) (C := RX12) (T := TX12) (N := 49) hx hb hta inlX12 hown hK hP ho.1 hf_177 rfl 25 (by decide) (hta _ wk_657) (fun _ h9 => h9) rfl dX12_tested_94 ?_
        refine lv_iload_n hx hb dX12_tested_97 rfl (lv_at hl 1 rfl) ?_
        obtain ⟨hpa, hpb, hpc, hpd, _⟩ := id hp
        obtain ⟨g_192, hf_191, hg_193⟩ := (show tp_gi cy (400) (Γ_175 (52, 400, 0)) (f_173 (r_178 16)) from hI.at (show tp_r L K 52 400 0 (r_178 16) from hr_181 16 (by decide)))
        have hn_194 : vp_in (v_179 8) (400) := tl_in (by omega) (by omega)
        have hj_195 : (v_179 8).toNatClampNeg = (Γ_175 (39, 0, 0) 8).toNat := by show (v_179 8).toInt.toNat = _; omega
        have hv_196 : u2.toInt = u2.toInt := rfl
        obtain ⟨Γ_197, eΓ_197⟩ : ∃ y : tk_G, y = tg Γ_175 (52, 400, 0) ((Γ_175 (39, 0, 0) 8).toNat) u2.toInt := ⟨_, rfl⟩
        have hI9 : tp_I cy L K Γ_197 (va_up f_173 (r_178 16) (.inl (cy 0, 400, .inl (upd g_192 (v_179 8).toNatClampNeg u2)))) := by have q9 : tg Γ_175 (52, 400, 0) ((Γ_175 (39, 0, 0) 8).toNat) u2.toInt = tg Γ_175 (52, 400, 0) (v_179 8).toNatClampNeg u2.toInt := (by rw [hj_195, hv_196]); rw [eΓ_197, q9]; exact hI.setg hU rfl (show tp_r L K 52 400 0 (r_178 16) from hr_181 16 (by decide)) (show tp_gi cy (400) (tgu (Γ_175 (52, 400, 0)) _ _) _ from ⟨_, rfl, tp_gi_upd hg_193⟩)
        have hfr9 : ∀ b, (K b).1 ∉ ([39, 43, 44, 52] : List Nat) → va_up f_173 (r_178 16) (.inl (cy 0, 400, .inl (upd g_192 (v_179 8).toNatClampNeg u2))) b = f b := tp_fr hfr (show tp_r L K 52 400 0 (r_178 16) from hr_181 16 (by decide)) (by decide)
        refine tp_iast (cy := cy) hx hb hK hP hD hS (show tp_r L K 52 400 0 (r_178 16) from hr_181 16 (by decide)).1 hf_191 hn_194 dX12_tested_98 (fun H locs hP hD hS => ?_)
        have hP : va_P D vwCl (va_pl L (va_up f_173 (r_178 16) (.inl (cy 0, 400, .inl (upd g_192 (v_179 8).toNatClampNeg u2))))) H := hP
        generalize hfe : va_up f_173 (r_178 16) (.inl (cy 0, 400, .inl (upd g_192 (v_179 8).toNatClampNeg u2))) = f_198 at hP hI9 hfr9
        have hD : va_D A (va_pl L f_198) := tp_D hL hAL
        have hf_199 := (show f_198 o = _ from by rw [← hfe, va_up_ne _ _ (tp_ne ho (show tp_r L K 52 400 0 (r_178 16) from hr_181 16 (by decide)) (by decide))]).trans hf_177
        have hf_200 : f_198 (r_178 16) = .inl (cy 0, 400, .inl (upd g_192 (v_179 8).toNatClampNeg u2)) := by rw [← hfe]; exact va_up_self _ _ _
        clear hfe
        have hI := hI9
        have hfr := hfr9
        clear hI9 hfr9
        have wsΓ_197 : Γ_197 (52, 400, 0) ((Γ_175 (39, 0, 0) 8).toNat) = u2.toInt := by rw [eΓ_197]; exact tg_s
        have hgr : ∀ κ : tk_K, κ.1 ∉ ([39, 43, 44, 52] : List Nat) → Γ_197 κ = Γ κ := tg_fr hgr eΓ_197 (by decide)
        have hv_201 : ∀ i : Nat, i < 16 → (v_179 i).toInt = Γ_197 (39, 0, 0) i := fun i hi => by rw [eΓ_197, tg_r (by decide)]; exact hv_182 i hi
        have hx_202 : (v_179 0).toInt = Γ_197 (39, 0, 0) 0 := hv_201 0 (by decide)
        have hx_203 : (v_179 1).toInt = Γ_197 (39, 0, 0) 1 := hv_201 1 (by decide)
        have hx_204 : (v_179 3).toInt = Γ_197 (39, 0, 0) 3 := hv_201 3 (by decide)
        have hx_205 : (v_179 4).toInt = Γ_197 (39, 0, 0) 4 := hv_201 4 (by decide)
        have hx_206 : (v_179 5).toInt = Γ_197 (39, 0, 0) 5 := hv_201 5 (by decide)
        have hx_207 : (v_179 6).toInt = Γ_197 (39, 0, 0) 6 := hv_201 6 (by decide)
        have hx_208 : (v_179 7).toInt = Γ_197 (39, 0, 0) 7 := hv_201 7 (by decide)
        have hx_209 : (v_179 8).toInt = Γ_197 (39, 0, 0) 8 := hv_201 8 (by decide)
        obtain ⟨hpa, hpb, hpc, hpd, _⟩ := id hp
        have hle := congrFun (show Γ_197 (44, 22, 0) = _ from by rw [eΓ_197, tg_rf (by decide)]) t0.toNat
        have hp : ps (Γ_197 (43, 8800, 0)) t0 (Γ_197 (44, 22, 0) t0.toNat) (Γ_197 (39, 0, 0) 1) T0 (Γ_197 (39, 0, 0) 5) a (1 + cn (Γ_109 (52, 400, 0)) (Γ_175 (39, 0, 0) 8).toNat) := hp.eq (show Γ_197 (43, 8800, 0) = _ from by rw [eΓ_197, tg_rf (by decide)]) rfl (congrFun (show Γ_197 (44, 22, 0) = _ from by rw [eΓ_197, tg_rf (by decide)]) _) (by omega) rfl (by omega)
        have hz : fz (Γ (43, 8800, 0)) (Γ_197 (43, 8800, 0)) (Γ (44, 22, 0)) (Γ_197 (44, 22, 0)) t0 := by rw [(show Γ_197 (43, 8800, 0) = _ from by rw [eΓ_197, tg_rf (by decide)]), (show Γ_197 (44, 22, 0) = _ from by rw [eΓ_197, tg_rf (by decide)])]; exact hz
        have hfw : fw (Γ (43, 8800, 0)) (Γ_197 (43, 8800, 0)) (Γ (44, 22, 0)) (Γ_197 (44, 22, 0)) t0 := by rw [(show Γ_197 (43, 8800, 0) = _ from by rw [eΓ_197, tg_rf (by decide)]), (show Γ_197 (44, 22, 0) = _ from by rw [eΓ_197, tg_rf (by decide)])]; exact hfw
        have hO : Γ_197 (52, 400, 0) = tgu (Γ_109 (52, 400, 0)) (Γ_175 (39, 0, 0) 8).toNat u2.toInt := by rw [eΓ_197, tg_f, hO]
        refine lv_aload_n hx hb dX12_tested_99 rfl (lv_at hl 2 rfl) ?_
        refine lv_dup hx hb dX12_tested_100 rfl ?_
        refine tp_get (cy := cy) (ci := 12) (v := .int (v_179 8)) (C := RX12) (T := TX12) (N := 49) hx hb hta inlX12 hown hK hP ho.1 hf_199 rfl 25 (by decide) (hta _ wk_657) (fun _ h9 => h9) rfl dX12_tested_101 ?_
        refine lv_iconst (v := 1) hx hb dX12_tested_104 (by decide) ?_
        refine lv_iadd hx hb dX12_tested_105 ?_
        refine lv_topi (fun z_210 ez_210 => ?_)
        try have iz_210 : z_210.toInt = (v_179 8).toInt + (1 : Int) := by rw [ez_210]; exact tl_addN (v_179 8) 1 rfl rfl (by omega) (by omega)
        obtain ⟨Γ_211, eΓ_211⟩ : ∃ y : tk_G, y = tg Γ_197 (39, 0, 0) 8 z_210.toInt := ⟨_, rfl⟩
        have hv_212 : ∀ i : Nat, i < 16 → ((upd v_179 8 z_210) i).toInt = Γ_211 (39, 0, 0) i := by rw [eΓ_211, tg_f]; exact tp_gi_upd hv_201
        have hI9 : tp_I cy L K Γ_211 (va_up f_198 o (.inr (12, [.ref (r_178 0), .ref (r_178 1), .int (v_179 0), .ref (r_178 2), .ref (r_178 3), .ref (r_178 4), .ref (r_178 5), .ref (r_178 6), .ref (r_178 7), .ref (r_178 8), .ref (r_178 9), .ref (r_178 10), .ref (r_178 11), .ref (r_178 12), .ref (r_178 13), .ref (r_178 14), .ref (r_178 15), .int (v_179 1), .int (v_179 2), .int (v_179 3), .int (v_179 4), .int (v_179 5), .int (v_179 6), .int (v_179 7), .ref (r_178 16), .int z_210, .ref (r_178 17), .int (v_179 9), .ref (r_178 18), .long q_180, .ref (r_178 19), .ref (r_178 20), .int (v_179 10), .int (v_179 11), .int (v_179 12), .ref (r_178 21), .ref (r_178 22), .int (v_179 13), .ref (r_178 23), .int (v_179 14), .int (v_179 15), .ref (r_178 24), .ref (r_178 25), .ref (r_178 26), .ref (r_178 27), .ref (r_178 28), .ref (r_178 29), .ref (r_178 30), .ref (r_178 31)]))) := by have q9 := hv_212; rw [eΓ_211, tg_f] at q9; rw [eΓ_211]; exact hI.setg hU rfl ho (show tp_o_M L K 0 0 (tgu (Γ_197 (39, 0, 0)) 8 z_210.toInt) _ from ⟨r_178, (upd v_179 8 z_210), q_180, rfl, hr_181, q9⟩)
        have hfr9 : ∀ b, (K b).1 ∉ ([39, 43, 44, 52] : List Nat) → va_up f_198 o (.inr (12, [.ref (r_178 0), .ref (r_178 1), .int (v_179 0), .ref (r_178 2), .ref (r_178 3), .ref (r_178 4), .ref (r_178 5), .ref (r_178 6), .ref (r_178 7), .ref (r_178 8), .ref (r_178 9), .ref (r_178 10), .ref (r_178 11), .ref (r_178 12), .ref (r_178 13), .ref (r_178 14), .ref (r_178 15), .int (v_179 1), .int (v_179 2), .int (v_179 3), .int (v_179 4), .int (v_179 5), .int (v_179 6), .int (v_179 7), .ref (r_178 16), .int z_210, .ref (r_178 17), .int (v_179 9), .ref (r_178 18), .long q_180, .ref (r_178 19), .ref (r_178 20), .int (v_179 10), .int (v_179 11), .int (v_179 12), .ref (r_178 21), .ref (r_178 22), .int (v_179 13), .ref (r_178 23), .int (v_179 14), .int (v_179 15), .ref (r_178 24), .ref (r_178 25), .ref (r_178 26), .ref (r_178 27), .ref (r_178 28), .ref (r_178 29), .ref (r_178 30), .ref (r_178 31)])) b = f b := tp_fr hfr ho (by decide)
        refine tp_put (cy := cy) (ci := 12) (v := .int z_210) (ty := tyX12 25) (C := RX12) (T := TX12) (N := 49) hx hb hta inlX12 tyX12 tyX12_ok nmX12 hown hK hP hD hS ho.1 hf_199 rfl 25 (by decide) (hta _ wk_657) (fun _ h9 => h9) rfl (tyX12_ok 25 (by decide)) rfl rfl (Nat.le_of_ble_eq_true rfl) dX12_tested_106 (fun H locs hP hD hS => ?_)
        have hP : va_P D vwCl (va_pl L (va_up f_198 o (.inr (12, [.ref (r_178 0), .ref (r_178 1), .int (v_179 0), .ref (r_178 2), .ref (r_178 3), .ref (r_178 4), .ref (r_178 5), .ref (r_178 6), .ref (r_178 7), .ref (r_178 8), .ref (r_178 9), .ref (r_178 10), .ref (r_178 11), .ref (r_178 12), .ref (r_178 13), .ref (r_178 14), .ref (r_178 15), .int (v_179 1), .int (v_179 2), .int (v_179 3), .int (v_179 4), .int (v_179 5), .int (v_179 6), .int (v_179 7), .ref (r_178 16), .int z_210, .ref (r_178 17), .int (v_179 9), .ref (r_178 18), .long q_180, .ref (r_178 19), .ref (r_178 20), .int (v_179 10), .int (v_179 11), .int (v_179 12), .ref (r_178 21), .ref (r_178 22), .int (v_179 13), .ref (r_178 23), .int (v_179 14), .int (v_179 15), .ref (r_178 24), .ref (r_178 25), .ref (r_178 26), .ref (r_178 27), .ref (r_178 28), .ref (r_178 29), .ref (r_178 30), .ref (r_178 31)])))) H := hP
        generalize hfe : va_up f_198 o (.inr (12, [.ref (r_178 0), .ref (r_178 1), .int (v_179 0), .ref (r_178 2), .ref (r_178 3), .ref (r_178 4), .ref (r_178 5), .ref (r_178 6), .ref (r_178 7), .ref (r_178 8), .ref (r_178 9), .ref (r_178 10), .ref (r_178 11), .ref (r_178 12), .ref (r_178 13), .ref (r_178 14), .ref (r_178 15), .int (v_179 1), .int (v_179 2), .int (v_179 3), .int (v_179 4), .int (v_179 5), .int (v_179 6), .int (v_179 7), .ref (r_178 16), .int z_210, .ref (r_178 17), .int (v_179 9), .ref (r_178 18), .long q_180, .ref (r_178 19), .ref (r_178 20), .int (v_179 10), .int (v_179 11), .int (v_179 12), .ref (r_178 21), .ref (r_178 22), .int (v_179 13), .ref (r_178 23), .int (v_179 14), .int (v_179 15), .ref (r_178 24), .ref (r_178 25), .ref (r_178 26), .ref (r_178 27), .ref (r_178 28), .ref (r_178 29), .ref (r_178 30), .ref (r_178 31)])) = f_213 at hP hI9 hfr9
        have hD : va_D A (va_pl L f_213) := tp_D hL hAL
        have hf_214 : f_213 o = .inr (12, [.ref (r_178 0), .ref (r_178 1), .int (v_179 0), .ref (r_178 2), .ref (r_178 3), .ref (r_178 4), .ref (r_178 5), .ref (r_178 6), .ref (r_178 7), .ref (r_178 8), .ref (r_178 9), .ref (r_178 10), .ref (r_178 11), .ref (r_178 12), .ref (r_178 13), .ref (r_178 14), .ref (r_178 15), .int (v_179 1), .int (v_179 2), .int (v_179 3), .int (v_179 4), .int (v_179 5), .int (v_179 6), .int (v_179 7), .ref (r_178 16), .int z_210, .ref (r_178 17), .int (v_179 9), .ref (r_178 18), .long q_180, .ref (r_178 19), .ref (r_178 20), .int (v_179 10), .int (v_179 11), .int (v_179 12), .ref (r_178 21), .ref (r_178 22), .int (v_179 13), .ref (r_178 23), .int (v_179 14), .int (v_179 15), .ref (r_178 24), .ref (r_178 25), .ref (r_178 26), .ref (r_178 27), .ref (r_178 28), .ref (r_178 29), .ref (r_178 30), .ref (r_178 31)]) := by rw [← hfe]; exact va_up_self _ _ _
        clear hfe
        have hI := hI9
        have hfr := hfr9
        clear hI9 hfr9
        have hgr : ∀ κ : tk_K, κ.1 ∉ ([39, 43, 44, 52] : List Nat) → Γ_211 κ = Γ κ := tg_fr hgr eΓ_211 (by decide)
        have hx_215 : (v_179 0).toInt = Γ_211 (39, 0, 0) 0 := hv_212 0 (by decide)
        have hx_216 : (v_179 1).toInt = Γ_211 (39, 0, 0) 1 := hv_212 1 (by decide)
        have hx_217 : (v_179 3).toInt = Γ_211 (39, 0, 0) 3 := hv_212 3 (by decide)
        have hx_218 : (v_179 4).toInt = Γ_211 (39, 0, 0) 4 := hv_212 4 (by decide)
        have hx_219 : (v_179 5).toInt = Γ_211 (39, 0, 0) 5 := hv_212 5 (by decide)
        have hx_220 : (v_179 6).toInt = Γ_211 (39, 0, 0) 6 := hv_212 6 (by decide)
        have hx_221 : (v_179 7).toInt = Γ_211 (39, 0, 0) 7 := hv_212 7 (by decide)
        have hx_222 : z_210.toInt = Γ_211 (39, 0, 0) 8 := hv_212 8 (by decide)
        have hO : Γ_211 (52, 400, 0) = tgu (Γ_109 (52, 400, 0)) (Γ_175 (39, 0, 0) 8).toNat u2.toInt := (show Γ_211 (52, 400, 0) = _ from by rw [eΓ_211, tg_rf (by decide)]).trans hO
        obtain ⟨hpa, hpb, hpc, hpd, _⟩ := id hp
        have hle := congrFun (show Γ_211 (44, 22, 0) = _ from by rw [eΓ_211, tg_rf (by decide)]) t0.toNat
        have hp : ps (Γ_211 (43, 8800, 0)) t0 (Γ_211 (44, 22, 0) t0.toNat) (Γ_211 (39, 0, 0) 1) T0 (Γ_211 (39, 0, 0) 5) a (1 + cn (Γ_109 (52, 400, 0)) (Γ_175 (39, 0, 0) 8).toNat) := hp.eq (show Γ_211 (43, 8800, 0) = _ from by rw [eΓ_211, tg_rf (by decide)]) rfl (congrFun (show Γ_211 (44, 22, 0) = _ from by rw [eΓ_211, tg_rf (by decide)]) _) (by omega) rfl (by omega)
        have hz : fz (Γ (43, 8800, 0)) (Γ_211 (43, 8800, 0)) (Γ (44, 22, 0)) (Γ_211 (44, 22, 0)) t0 := by rw [(show Γ_211 (43, 8800, 0) = _ from by rw [eΓ_211, tg_rf (by decide)]), (show Γ_211 (44, 22, 0) = _ from by rw [eΓ_211, tg_rf (by decide)])]; exact hz
        have hfw : fw (Γ (43, 8800, 0)) (Γ_211 (43, 8800, 0)) (Γ (44, 22, 0)) (Γ_211 (44, 22, 0)) t0 := by rw [(show Γ_211 (43, 8800, 0) = _ from by rw [eΓ_211, tg_rf (by decide)]), (show Γ_211 (44, 22, 0) = _ from by rw [eΓ_211, tg_rf (by decide)])]; exact hfw
        refine lv_goto (tgt := 12) hx hb dX12_tested_109 (by decide) ?_
        exact ih12 (f_213, Γ_211, u1) H locs ls (by show (2 * (400 - Γ_211 (39, 0, 0) 1) + u1.toInt).toNat < (2 * (400 - Γ_40 (39, 0, 0) 1) + v1.toInt).toNat; omega) ⟨(show (u1.toInt = 1 ∧ ps (Γ_211 (43, 8800, 0)) t0 (Γ_211 (44, 22, 0) t0.toNat) (Γ_211 (39, 0, 0) 1) T0 (Γ_211 (39, 0, 0) 5) a (cn (Γ_211 (52, 400, 0)) (Γ_211 (39, 0, 0) 8).toNat)) ∨ (u1.toInt = 0 ∧ ps (Γ_211 (43, 8800, 0)) t0 (Γ_211 (44, 22, 0) t0.toNat) (Γ_211 (39, 0, 0) 1) T0 (Γ_211 (39, 0, 0) 5) a (1 + cn (Γ_211 (52, 400, 0)) (Γ_211 (39, 0, 0) 8).toNat)) from (Or.inl ⟨hu1, hp.dd (by rw [hO, show (Γ_211 (39, 0, 0) 8).toNat = (Γ_175 (39, 0, 0) 8).toNat + 1 from by omega, cn_put, if_pos hu2]; omega)⟩)), (show fz (Γ (43, 8800, 0)) (Γ_211 (43, 8800, 0)) (Γ (44, 22, 0)) (Γ_211 (44, 22, 0)) t0 from hz), (show fw (Γ (43, 8800, 0)) (Γ_211 (43, 8800, 0)) (Γ (44, 22, 0)) (Γ_211 (44, 22, 0)) t0 from hfw), (show Γ_211 (39, 0, 0) 0 = Γ (39, 0, 0) 0 from (by omega)), (show Γ_211 (39, 0, 0) 4 = Γ (39, 0, 0) 4 from (by omega)), (show Γ_211 (39, 0, 0) 7 = Γ (39, 0, 0) 7 from (by omega)), (show Γ (39, 0, 0) 1 ≤ Γ_211 (39, 0, 0) 1 ∧ Γ_211 (39, 0, 0) 1 ≤ T0 from (by omega)), (show 0 ≤ Γ_211 (39, 0, 0) 8 ∧ Γ_211 (44, 22, 0) t0.toNat + Γ_211 (39, 0, 0) 8 ≤ Γ_211 (39, 0, 0) 1 from (by omega)), (show ∀ j : Nat, (j : Int) < Γ_211 (39, 0, 0) 8 → ent (Γ_211 (52, 400, 0) j) from (by rw [hO]; exact ent_put (by omega) (fun j9 q9 => hop j9 (by omega)) (Or.inr (hu2.elim Or.inl (fun q => Or.inr (Or.inl q)))) (by omega))), (show Γ (44, 22, 0) t0.toNat ≤ Γ_211 (44, 22, 0) t0.toNat from (by have q9 := hz.2.1; omega)), hP, hI, hfr, hgr, hS, lv_sub hl [0, 2] rfl⟩
      refine lv_aload_n hx hb dX12_tested_29 rfl (lv_at hl 1 rfl) ?_
      refine lv_ldc2 (v := 6385252) hx hb hown (hta _ wk_659) dX12_tested_30 ?_
      obtain ⟨r_224, v_225, q_226, hf_223, hr_227, hv_228⟩ := (show tp_o_M L K 0 0 (Γ_131 (39, 0, 0)) (f_129 o) from hI.at ho)
      refine tq_ciR hS (hAf _ hS.1) (tq_rV (As := [.long 6385252]) (rest := []) ⟨hx, hb, hml, hown, hta⟩ (tp_P.pre hK hN hL hU hI hP) (tp_recv hK hP ho.1 hf_223 rfl) lk_X12_174 (r_X12_isWord l D cy H.size L K Γ_131 f_129 o 6385252 τ T0 ho ((hgr _ (by decide)).trans ht) (by first | omega | (simp only [Int32.toInt_toInt64]; omega) | decide | assumption) (by first | omega | (simp only [Int32.toInt_toInt64]; omega) | decide | assumption)) rfl rfl ⟨Nat.le_of_ble_eq_true rfl, Nat.le_of_ble_eq_true rfl⟩ rfl hl.1 rfl (Nat.le_of_ble_eq_true rfl) dX12_tested_33 ⟨Nat.le_of_ble_eq_true rfl, Nat.le_of_ble_eq_true rfl⟩) (fun r_238 f_239 Γ_241 H locs hw_237 hP hI hc_240 hcg_242 hS => ?_)
      have hD : va_D A (va_pl L f_239) := tp_D hL hAL
      have hfr := tp_fr2 hfr hc_240 (by decide)
      have hgr : ∀ κ : tk_K, κ.1 ∉ ([39, 43, 44, 52] : List Nat) → Γ_241 κ = Γ κ := tg_fr2 hgr hcg_242 (by decide)
      obtain ⟨hE_243, hw_237⟩ := hw_237
      have hE_243 : tl_E r_238 (tr_W τ T0 (Γ_241 (39, 0, 0) 1) 6385252) 1 0 := hE_243
      have hw_237 : Γ_241 (39, 0, 0) 0 = Γ_131 (39, 0, 0) 0 ∧ Γ_241 (39, 0, 0) 3 = Γ_131 (39, 0, 0) 3 ∧ Γ_241 (39, 0, 0) 4 = Γ_131 (39, 0, 0) 4 ∧ Γ_241 (39, 0, 0) 5 = Γ_131 (39, 0, 0) 5 ∧ Γ_241 (39, 0, 0) 6 = Γ_131 (39, 0, 0) 6 ∧ Γ_241 (39, 0, 0) 7 = Γ_131 (39, 0, 0) 7 ∧ Γ_241 (39, 0, 0) 8 = Γ_131 (39, 0, 0) 8 ∧ Γ_131 (39, 0, 0) 1 ≤ Γ_241 (39, 0, 0) 1 ∧ Γ_241 (39, 0, 0) 1 ≤ T0 ∧ (¬ τ (Γ_131 (39, 0, 0) 1).toNat = 32 → Γ_241 (39, 0, 0) 1 = Γ_131 (39, 0, 0) 1) := hw_237
      have hO : Γ_241 (52, 400, 0) = Γ_109 (52, 400, 0) := (hcg_242 (52, 400, 0) (by decide)).trans hO
      obtain ⟨hpa, hpb, hpc, hpd, _⟩ := id hp
      have hle := congrFun (hcg_242 (44, 22, 0) (by decide)) t0.toNat
      have hp : ps (Γ_241 (43, 8800, 0)) t0 (Γ_241 (44, 22, 0) t0.toNat) (Γ_241 (39, 0, 0) 1) T0 (Γ_241 (39, 0, 0) 5) a (1 + cn (Γ_109 (52, 400, 0)) (Γ_131 (39, 0, 0) 8).toNat) := hp.eq (hcg_242 (43, 8800, 0) (by decide)) rfl (congrFun (hcg_242 (44, 22, 0) (by decide)) _) (by omega) rfl (by omega)
      have hz : fz (Γ (43, 8800, 0)) (Γ_241 (43, 8800, 0)) (Γ (44, 22, 0)) (Γ_241 (44, 22, 0)) t0 := by rw [(hcg_242 (43, 8800, 0) (by decide)), (hcg_242 (44, 22, 0) (by decide))]; exact hz
      have hfw : fw (Γ (43, 8800, 0)) (Γ_241 (43, 8800, 0)) (Γ (44, 22, 0)) (Γ_241 (44, 22, 0)) t0 := by rw [(hcg_242 (43, 8800, 0) (by decide)), (hcg_242 (44, 22, 0) (by decide))]; exact hfw
      refine lv_if_ne (tgt := 49) hx hb dX12_tested_36 (by decide) (fun c_244 => ?_) (fun c_244 => ?_)
      · have c_244 := hE_243.t c_244
        refine lv_iconst (v := 1) hx hb dX12_tested_49 (by decide) ?_
        refine lv_goto (tgt := 54) hx hb dX12_tested_50 (by decide) ?_
        refine lv_istore_n (lv' := [(1, .int 1), (0, .ref o)]) hx hb dX12_tested_54 rfl hl (by decide) rfl (fun ls hl => ?_)
        refine lv_iload_n hx hb dX12_tested_55 rfl (lv_at hl 0 rfl) ?_
        refine lv_if_eq (tgt := 12) hx hb dX12_tested_56 (by decide) (fun c => absurd c (by decide)) (fun _ => ?_)
        refine lv_aload_n hx hb dX12_tested_59 rfl (lv_at hl 1 rfl) ?_
        refine lv_ldc2 (v := 6385252) hx hb hown (hta _ wk_659) dX12_tested_60 ?_
        obtain ⟨r_246, v_247, q_248, hf_245, hr_249, hv_250⟩ := (show tp_o_M L K 0 0 (Γ_241 (39, 0, 0)) (f_239 o) from hI.at ho)
        refine tq_ciR hS (hAf _ hS.1) (tq_rV (As := [.long 6385252]) (rest := []) ⟨hx, hb, hml, hown, hta⟩ (tp_P.pre hK hN hL hU hI hP) (tp_recv hK hP ho.1 hf_245 rfl) lk_X12_174 (r_X12_isWord l D cy H.size L K Γ_241 f_239 o 6385252 τ T0 ho ((hgr _ (by decide)).trans ht) (by first | omega | (simp only [Int32.toInt_toInt64]; omega) | decide | assumption) (by first | omega | (simp only [Int32.toInt_toInt64]; omega) | decide | assumption)) rfl rfl ⟨Nat.le_of_ble_eq_true rfl, Nat.le_of_ble_eq_true rfl⟩ rfl hl.1 rfl (Nat.le_of_ble_eq_true rfl) dX12_tested_63 ⟨Nat.le_of_ble_eq_true rfl, Nat.le_of_ble_eq_true rfl⟩) (fun r_260 f_261 Γ_263 H locs hw_259 hP hI hc_262 hcg_264 hS => ?_)
        have hD : va_D A (va_pl L f_261) := tp_D hL hAL
        have hfr := tp_fr2 hfr hc_262 (by decide)
        have hgr : ∀ κ : tk_K, κ.1 ∉ ([39, 43, 44, 52] : List Nat) → Γ_263 κ = Γ κ := tg_fr2 hgr hcg_264 (by decide)
        obtain ⟨hE_265, hw_259⟩ := hw_259
        have hE_265 : tl_E r_260 (tr_W τ T0 (Γ_263 (39, 0, 0) 1) 6385252) 1 0 := hE_265
        have hw_259 : Γ_263 (39, 0, 0) 0 = Γ_241 (39, 0, 0) 0 ∧ Γ_263 (39, 0, 0) 3 = Γ_241 (39, 0, 0) 3 ∧ Γ_263 (39, 0, 0) 4 = Γ_241 (39, 0, 0) 4 ∧ Γ_263 (39, 0, 0) 5 = Γ_241 (39, 0, 0) 5 ∧ Γ_263 (39, 0, 0) 6 = Γ_241 (39, 0, 0) 6 ∧ Γ_263 (39, 0, 0) 7 = Γ_241 (39, 0, 0) 7 ∧ Γ_263 (39, 0, 0) 8 = Γ_241 (39, 0, 0) 8 ∧ Γ_241 (39, 0, 0) 1 ≤ Γ_263 (39, 0, 0) 1 ∧ Γ_263 (39, 0, 0) 1 ≤ T0 ∧ (¬ τ (Γ_241 (39, 0, 0) 1).toNat = 32 → Γ_263 (39, 0, 0) 1 = Γ_241 (39, 0, 0) 1) := hw_259
        have hO : Γ_263 (52, 400, 0) = Γ_109 (52, 400, 0) := (hcg_264 (52, 400, 0) (by decide)).trans hO
        obtain ⟨hpa, hpb, hpc, hpd, _⟩ := id hp
        have hle := congrFun (hcg_264 (44, 22, 0) (by decide)) t0.toNat
        have hp : ps (Γ_263 (43, 8800, 0)) t0 (Γ_263 (44, 22, 0) t0.toNat) (Γ_263 (39, 0, 0) 1) T0 (Γ_263 (39, 0, 0) 5) a (1 + cn (Γ_109 (52, 400, 0)) (Γ_131 (39, 0, 0) 8).toNat) := hp.eq (hcg_264 (43, 8800, 0) (by decide)) rfl (congrFun (hcg_264 (44, 22, 0) (by decide)) _) (by omega) rfl (by omega)
        have hz : fz (Γ (43, 8800, 0)) (Γ_263 (43, 8800, 0)) (Γ (44, 22, 0)) (Γ_263 (44, 22, 0)) t0 := by rw [(hcg_264 (43, 8800, 0) (by decide)), (hcg_264 (44, 22, 0) (by decide))]; exact hz
        have hfw : fw (Γ (43, 8800, 0)) (Γ_263 (43, 8800, 0)) (Γ (44, 22, 0)) (Γ_263 (44, 22, 0)) t0 := by rw [(hcg_264 (43, 8800, 0) (by decide)), (hcg_264 (44, 22, 0) (by decide))]; exact hfw
        have hl3 : tr_L τ T0 (Γ_241 (39, 0, 0) 1) := tr_W.L (by assumption)
        have hn3 := hw_259.2.2.2.2.2.2.2.2.2 (by have q9 := hl3.2; omega)
        have hl4 : tr_L τ T0 (Γ_263 (39, 0, 0) 1) := by rw [hn3]; exact hl3
        refine lv_if_eq (tgt := 74) hx hb dX12_tested_66 (by decide) (fun c_266 => ?_) (fun c_266 => ?_)
        · have c_266 := hE_265.f c_266
          refine lv_bipush (v := 13) hx hb dX12_tested_74 (by decide) ?_
          refine lv_istore_n (lv' := [(2, .int 13), (1, .int 1), (0, .ref o)]) hx hb dX12_tested_76 rfl hl (by decide) rfl (fun ls hl => ?_)
          exact hjn77 f_261 Γ_263 1 13 H locs ls (show ps (Γ_263 (43, 8800, 0)) t0 (Γ_263 (44, 22, 0) t0.toNat) (Γ_263 (39, 0, 0) 1) T0 (Γ_263 (39, 0, 0) 5) a (1 + cn (Γ_109 (52, 400, 0)) (Γ_131 (39, 0, 0) 8).toNat) from hp) (show Γ_263 (52, 400, 0) = Γ_109 (52, 400, 0) from hO) (show fz (Γ (43, 8800, 0)) (Γ_263 (43, 8800, 0)) (Γ (44, 22, 0)) (Γ_263 (44, 22, 0)) t0 from hz) (show fw (Γ (43, 8800, 0)) (Γ_263 (43, 8800, 0)) (Γ (44, 22, 0)) (Γ_263 (44, 22, 0)) t0 from hfw) (show Γ_263 (39, 0, 0) 0 = Γ (39, 0, 0) 0 from (by omega)) (show Γ_263 (39, 0, 0) 4 = Γ (39, 0, 0) 4 from (by omega)) (show Γ_263 (39, 0, 0) 7 = Γ (39, 0, 0) 7 from (by omega)) (show Γ (39, 0, 0) 1 ≤ Γ_263 (39, 0, 0) 1 ∧ Γ_263 (39, 0, 0) 1 ≤ T0 from (by omega)) (show Γ_263 (39, 0, 0) 8 = Γ_131 (39, 0, 0) 8 ∧ 0 ≤ Γ_263 (39, 0, 0) 8 ∧ Γ_263 (44, 22, 0) t0.toNat + Γ_263 (39, 0, 0) 8 ≤ Γ_263 (39, 0, 0) 1 from (by omega)) (show Γ_131 (39, 0, 0) 1 ≤ Γ_263 (39, 0, 0) 1 from (by omega)) (show tr_L τ T0 (Γ_263 (39, 0, 0) 1) from hl4) (show (1 : Int) = 1 from (by decide)) (show (13 : Int) = 12 ∨ (13 : Int) = 13 from (by decide)) hP hI hfr hgr hS (lv_sub hl [1, 0, 2] rfl)
        · have c_266 := hE_265.t c_266
          refine lv_bipush (v := 12) hx hb dX12_tested_69 (by decide) ?_
          refine lv_goto (tgt := 76) hx hb dX12_tested_71 (by decide) ?_
          refine lv_istore_n (lv' := [(2, .int 12), (1, .int 1), (0, .ref o)]) hx hb dX12_tested_76 rfl hl (by decide) rfl (fun ls hl => ?_)
          exact hjn77 f_261 Γ_263 1 12 H locs ls (show ps (Γ_263 (43, 8800, 0)) t0 (Γ_263 (44, 22, 0) t0.toNat) (Γ_263 (39, 0, 0) 1) T0 (Γ_263 (39, 0, 0) 5) a (1 + cn (Γ_109 (52, 400, 0)) (Γ_131 (39, 0, 0) 8).toNat) from hp) (show Γ_263 (52, 400, 0) = Γ_109 (52, 400, 0) from hO) (show fz (Γ (43, 8800, 0)) (Γ_263 (43, 8800, 0)) (Γ (44, 22, 0)) (Γ_263 (44, 22, 0)) t0 from hz) (show fw (Γ (43, 8800, 0)) (Γ_263 (43, 8800, 0)) (Γ (44, 22, 0)) (Γ_263 (44, 22, 0)) t0 from hfw) (show Γ_263 (39, 0, 0) 0 = Γ (39, 0, 0) 0 from (by omega)) (show Γ_263 (39, 0, 0) 4 = Γ (39, 0, 0) 4 from (by omega)) (show Γ_263 (39, 0, 0) 7 = Γ (39, 0, 0) 7 from (by omega)) (show Γ (39, 0, 0) 1 ≤ Γ_263 (39, 0, 0) 1 ∧ Γ_263 (39, 0, 0) 1 ≤ T0 from (by omega)) (show Γ_263 (39, 0, 0) 8 = Γ_131 (39, 0, 0) 8 ∧ 0 ≤ Γ_263 (39, 0, 0) 8 ∧ Γ_263 (44, 22, 0) t0.toNat + Γ_263 (39, 0, 0) 8 ≤ Γ_263 (39, 0, 0) 1 from (by omega)) (show Γ_131 (39, 0, 0) 1 ≤ Γ_263 (39, 0, 0) 1 from (by omega)) (show tr_L τ T0 (Γ_263 (39, 0, 0) 1) from hl4) (show (1 : Int) = 1 from (by decide)) (show (12 : Int) = 12 ∨ (12 : Int) = 13 from (by decide)) hP hI hfr hgr hS (lv_sub hl [1, 0, 2] rfl)
      · have c_244 := hE_243.f c_244
        refine lv_aload_n hx hb dX12_tested_39 rfl (lv_at hl 1 rfl) ?_
        refine lv_ldc2 (v := 28530) hx hb hown (hta _ wk_660) dX12_tested_40 ?_
        obtain ⟨r_268, v_269, q_270, hf_267, hr_271, hv_272⟩ := (show tp_o_M L K 0 0 (Γ_241 (39, 0, 0)) (f_239 o) from hI.at ho)
        refine tq_ciR hS (hAf _ hS.1) (tq_rV (As := [.long 28530]) (rest := []) ⟨hx, hb, hml, hown, hta⟩ (tp_P.pre hK hN hL hU hI hP) (tp_recv hK hP ho.1 hf_267 rfl) lk_X12_174 (r_X12_isWord l D cy H.size L K Γ_241 f_239 o 28530 τ T0 ho ((hgr _ (by decide)).trans ht) (by first | omega | (simp only [Int32.toInt_toInt64]; omega) | decide | assumption) (by first | omega | (simp only [Int32.toInt_toInt64]; omega) | decide | assumption)) rfl rfl ⟨Nat.le_of_ble_eq_true rfl, Nat.le_of_ble_eq_true rfl⟩ rfl hl.1 rfl (Nat.le_of_ble_eq_true rfl) dX12_tested_43 ⟨Nat.le_of_ble_eq_true rfl, Nat.le_of_ble_eq_true rfl⟩) (fun r_282 f_283 Γ_285 H locs hw_281 hP hI hc_284 hcg_286 hS => ?_)
        have hD : va_D A (va_pl L f_283) := tp_D hL hAL
        have hfr := tp_fr2 hfr hc_284 (by decide)
        have hgr : ∀ κ : tk_K, κ.1 ∉ ([39, 43, 44, 52] : List Nat) → Γ_285 κ = Γ κ := tg_fr2 hgr hcg_286 (by decide)
        obtain ⟨hE_287, hw_281⟩ := hw_281
        have hE_287 : tl_E r_282 (tr_W τ T0 (Γ_285 (39, 0, 0) 1) 28530) 1 0 := hE_287
        have hw_281 : Γ_285 (39, 0, 0) 0 = Γ_241 (39, 0, 0) 0 ∧ Γ_285 (39, 0, 0) 3 = Γ_241 (39, 0, 0) 3 ∧ Γ_285 (39, 0, 0) 4 = Γ_241 (39, 0, 0) 4 ∧ Γ_285 (39, 0, 0) 5 = Γ_241 (39, 0, 0) 5 ∧ Γ_285 (39, 0, 0) 6 = Γ_241 (39, 0, 0) 6 ∧ Γ_285 (39, 0, 0) 7 = Γ_241 (39, 0, 0) 7 ∧ Γ_285 (39, 0, 0) 8 = Γ_241 (39, 0, 0) 8 ∧ Γ_241 (39, 0, 0) 1 ≤ Γ_285 (39, 0, 0) 1 ∧ Γ_285 (39, 0, 0) 1 ≤ T0 ∧ (¬ τ (Γ_241 (39, 0, 0) 1).toNat = 32 → Γ_285 (39, 0, 0) 1 = Γ_241 (39, 0, 0) 1) := hw_281
        have hO : Γ_285 (52, 400, 0) = Γ_109 (52, 400, 0) := (hcg_286 (52, 400, 0) (by decide)).trans hO
        obtain ⟨hpa, hpb, hpc, hpd, _⟩ := id hp
        have hle := congrFun (hcg_286 (44, 22, 0) (by decide)) t0.toNat
        have hp : ps (Γ_285 (43, 8800, 0)) t0 (Γ_285 (44, 22, 0) t0.toNat) (Γ_285 (39, 0, 0) 1) T0 (Γ_285 (39, 0, 0) 5) a (1 + cn (Γ_109 (52, 400, 0)) (Γ_131 (39, 0, 0) 8).toNat) := hp.eq (hcg_286 (43, 8800, 0) (by decide)) rfl (congrFun (hcg_286 (44, 22, 0) (by decide)) _) (by omega) rfl (by omega)
        have hz : fz (Γ (43, 8800, 0)) (Γ_285 (43, 8800, 0)) (Γ (44, 22, 0)) (Γ_285 (44, 22, 0)) t0 := by rw [(hcg_286 (43, 8800, 0) (by decide)), (hcg_286 (44, 22, 0) (by decide))]; exact hz
        have hfw : fw (Γ (43, 8800, 0)) (Γ_285 (43, 8800, 0)) (Γ (44, 22, 0)) (Γ_285 (44, 22, 0)) t0 := by rw [(hcg_286 (43, 8800, 0) (by decide)), (hcg_286 (44, 22, 0) (by decide))]; exact hfw
        refine lv_if_eq (tgt := 53) hx hb dX12_tested_46 (by decide) (fun c_288 => ?_) (fun c_288 => ?_)
        · have c_288 := hE_287.f c_288
          refine lv_iconst (v := 0) hx hb dX12_tested_53 (by decide) ?_
          refine lv_istore_n (lv' := [(1, .int 0), (0, .ref o)]) hx hb dX12_tested_54 rfl hl (by decide) rfl (fun ls hl => ?_)
          refine lv_iload_n hx hb dX12_tested_55 rfl (lv_at hl 0 rfl) ?_
          refine lv_if_eq (tgt := 12) hx hb dX12_tested_56 (by decide) (fun _ => ?_) (fun c => absurd c (by decide))
          exact ih12 (f_283, Γ_285, 0) H locs ls (by show (2 * (400 - Γ_285 (39, 0, 0) 1) + (0 : Int)).toNat < (2 * (400 - Γ_40 (39, 0, 0) 1) + v1.toInt).toNat; omega) ⟨(show ((0 : Int) = 1 ∧ ps (Γ_285 (43, 8800, 0)) t0 (Γ_285 (44, 22, 0) t0.toNat) (Γ_285 (39, 0, 0) 1) T0 (Γ_285 (39, 0, 0) 5) a (cn (Γ_285 (52, 400, 0)) (Γ_285 (39, 0, 0) 8).toNat)) ∨ ((0 : Int) = 0 ∧ ps (Γ_285 (43, 8800, 0)) t0 (Γ_285 (44, 22, 0) t0.toNat) (Γ_285 (39, 0, 0) 1) T0 (Γ_285 (39, 0, 0) 5) a (1 + cn (Γ_285 (52, 400, 0)) (Γ_285 (39, 0, 0) 8).toNat)) from (Or.inr ⟨by decide, hp.dd (by rw [hO, show Γ_285 (39, 0, 0) 8 = Γ_131 (39, 0, 0) 8 from by omega])⟩)), (show fz (Γ (43, 8800, 0)) (Γ_285 (43, 8800, 0)) (Γ (44, 22, 0)) (Γ_285 (44, 22, 0)) t0 from hz), (show fw (Γ (43, 8800, 0)) (Γ_285 (43, 8800, 0)) (Γ (44, 22, 0)) (Γ_285 (44, 22, 0)) t0 from hfw), (show Γ_285 (39, 0, 0) 0 = Γ (39, 0, 0) 0 from (by omega)), (show Γ_285 (39, 0, 0) 4 = Γ (39, 0, 0) 4 from (by omega)), (show Γ_285 (39, 0, 0) 7 = Γ (39, 0, 0) 7 from (by omega)), (show Γ (39, 0, 0) 1 ≤ Γ_285 (39, 0, 0) 1 ∧ Γ_285 (39, 0, 0) 1 ≤ T0 from (by omega)), (show 0 ≤ Γ_285 (39, 0, 0) 8 ∧ Γ_285 (44, 22, 0) t0.toNat + Γ_285 (39, 0, 0) 8 ≤ Γ_285 (39, 0, 0) 1 from (by omega)), (show ∀ j : Nat, (j : Int) < Γ_285 (39, 0, 0) 8 → ent (Γ_285 (52, 400, 0) j) from (by rw [hO]; intro j9 q9; exact hop j9 (by omega))), (show Γ (44, 22, 0) t0.toNat ≤ Γ_285 (44, 22, 0) t0.toNat from (by have q9 := hz.2.1; omega)), hP, hI, hfr, hgr, hS, lv_sub hl [0, 1] rfl⟩
        · have c_288 := hE_287.t c_288
          refine lv_iconst (v := 1) hx hb dX12_tested_49 (by decide) ?_
          refine lv_goto (tgt := 54) hx hb dX12_tested_50 (by decide) ?_
          refine lv_istore_n (lv' := [(1, .int 1), (0, .ref o)]) hx hb dX12_tested_54 rfl hl (by decide) rfl (fun ls hl => ?_)
          refine lv_iload_n hx hb dX12_tested_55 rfl (lv_at hl 0 rfl) ?_
          refine lv_if_eq (tgt := 12) hx hb dX12_tested_56 (by decide) (fun c => absurd c (by decide)) (fun _ => ?_)
          refine lv_aload_n hx hb dX12_tested_59 rfl (lv_at hl 1 rfl) ?_
          refine lv_ldc2 (v := 6385252) hx hb hown (hta _ wk_659) dX12_tested_60 ?_
          obtain ⟨r_290, v_291, q_292, hf_289, hr_293, hv_294⟩ := (show tp_o_M L K 0 0 (Γ_285 (39, 0, 0)) (f_283 o) from hI.at ho)
          refine tq_ciR hS (hAf _ hS.1) (tq_rV (As := [.long 6385252]) (rest := []) ⟨hx, hb, hml, hown, hta⟩ (tp_P.pre hK hN hL hU hI hP) (tp_recv hK hP ho.1 hf_289 rfl) lk_X12_174 (r_X12_isWord l D cy H.size L K Γ_285 f_283 o 6385252 τ T0 ho ((hgr _ (by decide)).trans ht) (by first | omega | (simp only [Int32.toInt_toInt64]; omega) | decide | assumption) (by first | omega | (simp only [Int32.toInt_toInt64]; omega) | decide | assumption)) rfl rfl ⟨Nat.le_of_ble_eq_true rfl, Nat.le_of_ble_eq_true rfl⟩ rfl hl.1 rfl (Nat.le_of_ble_eq_true rfl) dX12_tested_63 ⟨Nat.le_of_ble_eq_true rfl, Nat.le_of_ble_eq_true rfl⟩) (fun r_304 f_305 Γ_307 H locs hw_303 hP hI hc_306 hcg_308 hS => ?_)
          have hD : va_D A (va_pl L f_305) := tp_D hL hAL
          have hfr := tp_fr2 hfr hc_306 (by decide)
          have hgr : ∀ κ : tk_K, κ.1 ∉ ([39, 43, 44, 52] : List Nat) → Γ_307 κ = Γ κ := tg_fr2 hgr hcg_308 (by decide)
          obtain ⟨hE_309, hw_303⟩ := hw_303
          have hE_309 : tl_E r_304 (tr_W τ T0 (Γ_307 (39, 0, 0) 1) 6385252) 1 0 := hE_309
          have hw_303 : Γ_307 (39, 0, 0) 0 = Γ_285 (39, 0, 0) 0 ∧ Γ_307 (39, 0, 0) 3 = Γ_285 (39, 0, 0) 3 ∧ Γ_307 (39, 0, 0) 4 = Γ_285 (39, 0, 0) 4 ∧ Γ_307 (39, 0, 0) 5 = Γ_285 (39, 0, 0) 5 ∧ Γ_307 (39, 0, 0) 6 = Γ_285 (39, 0, 0) 6 ∧ Γ_307 (39, 0, 0) 7 = Γ_285 (39, 0, 0) 7 ∧ Γ_307 (39, 0, 0) 8 = Γ_285 (39, 0, 0) 8 ∧ Γ_285 (39, 0, 0) 1 ≤ Γ_307 (39, 0, 0) 1 ∧ Γ_307 (39, 0, 0) 1 ≤ T0 ∧ (¬ τ (Γ_285 (39, 0, 0) 1).toNat = 32 → Γ_307 (39, 0, 0) 1 = Γ_285 (39, 0, 0) 1) := hw_303
          have hO : Γ_307 (52, 400, 0) = Γ_109 (52, 400, 0) := (hcg_308 (52, 400, 0) (by decide)).trans hO
          obtain ⟨hpa, hpb, hpc, hpd, _⟩ := id hp
          have hle := congrFun (hcg_308 (44, 22, 0) (by decide)) t0.toNat
          have hp : ps (Γ_307 (43, 8800, 0)) t0 (Γ_307 (44, 22, 0) t0.toNat) (Γ_307 (39, 0, 0) 1) T0 (Γ_307 (39, 0, 0) 5) a (1 + cn (Γ_109 (52, 400, 0)) (Γ_131 (39, 0, 0) 8).toNat) := hp.eq (hcg_308 (43, 8800, 0) (by decide)) rfl (congrFun (hcg_308 (44, 22, 0) (by decide)) _) (by omega) rfl (by omega)
          have hz : fz (Γ (43, 8800, 0)) (Γ_307 (43, 8800, 0)) (Γ (44, 22, 0)) (Γ_307 (44, 22, 0)) t0 := by rw [(hcg_308 (43, 8800, 0) (by decide)), (hcg_308 (44, 22, 0) (by decide))]; exact hz
          have hfw : fw (Γ (43, 8800, 0)) (Γ_307 (43, 8800, 0)) (Γ (44, 22, 0)) (Γ_307 (44, 22, 0)) t0 := by rw [(hcg_308 (43, 8800, 0) (by decide)), (hcg_308 (44, 22, 0) (by decide))]; exact hfw
          have hl3 : tr_L τ T0 (Γ_285 (39, 0, 0) 1) := tr_W.L (by assumption)
          have hn3 := hw_303.2.2.2.2.2.2.2.2.2 (by have q9 := hl3.2; omega)
          have hl4 : tr_L τ T0 (Γ_307 (39, 0, 0) 1) := by rw [hn3]; exact hl3
          refine lv_if_eq (tgt := 74) hx hb dX12_tested_66 (by decide) (fun c_310 => ?_) (fun c_310 => ?_)
          · have c_310 := hE_309.f c_310
            refine lv_bipush (v := 13) hx hb dX12_tested_74 (by decide) ?_
            refine lv_istore_n (lv' := [(2, .int 13), (1, .int 1), (0, .ref o)]) hx hb dX12_tested_76 rfl hl (by decide) rfl (fun ls hl => ?_)
            exact hjn77 f_305 Γ_307 1 13 H locs ls (show ps (Γ_307 (43, 8800, 0)) t0 (Γ_307 (44, 22, 0) t0.toNat) (Γ_307 (39, 0, 0) 1) T0 (Γ_307 (39, 0, 0) 5) a (1 + cn (Γ_109 (52, 400, 0)) (Γ_131 (39, 0, 0) 8).toNat) from hp) (show Γ_307 (52, 400, 0) = Γ_109 (52, 400, 0) from hO) (show fz (Γ (43, 8800, 0)) (Γ_307 (43, 8800, 0)) (Γ (44, 22, 0)) (Γ_307 (44, 22, 0)) t0 from hz) (show fw (Γ (43, 8800, 0)) (Γ_307 (43, 8800, 0)) (Γ (44, 22, 0)) (Γ_307 (44, 22, 0)) t0 from hfw) (show Γ_307 (39, 0, 0) 0 = Γ (39, 0, 0) 0 from (by omega)) (show Γ_307 (39, 0, 0) 4 = Γ (39, 0, 0) 4 from (by omega)) (show Γ_307 (39, 0, 0) 7 = Γ (39, 0, 0) 7 from (by omega)) (show Γ (39, 0, 0) 1 ≤ Γ_307 (39, 0, 0) 1 ∧ Γ_307 (39, 0, 0) 1 ≤ T0 from (by omega)) (show Γ_307 (39, 0, 0) 8 = Γ_131 (39, 0, 0) 8 ∧ 0 ≤ Γ_307 (39, 0, 0) 8 ∧ Γ_307 (44, 22, 0) t0.toNat + Γ_307 (39, 0, 0) 8 ≤ Γ_307 (39, 0, 0) 1 from (by omega)) (show Γ_131 (39, 0, 0) 1 ≤ Γ_307 (39, 0, 0) 1 from (by omega)) (show tr_L τ T0 (Γ_307 (39, 0, 0) 1) from hl4) (show (1 : Int) = 1 from (by decide)) (show (13 : Int) = 12 ∨ (13 : Int) = 13 from (by decide)) hP hI hfr hgr hS (lv_sub hl [1, 0, 2] rfl)
          · have c_310 := hE_309.t c_310
            refine lv_bipush (v := 12) hx hb dX12_tested_69 (by decide) ?_
            refine lv_goto (tgt := 76) hx hb dX12_tested_71 (by decide) ?_
            refine lv_istore_n (lv' := [(2, .int 12), (1, .int 1), (0, .ref o)]) hx hb dX12_tested_76 rfl hl (by decide) rfl (fun ls hl => ?_)
            exact hjn77 f_305 Γ_307 1 12 H locs ls (show ps (Γ_307 (43, 8800, 0)) t0 (Γ_307 (44, 22, 0) t0.toNat) (Γ_307 (39, 0, 0) 1) T0 (Γ_307 (39, 0, 0) 5) a (1 + cn (Γ_109 (52, 400, 0)) (Γ_131 (39, 0, 0) 8).toNat) from hp) (show Γ_307 (52, 400, 0) = Γ_109 (52, 400, 0) from hO) (show fz (Γ (43, 8800, 0)) (Γ_307 (43, 8800, 0)) (Γ (44, 22, 0)) (Γ_307 (44, 22, 0)) t0 from hz) (show fw (Γ (43, 8800, 0)) (Γ_307 (43, 8800, 0)) (Γ (44, 22, 0)) (Γ_307 (44, 22, 0)) t0 from hfw) (show Γ_307 (39, 0, 0) 0 = Γ (39, 0, 0) 0 from (by omega)) (show Γ_307 (39, 0, 0) 4 = Γ (39, 0, 0) 4 from (by omega)) (show Γ_307 (39, 0, 0) 7 = Γ (39, 0, 0) 7 from (by omega)) (show Γ (39, 0, 0) 1 ≤ Γ_307 (39, 0, 0) 1 ∧ Γ_307 (39, 0, 0) 1 ≤ T0 from (by omega)) (show Γ_307 (39, 0, 0) 8 = Γ_131 (39, 0, 0) 8 ∧ 0 ≤ Γ_307 (39, 0, 0) 8 ∧ Γ_307 (44, 22, 0) t0.toNat + Γ_307 (39, 0, 0) 8 ≤ Γ_307 (39, 0, 0) 1 from (by omega)) (show Γ_131 (39, 0, 0) 1 ≤ Γ_307 (39, 0, 0) 1 from (by omega)) (show tr_L τ T0 (Γ_307 (39, 0, 0) 1) from hl4) (show (1 : Int) = 1 from (by decide)) (show (12 : Int) = 12 ∨ (12 : Int) = 13 from (by decide)) hP hI hfr hgr hS (lv_sub hl [1, 0, 2] rfl)
    · have c_112 := c_112
      refine lv_iconst (v := 0) hx hb dX12_tested_23 (by decide) ?_
      have hpo9 : tl_J (0 : Int32) (ps (Γ_109 (43, 8800, 0)) t0 (Γ_109 (44, 22, 0) t0.toNat) (Γ_109 (39, 0, 0) 1) T0 (Γ_109 (39, 0, 0) 5) a (1) ∧ Γ_109 (44, 22, 0) t0.toNat ≤ Γ_109 (39, 0, 0) 1 ∧ fz (Γ (43, 8800, 0)) (Γ_109 (43, 8800, 0)) (Γ (44, 22, 0)) (Γ_109 (44, 22, 0)) t0) ∧ Γ_109 (39, 0, 0) 0 = Γ (39, 0, 0) 0 ∧ Γ_109 (39, 0, 0) 4 = Γ (39, 0, 0) 4 ∧ Γ_109 (39, 0, 0) 7 = Γ (39, 0, 0) 7 ∧ Γ (39, 0, 0) 1 ≤ Γ_109 (39, 0, 0) 1 ∧ Γ_109 (39, 0, 0) 1 ≤ T0 ∧ fw (Γ (43, 8800, 0)) (Γ_109 (43, 8800, 0)) (Γ (44, 22, 0)) (Γ_109 (44, 22, 0)) t0 := ⟨(Or.inr rfl), ⟨(by omega), (by omega), (by omega), (by omega), (by omega), hfw⟩⟩
      exact W.zret (ty := .boolean) (v := 0) hx hb hr rfl (fun t ht hW => ⟨⟨_, (f_107, Γ_109), rfl, hpo9, by rw [ht]; exact hP, hI, hfr, hgr⟩, hS.F ht⟩) hS.2.2 dX12_tested_24
